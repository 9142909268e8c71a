theorem dX9_sum_32 : decode cX9_sum 32 = .ok (.iaload, 1) := by decide +kernel
theorem dX9_sum_33 : decode cX9_sum 33 = .ok (.goto 9, 3) := by decide +kernel
theorem dX9_sum_36 : decode cX9_sum 36 = .ok (.aload_n 0, 1) := by decide +kernel
theorem dX9_sum_37 : decode cX9_sum 37 = .ok (.iconst 0, 1) := by decide +kernel
theorem dX9_sum_38 : decode cX9_sum 38 = .ok (.iload_n 1, 1) := by decide +kernel
theorem dX9_sum_39 : decode cX9_sum 39 = .ok (.invokevirtual 271, 3) := by decide +kernel
theorem dX9_sum_42 : decode cX9_sum 42 = .ok (.ireturn, 1) := by decide +kernel
set_option maxRecDepth 20000 in
theorem ggX9_parts_X9_in : GoodIn wsX9_parts wsX9_in := goodIn_r _ [5] rfl (by decide +kernel)
set_option maxRecDepth 20000 in
theorem gX9_parts_X9_in : GoodIn wsX9_parts (va_wsS RX9 185 yX9_in wsX9_in) := goodIn_app (goodIn_r _ [2, 3, 4] rfl (by decide +kernel)) ggX9_parts_X9_in
set_option maxRecDepth 20000 in
theorem ggX9_parts_X9_begin : GoodIn wsX9_parts wsX9_begin := goodIn_r _ [9, 10, 11, 12, 13, 14, 15, 16, 17, 18, 1, 19, 20, 21, 22, 112, 113, 114, 115, 116, 117, 118, 119, 120, 121, 122, 123, 124, 125, 126, 127, 128, 129, 130, 131, 132, 133, 134, 135, 136, 137, 138, 139, 140, 141, 142, 143, 144, 145, 146, 147, 148, 149, 150, 151, 152, 153, 154, 155] rfl (by decide +kernel)
set_option maxRecDepth 20000 in
theorem gX9_parts_X9_begin : GoodIn wsX9_parts (wsV RX9 257 RX9 yX9_begin wsX9_begin) := goodIn_app (goodIn_r _ [6, 7, 8, 4] rfl (by decide +kernel)) ggX9_parts_X9_begin
set_option maxRecDepth 20000 in
theorem ggX9_parts_X9_step : GoodIn wsX9_parts wsX9_step := goodIn_r _ [26, 19, 20, 27, 11, 12, 21, 28, 29, 30, 4, 31, 32, 10, 33, 34, 35, 36, 17, 37, 38, 39, 40, 41, 42, 43, 44, 45, 46, 47, 48, 49, 22, 50, 51, 52, 53, 1, 13, 54, 55, 56, 57, 58, 59, 60, 61, 62, 63, 64, 14, 65, 66, 67, 68, 69, 70, 71, 72, 73, 74, 75, 76, 18, 77, 78, 79, 80, 81, 15, 16, 82, 83, 84, 85, 86, 87, 88, 89, 90, 91, 92, 93, 94, 95, 96, 97, 98, 99, 100, 101, 102, 103, 104, 105, 106, 107, 108, 109, 110, 111, 112, 113, 114, 115, 116, 117, 118, 119, 120, 121, 122, 123, 124, 125, 126, 127, 128, 129, 130, 131, 132, 133, 134, 135, 136, 137, 138, 139, 140, 141, 142, 143, 144, 145, 146, 147, 148, 149, 150, 151, 152, 153, 154, 155] rfl (by decide +kernel)
set_option maxRecDepth 20000 in
theorem gX9_parts_X9_step : GoodIn wsX9_parts (wsV RX9 260 RX9 yX9_step wsX9_step) := goodIn_app (goodIn_r _ [23, 24, 25, 4] rfl (by decide +kernel)) ggX9_parts_X9_step
set_option maxRecDepth 20000 in
theorem ggX9_parts_X9_trunk : GoodIn wsX9_parts wsX9_trunk := goodIn_r _ [111, 27, 12, 112, 113, 114, 115, 116, 117, 118, 119, 120, 121, 122, 123, 124, 125, 126, 127, 128, 129, 130, 131, 132, 133, 134, 135, 136, 137, 138, 139, 140, 141, 142, 143, 144, 145, 146, 147, 148, 149, 150, 151, 152, 153, 154, 155] rfl (by decide +kernel)
set_option maxRecDepth 20000 in
theorem gX9_parts_X9_trunk : GoodIn wsX9_parts (wsV RX9 253 RX9 yX9_trunk wsX9_trunk) := goodIn_app (goodIn_r _ [108, 109, 110, 4] rfl (by decide +kernel)) ggX9_parts_X9_trunk
theorem dX9_parts_0 : decode cX9_parts 0 = .ok (.iload_n 1, 1) := by decide +kernel
theorem dX9_parts_1 : decode cX9_parts 1 = .ok (.iconst 0, 1) := by decide +kernel
theorem dX9_parts_2 : decode cX9_parts 2 = .ok (.iconst 3, 1) := by decide +kernel
theorem dX9_parts_3 : decode cX9_parts 3 = .ok (.invokestatic 185, 3) := by decide +kernel
theorem dX9_parts_6 : decode cX9_parts 6 = .ok (.ifCond .eq 12, 3) := by decide +kernel
theorem dX9_parts_9 : decode cX9_parts 9 = .ok (.iload_n 2, 1) := by decide +kernel
theorem dX9_parts_10 : decode cX9_parts 10 = .ok (.iconst 0, 1) := by decide +kernel
theorem dX9_parts_11 : decode cX9_parts 11 = .ok (.iconst 3, 1) := by decide +kernel
theorem dX9_parts_12 : decode cX9_parts 12 = .ok (.invokestatic 185, 3) := by decide +kernel
theorem dX9_parts_15 : decode cX9_parts 15 = .ok (.ifCond .ne 6, 3) := by decide +kernel
theorem dX9_parts_18 : decode cX9_parts 18 = .ok (.bipush (-2), 2) := by decide +kernel
theorem dX9_parts_20 : decode cX9_parts 20 = .ok (.ireturn, 1) := by decide +kernel
theorem dX9_parts_21 : decode cX9_parts 21 = .ok (.aload_n 0, 1) := by decide +kernel
theorem dX9_parts_22 : decode cX9_parts 22 = .ok (.iconst 1, 1) := by decide +kernel
theorem dX9_parts_23 : decode cX9_parts 23 = .ok (.iload_n 1, 1) := by decide +kernel
theorem dX9_parts_24 : decode cX9_parts 24 = .ok (.invokevirtual 257, 3) := by decide +kernel
theorem dX9_parts_27 : decode cX9_parts 27 = .ok (.aload_n 0, 1) := by decide +kernel
theorem dX9_parts_28 : decode cX9_parts 28 = .ok (.iconst 2, 1) := by decide +kernel
theorem dX9_parts_29 : decode cX9_parts 29 = .ok (.iload_n 2, 1) := by decide +kernel
theorem dX9_parts_30 : decode cX9_parts 30 = .ok (.invokevirtual 257, 3) := by decide +kernel
theorem dX9_parts_33 : decode cX9_parts 33 = .ok (.iconst 0, 1) := by decide +kernel
theorem dX9_parts_34 : decode cX9_parts 34 = .ok (.istore_n 3, 1) := by decide +kernel
theorem dX9_parts_35 : decode cX9_parts 35 = .ok (.iload_n 3, 1) := by decide +kernel
theorem dX9_parts_36 : decode cX9_parts 36 = .ok (.sipush 400, 3) := by decide +kernel
theorem dX9_parts_39 : decode cX9_parts 39 = .ok (.if_icmp .ge 53, 3) := by decide +kernel
theorem dX9_parts_42 : decode cX9_parts 42 = .ok (.aload_n 0, 1) := by decide +kernel
theorem dX9_parts_43 : decode cX9_parts 43 = .ok (.iconst 1, 1) := by decide +kernel
theorem dX9_parts_44 : decode cX9_parts 44 = .ok (.iload_n 3, 1) := by decide +kernel
theorem dX9_parts_45 : decode cX9_parts 45 = .ok (.invokevirtual 260, 3) := by decide +kernel
theorem dX9_parts_48 : decode cX9_parts 48 = .ok (.aload_n 0, 1) := by decide +kernel
theorem dX9_parts_49 : decode cX9_parts 49 = .ok (.iconst 2, 1) := by decide +kernel
theorem dX9_parts_50 : decode cX9_parts 50 = .ok (.iload_n 3, 1) := by decide +kernel
theorem dX9_parts_51 : decode cX9_parts 51 = .ok (.invokevirtual 260, 3) := by decide +kernel
theorem dX9_parts_54 : decode cX9_parts 54 = .ok (.aload_n 0, 1) := by decide +kernel
theorem dX9_parts_55 : decode cX9_parts 55 = .ok (.iconst 1, 1) := by decide +kernel
theorem dX9_parts_56 : decode cX9_parts 56 = .ok (.invokevirtual 253, 3) := by decide +kernel
theorem dX9_parts_59 : decode cX9_parts 59 = .ok (.aload_n 0, 1) := by decide +kernel
theorem dX9_parts_60 : decode cX9_parts 60 = .ok (.iconst 2, 1) := by decide +kernel
theorem dX9_parts_61 : decode cX9_parts 61 = .ok (.invokevirtual 253, 3) := by decide +kernel
theorem dX9_parts_64 : decode cX9_parts 64 = .ok (.lcmp, 1) := by decide +kernel
theorem dX9_parts_65 : decode cX9_parts 65 = .ok (.ifCond .ne 19, 3) := by decide +kernel
theorem dX9_parts_68 : decode cX9_parts 68 = .ok (.aload_n 0, 1) := by decide +kernel
theorem dX9_parts_69 : decode cX9_parts 69 = .ok (.getfield 78, 3) := by decide +kernel
theorem dX9_parts_72 : decode cX9_parts 72 = .ok (.iconst 1, 1) := by decide +kernel
theorem dX9_parts_73 : decode cX9_parts 73 = .ok (.laload, 1) := by decide +kernel
theorem dX9_parts_74 : decode cX9_parts 74 = .ok (.aload_n 0, 1) := by decide +kernel
theorem dX9_parts_75 : decode cX9_parts 75 = .ok (.getfield 78, 3) := by decide +kernel
theorem dX9_parts_78 : decode cX9_parts 78 = .ok (.iconst 2, 1) := by decide +kernel
theorem dX9_parts_79 : decode cX9_parts 79 = .ok (.laload, 1) := by decide +kernel
theorem dX9_parts_80 : decode cX9_parts 80 = .ok (.lcmp, 1) := by decide +kernel
theorem dX9_parts_81 : decode cX9_parts 81 = .ok (.ifCond .eq 5, 3) := by decide +kernel
theorem dX9_parts_84 : decode cX9_parts 84 = .ok (.iload_n 3, 1) := by decide +kernel
theorem dX9_parts_85 : decode cX9_parts 85 = .ok (.ireturn, 1) := by decide +kernel
theorem dX9_parts_86 : decode cX9_parts 86 = .ok (.iinc 3 1, 3) := by decide +kernel
theorem dX9_parts_89 : decode cX9_parts 89 = .ok (.goto (-54), 3) := by decide +kernel
theorem dX9_parts_92 : decode cX9_parts 92 = .ok (.iconst (-1), 1) := by decide +kernel
theorem dX9_parts_93 : decode cX9_parts 93 = .ok (.ireturn, 1) := by decide +kernel
set_option maxRecDepth 20000 in
theorem ggX9_prices_X9_in : GoodIn wsX9_prices wsX9_in := goodIn_r _ [5] rfl (by decide +kernel)
set_option maxRecDepth 20000 in
theorem gX9_prices_X9_in : GoodIn wsX9_prices (va_wsS RX9 185 yX9_in wsX9_in) := goodIn_app (goodIn_r _ [2, 3, 4] rfl (by decide +kernel)) ggX9_prices_X9_in
theorem dX9_prices_0 : decode cX9_prices 0 = .ok (.iload_n 1, 1) := by decide +kernel
theorem dX9_prices_1 : decode cX9_prices 1 = .ok (.iconst 0, 1) := by decide +kernel
theorem dX9_prices_2 : decode cX9_prices 2 = .ok (.sipush 1000, 3) := by decide +kernel
theorem dX9_prices_5 : decode cX9_prices 5 = .ok (.invokestatic 185, 3) := by decide +kernel
theorem dX9_prices_8 : decode cX9_prices 8 = .ok (.ifCond .eq 37, 3) := by decide +kernel
theorem dX9_prices_11 : decode cX9_prices 11 = .ok (.iload_n 2, 1) := by decide +kernel
theorem dX9_prices_12 : decode cX9_prices 12 = .ok (.iconst 0, 1) := by decide +kernel
theorem dX9_prices_13 : decode cX9_prices 13 = .ok (.sipush 1000, 3) := by decide +kernel
theorem dX9_prices_16 : decode cX9_prices 16 = .ok (.invokestatic 185, 3) := by decide +kernel
theorem dX9_prices_19 : decode cX9_prices 19 = .ok (.ifCond .eq 26, 3) := by decide +kernel
theorem dX9_prices_22 : decode cX9_prices 22 = .ok (.iload_n 3, 1) := by decide +kernel
theorem dX9_prices_23 : decode cX9_prices 23 = .ok (.iconst 0, 1) := by decide +kernel
theorem dX9_prices_24 : decode cX9_prices 24 = .ok (.sipush 1000, 3) := by decide +kernel
theorem dX9_prices_27 : decode cX9_prices 27 = .ok (.invokestatic 185, 3) := by decide +kernel
theorem dX9_prices_30 : decode cX9_prices 30 = .ok (.ifCond .eq 15, 3) := by decide +kernel
theorem dX9_prices_33 : decode cX9_prices 33 = .ok (.iload 4, 2) := by decide +kernel
theorem dX9_prices_35 : decode cX9_prices 35 = .ok (.iconst 0, 1) := by decide +kernel
theorem dX9_prices_36 : decode cX9_prices 36 = .ok (.sipush 1000, 3) := by decide +kernel
theorem dX9_prices_39 : decode cX9_prices 39 = .ok (.invokestatic 185, 3) := by decide +kernel
theorem dX9_prices_42 : decode cX9_prices 42 = .ok (.ifCond .ne 6, 3) := by decide +kernel
theorem dX9_prices_45 : decode cX9_prices 45 = .ok (.bipush (-2), 2) := by decide +kernel
theorem dX9_prices_47 : decode cX9_prices 47 = .ok (.ireturn, 1) := by decide +kernel
theorem dX9_prices_48 : decode cX9_prices 48 = .ok (.aload_n 0, 1) := by decide +kernel
theorem dX9_prices_49 : decode cX9_prices 49 = .ok (.getfield 116, 3) := by decide +kernel
theorem dX9_prices_52 : decode cX9_prices 52 = .ok (.iconst 0, 1) := by decide +kernel
theorem dX9_prices_53 : decode cX9_prices 53 = .ok (.iload_n 1, 1) := by decide +kernel
theorem dX9_prices_54 : decode cX9_prices 54 = .ok (.iastore, 1) := by decide +kernel
theorem dX9_prices_55 : decode cX9_prices 55 = .ok (.aload_n 0, 1) := by decide +kernel
theorem dX9_prices_56 : decode cX9_prices 56 = .ok (.getfield 116, 3) := by decide +kernel
theorem dX9_prices_59 : decode cX9_prices 59 = .ok (.iconst 1, 1) := by decide +kernel
theorem dX9_prices_60 : decode cX9_prices 60 = .ok (.iload_n 2, 1) := by decide +kernel
theorem dX9_prices_61 : decode cX9_prices 61 = .ok (.iastore, 1) := by decide +kernel
theorem dX9_prices_62 : decode cX9_prices 62 = .ok (.aload_n 0, 1) := by decide +kernel
theorem dX9_prices_63 : decode cX9_prices 63 = .ok (.getfield 116, 3) := by decide +kernel
theorem dX9_prices_66 : decode cX9_prices 66 = .ok (.iconst 2, 1) := by decide +kernel
theorem dX9_prices_67 : decode cX9_prices 67 = .ok (.iload_n 3, 1) := by decide +kernel
theorem dX9_prices_68 : decode cX9_prices 68 = .ok (.iastore, 1) := by decide +kernel
theorem dX9_prices_69 : decode cX9_prices 69 = .ok (.aload_n 0, 1) := by decide +kernel
theorem dX9_prices_70 : decode cX9_prices 70 = .ok (.getfield 116, 3) := by decide +kernel
theorem dX9_prices_73 : decode cX9_prices 73 = .ok (.iconst 3, 1) := by decide +kernel
theorem dX9_prices_74 : decode cX9_prices 74 = .ok (.iload 4, 2) := by decide +kernel
theorem dX9_prices_76 : decode cX9_prices 76 = .ok (.iastore, 1) := by decide +kernel
theorem dX9_prices_77 : decode cX9_prices 77 = .ok (.iconst 1, 1) := by decide +kernel
theorem dX9_prices_78 : decode cX9_prices 78 = .ok (.ireturn, 1) := by decide +kernel
set_option maxRecDepth 20000 in
theorem ggX9_costOf_X9_run : GoodIn wsX9_costOf wsX9_run := goodIn_r _ [6, 7, 8, 9, 5, 10, 11, 12, 13, 14, 15, 16, 17, 18, 19, 20, 21, 22, 23, 24, 25, 26, 27, 28, 29, 30, 31, 32, 33, 34, 35, 36, 37, 38, 39, 40, 41, 42, 43, 44, 45, 46, 47, 48, 49, 50, 51, 52, 53, 54, 55, 56, 57, 58, 59, 60, 61, 62, 63, 64, 65, 66, 67, 68, 69, 70, 71, 72, 73, 74, 75, 76, 77, 78, 79, 80, 81, 82, 83, 84, 85, 86, 87, 88, 89, 90, 91, 92, 93, 94, 95, 96, 97, 98, 99, 100, 101, 102, 103, 104, 105, 106, 107, 108, 109, 110, 111, 112, 113, 118, 119, 120, 121, 122, 123, 124, 125, 126, 127, 128, 129, 130, 131, 132, 133, 134, 135, 136, 137, 138, 139, 140, 141, 142, 143, 144, 145, 146, 147, 148, 149, 150, 151, 152, 153, 154, 155, 156, 157, 158, 159, 160, 161] rfl (by decide +kernel)
set_option maxRecDepth 20000 in
theorem gX9_costOf_X9_run : GoodIn wsX9_costOf (wsV RX9 263 RX9 yX9_run wsX9_run) := goodIn_app (goodIn_r _ [2, 3, 4, 5] rfl (by decide +kernel)) ggX9_costOf_X9_run
set_option maxRecDepth 20000 in
theorem ggX9_costOf_X9_sumOf : GoodIn wsX9_costOf wsX9_sumOf := goodIn_r _ [117, 29, 14, 12, 15, 16, 17, 77, 18, 118, 119, 120, 121, 122, 123, 124, 125, 126, 127, 128, 129, 130, 131, 132, 133, 134, 135, 136, 137, 138, 139, 140, 141, 142, 143, 144, 145, 146, 147, 148, 149, 150, 151, 152, 153, 154, 155, 156, 157, 158, 159, 160, 161] rfl (by decide +kernel)
set_option maxRecDepth 20000 in
theorem gX9_costOf_X9_sumOf : GoodIn wsX9_costOf (wsV RX9 271 RX9 yX9_sumOf wsX9_sumOf) := goodIn_app (goodIn_r _ [114, 115, 116, 5] rfl (by decide +kernel)) ggX9_costOf_X9_sumOf
theorem dX9_costOf_0 : decode cX9_costOf 0 = .ok (.aload_n 0, 1) := by decide +kernel
theorem dX9_costOf_1 : decode cX9_costOf 1 = .ok (.iconst 1, 1) := by decide +kernel
theorem dX9_costOf_2 : decode cX9_costOf 2 = .ok (.iload_n 1, 1) := by decide +kernel
theorem dX9_costOf_3 : decode cX9_costOf 3 = .ok (.invokevirtual 263, 3) := by decide +kernel
theorem dX9_costOf_6 : decode cX9_costOf 6 = .ok (.aload_n 0, 1) := by decide +kernel
theorem dX9_costOf_7 : decode cX9_costOf 7 = .ok (.getfield 116, 3) := by decide +kernel
theorem dX9_costOf_10 : decode cX9_costOf 10 = .ok (.iconst 0, 1) := by decide +kernel
theorem dX9_costOf_11 : decode cX9_costOf 11 = .ok (.iaload, 1) := by decide +kernel
theorem dX9_costOf_12 : decode cX9_costOf 12 = .ok (.aload_n 0, 1) := by decide +kernel
theorem dX9_costOf_13 : decode cX9_costOf 13 = .ok (.iconst 1, 1) := by decide +kernel
theorem dX9_costOf_14 : decode cX9_costOf 14 = .ok (.iconst 0, 1) := by decide +kernel
theorem dX9_costOf_15 : decode cX9_costOf 15 = .ok (.invokevirtual 271, 3) := by decide +kernel
theorem dX9_costOf_18 : decode cX9_costOf 18 = .ok (.imul, 1) := by decide +kernel
theorem dX9_costOf_19 : decode cX9_costOf 19 = .ok (.aload_n 0, 1) := by decide +kernel
theorem dX9_costOf_20 : decode cX9_costOf 20 = .ok (.getfield 116, 3) := by decide +kernel
theorem dX9_costOf_23 : decode cX9_costOf 23 = .ok (.iconst 1, 1) := by decide +kernel
theorem dX9_costOf_24 : decode cX9_costOf 24 = .ok (.iaload, 1) := by decide +kernel
theorem dX9_costOf_25 : decode cX9_costOf 25 = .ok (.aload_n 0, 1) := by decide +kernel
theorem dX9_costOf_26 : decode cX9_costOf 26 = .ok (.iconst 1, 1) := by decide +kernel
theorem dX9_costOf_27 : decode cX9_costOf 27 = .ok (.iconst 3, 1) := by decide +kernel
theorem dX9_costOf_28 : decode cX9_costOf 28 = .ok (.invokevirtual 271, 3) := by decide +kernel
theorem dX9_costOf_31 : decode cX9_costOf 31 = .ok (.imul, 1) := by decide +kernel
theorem dX9_costOf_32 : decode cX9_costOf 32 = .ok (.iadd, 1) := by decide +kernel
theorem dX9_costOf_33 : decode cX9_costOf 33 = .ok (.aload_n 0, 1) := by decide +kernel
theorem dX9_costOf_34 : decode cX9_costOf 34 = .ok (.getfield 116, 3) := by decide +kernel
theorem dX9_costOf_37 : decode cX9_costOf 37 = .ok (.iconst 2, 1) := by decide +kernel
theorem dX9_costOf_38 : decode cX9_costOf 38 = .ok (.iaload, 1) := by decide +kernel
theorem dX9_costOf_39 : decode cX9_costOf 39 = .ok (.aload_n 0, 1) := by decide +kernel
theorem dX9_costOf_40 : decode cX9_costOf 40 = .ok (.iconst 1, 1) := by decide +kernel
theorem dX9_costOf_41 : decode cX9_costOf 41 = .ok (.iconst 5, 1) := by decide +kernel
theorem dX9_costOf_42 : decode cX9_costOf 42 = .ok (.invokevirtual 271, 3) := by decide +kernel
theorem dX9_costOf_45 : decode cX9_costOf 45 = .ok (.imul, 1) := by decide +kernel
theorem dX9_costOf_46 : decode cX9_costOf 46 = .ok (.iadd, 1) := by decide +kernel
theorem dX9_costOf_47 : decode cX9_costOf 47 = .ok (.aload_n 0, 1) := by decide +kernel
theorem dX9_costOf_48 : decode cX9_costOf 48 = .ok (.getfield 116, 3) := by decide +kernel
theorem dX9_costOf_51 : decode cX9_costOf 51 = .ok (.iconst 3, 1) := by decide +kernel
theorem dX9_costOf_52 : decode cX9_costOf 52 = .ok (.iaload, 1) := by decide +kernel
theorem dX9_costOf_53 : decode cX9_costOf 53 = .ok (.aload_n 0, 1) := by decide +kernel
theorem dX9_costOf_54 : decode cX9_costOf 54 = .ok (.iconst 1, 1) := by decide +kernel
theorem dX9_costOf_55 : decode cX9_costOf 55 = .ok (.iconst 2, 1) := by decide +kernel
theorem dX9_costOf_56 : decode cX9_costOf 56 = .ok (.invokevirtual 271, 3) := by decide +kernel
theorem dX9_costOf_59 : decode cX9_costOf 59 = .ok (.imul, 1) := by decide +kernel
theorem dX9_costOf_60 : decode cX9_costOf 60 = .ok (.iadd, 1) := by decide +kernel
theorem dX9_costOf_61 : decode cX9_costOf 61 = .ok (.ireturn, 1) := by decide +kernel
set_option maxRecDepth 20000 in
theorem ggX9_costs_X9_in : GoodIn wsX9_costs wsX9_in := goodIn_r _ [4] rfl (by decide +kernel)
set_option maxRecDepth 20000 in
theorem gX9_costs_X9_in : GoodIn wsX9_costs (va_wsS RX9 185 yX9_in wsX9_in) := goodIn_app (goodIn_r _ [1, 2, 3] rfl (by decide +kernel)) ggX9_costs_X9_in
set_option maxRecDepth 20000 in
theorem ggX9_costs_X9_costOf : GoodIn wsX9_costs wsX9_costOf := goodIn_r _ [8, 9, 10, 11, 12, 3, 13, 14, 15, 16, 17, 18, 19, 20, 21, 22, 23, 24, 25, 26, 27, 28, 29, 30, 31, 32, 33, 34, 35, 36, 37, 38, 39, 40, 41, 42, 43, 44, 45, 46, 47, 48, 49, 50, 51, 52, 53, 54, 55, 56, 57, 58, 59, 60, 61, 62, 63, 64, 65, 66, 67, 68, 69, 70, 71, 72, 73, 74, 75, 76, 77, 78, 79, 80, 81, 82, 83, 84, 85, 86, 87, 88, 89, 90, 91, 92, 93, 94, 95, 96, 97, 98, 99, 100, 101, 102, 103, 104, 105, 106, 107, 108, 109, 110, 111, 112, 113, 114, 115, 116, 117, 118, 119, 120, 121, 122, 123, 124, 125, 126, 127, 128, 129, 130, 131, 132, 133, 134, 135, 136, 137, 138, 139, 140, 141, 142, 143, 144, 145, 146, 147, 148, 149, 150, 151, 152, 153, 154, 155, 156, 157, 158, 159, 160, 161, 162, 163, 164, 165, 166, 167, 168] rfl (by decide +kernel)
set_option maxRecDepth 20000 in
theorem gX9_costs_X9_costOf : GoodIn wsX9_costs (wsV RX9 274 RX9 yX9_costOf wsX9_costOf) := goodIn_app (goodIn_r _ [5, 6, 7, 3] rfl (by decide +kernel)) ggX9_costs_X9_costOf
theorem dX9_costs_0 : decode cX9_costs 0 = .ok (.iload_n 1, 1) := by decide +kernel
theorem dX9_costs_1 : decode cX9_costs 1 = .ok (.iconst 0, 1) := by decide +kernel
theorem dX9_costs_2 : decode cX9_costs 2 = .ok (.iconst 3, 1) := by decide +kernel
theorem dX9_costs_3 : decode cX9_costs 3 = .ok (.invokestatic 185, 3) := by decide +kernel
theorem dX9_costs_6 : decode cX9_costs 6 = .ok (.ifCond .eq 11, 3) := by decide +kernel
theorem dX9_costs_9 : decode cX9_costs 9 = .ok (.aload_n 0, 1) := by decide +kernel
theorem dX9_costs_10 : decode cX9_costs 10 = .ok (.iload_n 1, 1) := by decide +kernel
theorem dX9_costs_11 : decode cX9_costs 11 = .ok (.invokevirtual 274, 3) := by decide +kernel
theorem dX9_costs_14 : decode cX9_costs 14 = .ok (.goto 5, 3) := by decide +kernel
theorem dX9_costs_17 : decode cX9_costs 17 = .ok (.bipush (-2), 2) := by decide +kernel
theorem dX9_costs_19 : decode cX9_costs 19 = .ok (.ireturn, 1) := by decide +kernel
set_option maxRecDepth 20000 in
theorem ggX9_best_X9_in : GoodIn wsX9_best wsX9_in := goodIn_r _ [5] rfl (by decide +kernel)
set_option maxRecDepth 20000 in
theorem gX9_best_X9_in : GoodIn wsX9_best (va_wsS RX9 185 yX9_in wsX9_in) := goodIn_app (goodIn_r _ [2, 3, 4] rfl (by decide +kernel)) ggX9_best_X9_in
set_option maxRecDepth 20000 in
theorem ggX9_best_X9_low : GoodIn wsX9_best wsX9_low := goodIn_r _ [8] rfl (by decide +kernel)
set_option maxRecDepth 20000 in
theorem gX9_best_X9_low : GoodIn wsX9_best (va_wsS RX9 179 yX9_low wsX9_low) := goodIn_app (goodIn_r _ [6, 7, 4] rfl (by decide +kernel)) ggX9_best_X9_low
set_option maxRecDepth 20000 in
theorem ggX9_best_X9_high : GoodIn wsX9_best wsX9_high := goodIn_r _ [11] rfl (by decide +kernel)
set_option maxRecDepth 20000 in
theorem gX9_best_X9_high : GoodIn wsX9_best (va_wsS RX9 182 yX9_high wsX9_high) := goodIn_app (goodIn_r _ [9, 10, 4] rfl (by decide +kernel)) ggX9_best_X9_high
set_option maxRecDepth 20000 in
theorem ggX9_best_X9_costOf : GoodIn wsX9_best wsX9_costOf := goodIn_r _ [15, 16, 17, 18, 19, 4, 20, 21, 22, 23, 24, 25, 26, 27, 28, 29, 30, 31, 32, 33, 34, 35, 36, 37, 38, 39, 40, 41, 42, 43, 44, 45, 46, 47, 1, 48, 49, 50, 51, 52, 53, 54, 55, 56, 57, 58, 59, 60, 61, 62, 63, 64, 65, 66, 67, 68, 69, 70, 71, 72, 73, 74, 75, 76, 77, 78, 79, 80, 81, 82, 83, 84, 85, 86, 87, 88, 89, 90, 91, 92, 93, 94, 95, 96, 97, 98, 99, 100, 101, 102, 103, 104, 105, 106, 107, 108, 109, 110, 111, 112, 113, 114, 115, 116, 117, 118, 119, 120, 121, 122, 123, 124, 125, 126, 127, 128, 129, 130, 131, 132, 133, 134, 135, 136, 137, 138, 139, 140, 141, 142, 143, 144, 145, 146, 147, 148, 149, 150, 151, 152, 153, 154, 155, 156, 157, 158, 159, 160, 161, 162, 163, 164, 165, 166, 167, 168, 169, 170, 171, 172, 173, 174] rfl (by decide +kernel)
set_option maxRecDepth 20000 in
theorem gX9_best_X9_costOf : GoodIn wsX9_best (wsV RX9 274 RX9 yX9_costOf wsX9_costOf) := goodIn_app (goodIn_r _ [12, 13, 14, 4] rfl (by decide +kernel)) ggX9_best_X9_costOf
theorem dX9_best_0 : decode cX9_best 0 = .ok (.iload_n 1, 1) := by decide +kernel
theorem dX9_best_1 : decode cX9_best 1 = .ok (.iconst 0, 1) := by decide +kernel
theorem dX9_best_2 : decode cX9_best 2 = .ok (.iconst 3, 1) := by decide +kernel
theorem dX9_best_3 : decode cX9_best 3 = .ok (.invokestatic 185, 3) := by decide +kernel
theorem dX9_best_6 : decode cX9_best 6 = .ok (.ifCond .eq 49, 3) := by decide +kernel
theorem dX9_best_9 : decode cX9_best 9 = .ok (.iload_n 2, 1) := by decide +kernel
theorem dX9_best_10 : decode cX9_best 10 = .ok (.iconst 0, 1) := by decide +kernel
theorem dX9_best_11 : decode cX9_best 11 = .ok (.iconst 5, 1) := by decide +kernel
theorem dX9_best_12 : decode cX9_best 12 = .ok (.invokestatic 185, 3) := by decide +kernel
theorem dX9_best_15 : decode cX9_best 15 = .ok (.ifCond .eq 40, 3) := by decide +kernel
theorem dX9_best_18 : decode cX9_best 18 = .ok (.iload_n 3, 1) := by decide +kernel
theorem dX9_best_19 : decode cX9_best 19 = .ok (.iload_n 2, 1) := by decide +kernel
theorem dX9_best_20 : decode cX9_best 20 = .ok (.invokestatic 179, 3) := by decide +kernel
theorem dX9_best_23 : decode cX9_best 23 = .ok (.iload_n 2, 1) := by decide +kernel
theorem dX9_best_24 : decode cX9_best 24 = .ok (.invokestatic 182, 3) := by decide +kernel
theorem dX9_best_27 : decode cX9_best 27 = .ok (.invokestatic 185, 3) := by decide +kernel
theorem dX9_best_30 : decode cX9_best 30 = .ok (.ifCond .eq 25, 3) := by decide +kernel
theorem dX9_best_33 : decode cX9_best 33 = .ok (.iload 4, 2) := by decide +kernel
theorem dX9_best_35 : decode cX9_best 35 = .ok (.iload_n 3, 1) := by decide +kernel
theorem dX9_best_36 : decode cX9_best 36 = .ok (.iload_n 2, 1) := by decide +kernel
theorem dX9_best_37 : decode cX9_best 37 = .ok (.invokestatic 182, 3) := by decide +kernel
theorem dX9_best_40 : decode cX9_best 40 = .ok (.invokestatic 185, 3) := by decide +kernel
theorem dX9_best_43 : decode cX9_best 43 = .ok (.ifCond .eq 12, 3) := by decide +kernel
theorem dX9_best_46 : decode cX9_best 46 = .ok (.iload 4, 2) := by decide +kernel
theorem dX9_best_48 : decode cX9_best 48 = .ok (.iload_n 3, 1) := by decide +kernel
theorem dX9_best_49 : decode cX9_best 49 = .ok (.isub, 1) := by decide +kernel
theorem dX9_best_50 : decode cX9_best 50 = .ok (.bipush 29, 2) := by decide +kernel
theorem dX9_best_52 : decode cX9_best 52 = .ok (.if_icmp .le 6, 3) := by decide +kernel
theorem dX9_best_55 : decode cX9_best 55 = .ok (.bipush (-2), 2) := by decide +kernel
theorem dX9_best_57 : decode cX9_best 57 = .ok (.ireturn, 1) := by decide +kernel
theorem dX9_best_58 : decode cX9_best 58 = .ok (.iconst (-1), 1) := by decide +kernel
theorem dX9_best_59 : decode cX9_best 59 = .ok (.istore 5, 2) := by decide +kernel
theorem dX9_best_61 : decode cX9_best 61 = .ok (.iconst 0, 1) := by decide +kernel
theorem dX9_best_62 : decode cX9_best 62 = .ok (.istore 6, 2) := by decide +kernel
theorem dX9_best_64 : decode cX9_best 64 = .ok (.iload_n 3, 1) := by decide +kernel
theorem dX9_best_65 : decode cX9_best 65 = .ok (.istore 7, 2) := by decide +kernel
theorem dX9_best_67 : decode cX9_best 67 = .ok (.iload 7, 2) := by decide +kernel
theorem dX9_best_69 : decode cX9_best 69 = .ok (.iload 4, 2) := by decide +kernel
theorem dX9_best_71 : decode cX9_best 71 = .ok (.if_icmp .gt 109, 3) := by decide +kernel
theorem dX9_best_74 : decode cX9_best 74 = .ok (.iconst 0, 1) := by decide +kernel
theorem dX9_best_75 : decode cX9_best 75 = .ok (.istore 8, 2) := by decide +kernel
theorem dX9_best_77 : decode cX9_best 77 = .ok (.iload 8, 2) := by decide +kernel
theorem dX9_best_79 : decode cX9_best 79 = .ok (.bipush 8, 2) := by decide +kernel
theorem dX9_best_81 : decode cX9_best 81 = .ok (.if_icmp .ge 31, 3) := by decide +kernel
theorem dX9_best_84 : decode cX9_best 84 = .ok (.aload_n 0, 1) := by decide +kernel
theorem dX9_best_85 : decode cX9_best 85 = .ok (.getfield 17, 3) := by decide +kernel
theorem dX9_best_88 : decode cX9_best 88 = .ok (.bipush 40, 2) := by decide +kernel
theorem dX9_best_90 : decode cX9_best 90 = .ok (.iload 8, 2) := by decide +kernel
theorem dX9_best_92 : decode cX9_best 92 = .ok (.iadd, 1) := by decide +kernel
theorem dX9_best_93 : decode cX9_best 93 = .ok (.aload_n 0, 1) := by decide +kernel
theorem dX9_best_94 : decode cX9_best 94 = .ok (.getfield 17, 3) := by decide +kernel
theorem dX9_best_97 : decode cX9_best 97 = .ok (.bipush 8, 2) := by decide +kernel
theorem dX9_best_99 : decode cX9_best 99 = .ok (.iload_n 1, 1) := by decide +kernel
theorem dX9_best_100 : decode cX9_best 100 = .ok (.imul, 1) := by decide +kernel
theorem dX9_best_101 : decode cX9_best 101 = .ok (.iload 8, 2) := by decide +kernel
theorem dX9_best_103 : decode cX9_best 103 = .ok (.iadd, 1) := by decide +kernel
theorem dX9_best_104 : decode cX9_best 104 = .ok (.iaload, 1) := by decide +kernel
theorem dX9_best_105 : decode cX9_best 105 = .ok (.iastore, 1) := by decide +kernel
theorem dX9_best_106 : decode cX9_best 106 = .ok (.iinc 8 1, 3) := by decide +kernel
theorem dX9_best_109 : decode cX9_best 109 = .ok (.goto (-32), 3) := by decide +kernel
theorem dX9_best_112 : decode cX9_best 112 = .ok (.aload_n 0, 1) := by decide +kernel
theorem dX9_best_113 : decode cX9_best 113 = .ok (.getfield 17, 3) := by decide +kernel
theorem dX9_best_116 : decode cX9_best 116 = .ok (.bipush 40, 2) := by decide +kernel
theorem dX9_best_118 : decode cX9_best 118 = .ok (.iload_n 2, 1) := by decide +kernel
theorem dX9_best_119 : decode cX9_best 119 = .ok (.iadd, 1) := by decide +kernel
theorem dX9_best_120 : decode cX9_best 120 = .ok (.iload 7, 2) := by decide +kernel
theorem dX9_best_122 : decode cX9_best 122 = .ok (.iastore, 1) := by decide +kernel
theorem dX9_best_123 : decode cX9_best 123 = .ok (.aload_n 0, 1) := by decide +kernel
theorem dX9_best_124 : decode cX9_best 124 = .ok (.getfield 17, 3) := by decide +kernel
theorem dX9_best_127 : decode cX9_best 127 = .ok (.bipush 41, 2) := by decide +kernel
theorem dX9_best_129 : decode cX9_best 129 = .ok (.iaload, 1) := by decide +kernel
theorem dX9_best_130 : decode cX9_best 130 = .ok (.aload_n 0, 1) := by decide +kernel
theorem dX9_best_131 : decode cX9_best 131 = .ok (.getfield 17, 3) := by decide +kernel
theorem dX9_best_134 : decode cX9_best 134 = .ok (.bipush 40, 2) := by decide +kernel
theorem dX9_best_136 : decode cX9_best 136 = .ok (.iaload, 1) := by decide +kernel
theorem dX9_best_137 : decode cX9_best 137 = .ok (.if_icmp .lt 6, 3) := by decide +kernel
theorem dX9_best_140 : decode cX9_best 140 = .ok (.goto 34, 3) := by decide +kernel
theorem dX9_best_143 : decode cX9_best 143 = .ok (.aload_n 0, 1) := by decide +kernel
theorem dX9_best_144 : decode cX9_best 144 = .ok (.iconst 5, 1) := by decide +kernel
theorem dX9_best_145 : decode cX9_best 145 = .ok (.invokevirtual 274, 3) := by decide +kernel
theorem dX9_best_148 : decode cX9_best 148 = .ok (.istore 8, 2) := by decide +kernel
theorem dX9_best_150 : decode cX9_best 150 = .ok (.iload 5, 2) := by decide +kernel
theorem dX9_best_152 : decode cX9_best 152 = .ok (.iconst (-1), 1) := by decide +kernel
theorem dX9_best_153 : decode cX9_best 153 = .ok (.if_icmp .eq 13, 3) := by decide +kernel
theorem dX9_best_156 : decode cX9_best 156 = .ok (.iload 8, 2) := by decide +kernel
theorem dX9_best_158 : decode cX9_best 158 = .ok (.iload 6, 2) := by decide +kernel
theorem dX9_best_160 : decode cX9_best 160 = .ok (.if_icmp .lt 6, 3) := by decide +kernel
theorem dX9_best_163 : decode cX9_best 163 = .ok (.goto 11, 3) := by decide +kernel
theorem dX9_best_166 : decode cX9_best 166 = .ok (.iload 7, 2) := by decide +kernel
theorem dX9_best_168 : decode cX9_best 168 = .ok (.istore 5, 2) := by decide +kernel
theorem dX9_best_170 : decode cX9_best 170 = .ok (.iload 8, 2) := by decide +kernel
theorem dX9_best_172 : decode cX9_best 172 = .ok (.istore 6, 2) := by decide +kernel
theorem dX9_best_174 : decode cX9_best 174 = .ok (.iinc 7 1, 3) := by decide +kernel
theorem dX9_best_177 : decode cX9_best 177 = .ok (.goto (-110), 3) := by decide +kernel
theorem dX9_best_180 : decode cX9_best 180 = .ok (.iload 5, 2) := by decide +kernel
theorem dX9_best_182 : decode cX9_best 182 = .ok (.ireturn, 1) := by decide +kernel
theorem dX9_count_0 : decode cX9_count 0 = .ok (.iload_n 1, 1) := by decide +kernel
theorem dX9_count_1 : decode cX9_count 1 = .ok (.ifCond .ne 10, 3) := by decide +kernel
theorem dX9_count_4 : decode cX9_count 4 = .ok (.aload_n 0, 1) := by decide +kernel
theorem dX9_count_5 : decode cX9_count 5 = .ok (.getfield 192, 3) := by decide +kernel
theorem dX9_count_8 : decode cX9_count 8 = .ok (.goto 28, 3) := by decide +kernel
theorem dX9_count_11 : decode cX9_count 11 = .ok (.iload_n 1, 1) := by decide +kernel
theorem dX9_count_12 : decode cX9_count 12 = .ok (.iconst 1, 1) := by decide +kernel
theorem dX9_count_13 : decode cX9_count 13 = .ok (.if_icmp .ne 10, 3) := by decide +kernel
theorem dX9_count_16 : decode cX9_count 16 = .ok (.aload_n 0, 1) := by decide +kernel
theorem dX9_count_17 : decode cX9_count 17 = .ok (.getfield 123, 3) := by decide +kernel
theorem dX9_count_20 : decode cX9_count 20 = .ok (.goto 16, 3) := by decide +kernel
theorem dX9_count_23 : decode cX9_count 23 = .ok (.iload_n 1, 1) := by decide +kernel
theorem dX9_count_24 : decode cX9_count 24 = .ok (.iconst 2, 1) := by decide +kernel
theorem dX9_count_25 : decode cX9_count 25 = .ok (.if_icmp .ne 10, 3) := by decide +kernel
theorem dX9_count_28 : decode cX9_count 28 = .ok (.aload_n 0, 1) := by decide +kernel
theorem dX9_count_29 : decode cX9_count 29 = .ok (.getfield 113, 3) := by decide +kernel
theorem dX9_count_32 : decode cX9_count 32 = .ok (.goto 4, 3) := by decide +kernel
theorem dX9_count_35 : decode cX9_count 35 = .ok (.iconst (-1), 1) := by decide +kernel
theorem dX9_count_36 : decode cX9_count 36 = .ok (.ireturn, 1) := by decide +kernel
theorem dJ6_bitCount_0f7a4_0 : decode cJ6_bitCount_0f7a4 0 = .ok (.iload_n 0, 1) := by decide +kernel
theorem dJ6_bitCount_0f7a4_1 : decode cJ6_bitCount_0f7a4 1 = .ok (.iload_n 0, 1) := by decide +kernel
theorem dJ6_bitCount_0f7a4_2 : decode cJ6_bitCount_0f7a4 2 = .ok (.iconst 1, 1) := by decide +kernel
theorem dJ6_bitCount_0f7a4_3 : decode cJ6_bitCount_0f7a4 3 = .ok (.iushr, 1) := by decide +kernel
theorem dJ6_bitCount_0f7a4_4 : decode cJ6_bitCount_0f7a4 4 = .ok (.ldc_w 265, 3) := by decide +kernel
theorem dJ6_bitCount_0f7a4_7 : decode cJ6_bitCount_0f7a4 7 = .ok (.iand, 1) := by decide +kernel
theorem dJ6_bitCount_0f7a4_8 : decode cJ6_bitCount_0f7a4 8 = .ok (.isub, 1) := by decide +kernel
theorem dJ6_bitCount_0f7a4_9 : decode cJ6_bitCount_0f7a4 9 = .ok (.istore_n 0, 1) := by decide +kernel
theorem dJ6_bitCount_0f7a4_10 : decode cJ6_bitCount_0f7a4 10 = .ok (.iload_n 0, 1) := by decide +kernel
theorem dJ6_bitCount_0f7a4_11 : decode cJ6_bitCount_0f7a4 11 = .ok (.ldc_w 266, 3) := by decide +kernel
theorem dJ6_bitCount_0f7a4_14 : decode cJ6_bitCount_0f7a4 14 = .ok (.iand, 1) := by decide +kernel
theorem dJ6_bitCount_0f7a4_15 : decode cJ6_bitCount_0f7a4 15 = .ok (.iload_n 0, 1) := by decide +kernel
theorem dJ6_bitCount_0f7a4_16 : decode cJ6_bitCount_0f7a4 16 = .ok (.iconst 2, 1) := by decide +kernel
theorem dJ6_bitCount_0f7a4_17 : decode cJ6_bitCount_0f7a4 17 = .ok (.iushr, 1) := by decide +kernel
theorem dJ6_bitCount_0f7a4_18 : decode cJ6_bitCount_0f7a4 18 = .ok (.ldc_w 266, 3) := by decide +kernel
theorem dJ6_bitCount_0f7a4_21 : decode cJ6_bitCount_0f7a4 21 = .ok (.iand, 1) := by decide +kernel
theorem dJ6_bitCount_0f7a4_22 : decode cJ6_bitCount_0f7a4 22 = .ok (.iadd, 1) := by decide +kernel
theorem dJ6_bitCount_0f7a4_23 : decode cJ6_bitCount_0f7a4 23 = .ok (.istore_n 0, 1) := by decide +kernel
theorem dJ6_bitCount_0f7a4_24 : decode cJ6_bitCount_0f7a4 24 = .ok (.iload_n 0, 1) := by decide +kernel
theorem dJ6_bitCount_0f7a4_25 : decode cJ6_bitCount_0f7a4 25 = .ok (.iload_n 0, 1) := by decide +kernel
theorem dJ6_bitCount_0f7a4_26 : decode cJ6_bitCount_0f7a4 26 = .ok (.iconst 4, 1) := by decide +kernel
theorem dJ6_bitCount_0f7a4_27 : decode cJ6_bitCount_0f7a4 27 = .ok (.iushr, 1) := by decide +kernel
theorem dJ6_bitCount_0f7a4_28 : decode cJ6_bitCount_0f7a4 28 = .ok (.iadd, 1) := by decide +kernel
theorem dJ6_bitCount_0f7a4_29 : decode cJ6_bitCount_0f7a4 29 = .ok (.ldc_w 267, 3) := by decide +kernel
theorem dJ6_bitCount_0f7a4_32 : decode cJ6_bitCount_0f7a4 32 = .ok (.iand, 1) := by decide +kernel
theorem dJ6_bitCount_0f7a4_33 : decode cJ6_bitCount_0f7a4 33 = .ok (.istore_n 0, 1) := by decide +kernel
theorem dJ6_bitCount_0f7a4_34 : decode cJ6_bitCount_0f7a4 34 = .ok (.iload_n 0, 1) := by decide +kernel
theorem dJ6_bitCount_0f7a4_35 : decode cJ6_bitCount_0f7a4 35 = .ok (.iload_n 0, 1) := by decide +kernel
theorem dJ6_bitCount_0f7a4_36 : decode cJ6_bitCount_0f7a4 36 = .ok (.bipush 8, 2) := by decide +kernel
theorem dJ6_bitCount_0f7a4_38 : decode cJ6_bitCount_0f7a4 38 = .ok (.iushr, 1) := by decide +kernel
theorem dJ6_bitCount_0f7a4_39 : decode cJ6_bitCount_0f7a4 39 = .ok (.iadd, 1) := by decide +kernel
theorem dJ6_bitCount_0f7a4_40 : decode cJ6_bitCount_0f7a4 40 = .ok (.istore_n 0, 1) := by decide +kernel
theorem dJ6_bitCount_0f7a4_41 : decode cJ6_bitCount_0f7a4 41 = .ok (.iload_n 0, 1) := by decide +kernel
theorem dJ6_bitCount_0f7a4_42 : decode cJ6_bitCount_0f7a4 42 = .ok (.iload_n 0, 1) := by decide +kernel
theorem dJ6_bitCount_0f7a4_43 : decode cJ6_bitCount_0f7a4 43 = .ok (.bipush 16, 2) := by decide +kernel
theorem dJ6_bitCount_0f7a4_45 : decode cJ6_bitCount_0f7a4 45 = .ok (.iushr, 1) := by decide +kernel
theorem dJ6_bitCount_0f7a4_46 : decode cJ6_bitCount_0f7a4 46 = .ok (.iadd, 1) := by decide +kernel
theorem dJ6_bitCount_0f7a4_47 : decode cJ6_bitCount_0f7a4 47 = .ok (.istore_n 0, 1) := by decide +kernel
theorem dJ6_bitCount_0f7a4_48 : decode cJ6_bitCount_0f7a4 48 = .ok (.iload_n 0, 1) := by decide +kernel
theorem dJ6_bitCount_0f7a4_49 : decode cJ6_bitCount_0f7a4 49 = .ok (.bipush 63, 2) := by decide +kernel
theorem dJ6_bitCount_0f7a4_51 : decode cJ6_bitCount_0f7a4 51 = .ok (.iand, 1) := by decide +kernel
theorem dJ6_bitCount_0f7a4_52 : decode cJ6_bitCount_0f7a4 52 = .ok (.ireturn, 1) := by decide +kernel
theorem dJ13_bitCount_95d88_0 : decode cJ13_bitCount_95d88 0 = .ok (.lload_n 0, 1) := by decide +kernel
theorem dJ13_bitCount_95d88_1 : decode cJ13_bitCount_95d88 1 = .ok (.lload_n 0, 1) := by decide +kernel
theorem dJ13_bitCount_95d88_2 : decode cJ13_bitCount_95d88 2 = .ok (.iconst 1, 1) := by decide +kernel
theorem dJ13_bitCount_95d88_3 : decode cJ13_bitCount_95d88 3 = .ok (.lushr, 1) := by decide +kernel
theorem dJ13_bitCount_95d88_4 : decode cJ13_bitCount_95d88 4 = .ok (.ldc2_w 314, 3) := by decide +kernel
theorem dJ13_bitCount_95d88_7 : decode cJ13_bitCount_95d88 7 = .ok (.land, 1) := by decide +kernel
theorem dJ13_bitCount_95d88_8 : decode cJ13_bitCount_95d88 8 = .ok (.lsub, 1) := by decide +kernel
theorem dJ13_bitCount_95d88_9 : decode cJ13_bitCount_95d88 9 = .ok (.lstore_n 0, 1) := by decide +kernel
theorem dJ13_bitCount_95d88_10 : decode cJ13_bitCount_95d88 10 = .ok (.lload_n 0, 1) := by decide +kernel
theorem dJ13_bitCount_95d88_11 : decode cJ13_bitCount_95d88 11 = .ok (.ldc2_w 316, 3) := by decide +kernel
theorem dJ13_bitCount_95d88_14 : decode cJ13_bitCount_95d88 14 = .ok (.land, 1) := by decide +kernel
theorem dJ13_bitCount_95d88_15 : decode cJ13_bitCount_95d88 15 = .ok (.lload_n 0, 1) := by decide +kernel
theorem dJ13_bitCount_95d88_16 : decode cJ13_bitCount_95d88 16 = .ok (.iconst 2, 1) := by decide +kernel
theorem dJ13_bitCount_95d88_17 : decode cJ13_bitCount_95d88 17 = .ok (.lushr, 1) := by decide +kernel
theorem dJ13_bitCount_95d88_18 : decode cJ13_bitCount_95d88 18 = .ok (.ldc2_w 316, 3) := by decide +kernel
theorem dJ13_bitCount_95d88_21 : decode cJ13_bitCount_95d88 21 = .ok (.land, 1) := by decide +kernel
theorem dJ13_bitCount_95d88_22 : decode cJ13_bitCount_95d88 22 = .ok (.ladd, 1) := by decide +kernel
theorem dJ13_bitCount_95d88_23 : decode cJ13_bitCount_95d88 23 = .ok (.lstore_n 0, 1) := by decide +kernel
theorem dJ13_bitCount_95d88_24 : decode cJ13_bitCount_95d88 24 = .ok (.lload_n 0, 1) := by decide +kernel
theorem dJ13_bitCount_95d88_25 : decode cJ13_bitCount_95d88 25 = .ok (.lload_n 0, 1) := by decide +kernel
theorem dJ13_bitCount_95d88_26 : decode cJ13_bitCount_95d88 26 = .ok (.iconst 4, 1) := by decide +kernel
theorem dJ13_bitCount_95d88_27 : decode cJ13_bitCount_95d88 27 = .ok (.lushr, 1) := by decide +kernel
theorem dJ13_bitCount_95d88_28 : decode cJ13_bitCount_95d88 28 = .ok (.ladd, 1) := by decide +kernel
theorem dJ13_bitCount_95d88_29 : decode cJ13_bitCount_95d88 29 = .ok (.ldc2_w 318, 3) := by decide +kernel
theorem dJ13_bitCount_95d88_32 : decode cJ13_bitCount_95d88 32 = .ok (.land, 1) := by decide +kernel
theorem dJ13_bitCount_95d88_33 : decode cJ13_bitCount_95d88 33 = .ok (.lstore_n 0, 1) := by decide +kernel
theorem dJ13_bitCount_95d88_34 : decode cJ13_bitCount_95d88 34 = .ok (.lload_n 0, 1) := by decide +kernel
theorem dJ13_bitCount_95d88_35 : decode cJ13_bitCount_95d88 35 = .ok (.lload_n 0, 1) := by decide +kernel
theorem dJ13_bitCount_95d88_36 : decode cJ13_bitCount_95d88 36 = .ok (.bipush 8, 2) := by decide +kernel
theorem dJ13_bitCount_95d88_38 : decode cJ13_bitCount_95d88 38 = .ok (.lushr, 1) := by decide +kernel
theorem dJ13_bitCount_95d88_39 : decode cJ13_bitCount_95d88 39 = .ok (.ladd, 1) := by decide +kernel
theorem dJ13_bitCount_95d88_40 : decode cJ13_bitCount_95d88 40 = .ok (.lstore_n 0, 1) := by decide +kernel
theorem dJ13_bitCount_95d88_41 : decode cJ13_bitCount_95d88 41 = .ok (.lload_n 0, 1) := by decide +kernel
theorem dJ13_bitCount_95d88_42 : decode cJ13_bitCount_95d88 42 = .ok (.lload_n 0, 1) := by decide +kernel
theorem dJ13_bitCount_95d88_43 : decode cJ13_bitCount_95d88 43 = .ok (.bipush 16, 2) := by decide +kernel
theorem dJ13_bitCount_95d88_45 : decode cJ13_bitCount_95d88 45 = .ok (.lushr, 1) := by decide +kernel
theorem dJ13_bitCount_95d88_46 : decode cJ13_bitCount_95d88 46 = .ok (.ladd, 1) := by decide +kernel
theorem dJ13_bitCount_95d88_47 : decode cJ13_bitCount_95d88 47 = .ok (.lstore_n 0, 1) := by decide +kernel
theorem dJ13_bitCount_95d88_48 : decode cJ13_bitCount_95d88 48 = .ok (.lload_n 0, 1) := by decide +kernel
theorem dJ13_bitCount_95d88_49 : decode cJ13_bitCount_95d88 49 = .ok (.lload_n 0, 1) := by decide +kernel
theorem dJ13_bitCount_95d88_50 : decode cJ13_bitCount_95d88 50 = .ok (.bipush 32, 2) := by decide +kernel
theorem dJ13_bitCount_95d88_52 : decode cJ13_bitCount_95d88 52 = .ok (.lushr, 1) := by decide +kernel
theorem dJ13_bitCount_95d88_53 : decode cJ13_bitCount_95d88 53 = .ok (.ladd, 1) := by decide +kernel
theorem dJ13_bitCount_95d88_54 : decode cJ13_bitCount_95d88 54 = .ok (.lstore_n 0, 1) := by decide +kernel
theorem dJ13_bitCount_95d88_55 : decode cJ13_bitCount_95d88 55 = .ok (.lload_n 0, 1) := by decide +kernel
theorem dJ13_bitCount_95d88_56 : decode cJ13_bitCount_95d88 56 = .ok (.l2i, 1) := by decide +kernel
theorem dJ13_bitCount_95d88_57 : decode cJ13_bitCount_95d88 57 = .ok (.bipush 127, 2) := by decide +kernel
theorem dJ13_bitCount_95d88_59 : decode cJ13_bitCount_95d88 59 = .ok (.iand, 1) := by decide +kernel
theorem dJ13_bitCount_95d88_60 : decode cJ13_bitCount_95d88 60 = .ok (.ireturn, 1) := by decide +kernel
theorem dJ9_max_7cf53_0 : decode cJ9_max_7cf53 0 = .ok (.iload_n 0, 1) := by decide +kernel
theorem dJ9_max_7cf53_1 : decode cJ9_max_7cf53 1 = .ok (.iload_n 1, 1) := by decide +kernel
theorem dJ9_max_7cf53_2 : decode cJ9_max_7cf53 2 = .ok (.if_icmp .lt 7, 3) := by decide +kernel
theorem dJ9_max_7cf53_5 : decode cJ9_max_7cf53 5 = .ok (.iload_n 0, 1) := by decide +kernel
theorem dJ9_max_7cf53_6 : decode cJ9_max_7cf53 6 = .ok (.goto 4, 3) := by decide +kernel
theorem dJ9_max_7cf53_9 : decode cJ9_max_7cf53 9 = .ok (.iload_n 1, 1) := by decide +kernel
theorem dJ9_max_7cf53_10 : decode cJ9_max_7cf53 10 = .ok (.ireturn, 1) := by decide +kernel
set_option maxRecDepth 20000 in
theorem ggJ0_length_8abf5_J0_coder_7d493 : GoodIn wsJ0_length_8abf5 wsJ0_coder_7d493 := goodIn_r _ [6, 7, 8] rfl (by decide +kernel)
set_option maxRecDepth 20000 in
theorem gJ0_length_8abf5_J0_coder_7d493 : GoodIn wsJ0_length_8abf5 (wsV RJ0 335 RJ0 yJ0_coder_7d493 wsJ0_coder_7d493) := goodIn_app (goodIn_r _ [2, 3, 4, 5] rfl (by decide +kernel)) ggJ0_length_8abf5_J0_coder_7d493
theorem dJ0_length_8abf5_0 : decode cJ0_length_8abf5 0 = .ok (.aload_n 0, 1) := by decide +kernel
theorem dJ0_length_8abf5_1 : decode cJ0_length_8abf5 1 = .ok (.getfield 9, 3) := by decide +kernel
theorem dJ0_length_8abf5_4 : decode cJ0_length_8abf5 4 = .ok (.arraylength, 1) := by decide +kernel
theorem dJ0_length_8abf5_5 : decode cJ0_length_8abf5 5 = .ok (.aload_n 0, 1) := by decide +kernel
theorem dJ0_length_8abf5_6 : decode cJ0_length_8abf5 6 = .ok (.invokevirtual 335, 3) := by decide +kernel
theorem dJ0_length_8abf5_9 : decode cJ0_length_8abf5 9 = .ok (.ishr, 1) := by decide +kernel
theorem dJ0_length_8abf5_10 : decode cJ0_length_8abf5 10 = .ok (.ireturn, 1) := by decide +kernel
set_option maxRecDepth 20000 in
theorem ggJ0_charAt_5068e_J0_isLatin1_aae02 : GoodIn wsJ0_charAt_5068e wsJ0_isLatin1_aae02 := goodIn_r _ [6, 7, 8] rfl (by decide +kernel)
set_option maxRecDepth 20000 in
theorem gJ0_charAt_5068e_J0_isLatin1_aae02 : GoodIn wsJ0_charAt_5068e (wsV RJ0 492 RJ0 yJ0_isLatin1_aae02 wsJ0_isLatin1_aae02) := goodIn_app (goodIn_r _ [2, 3, 4, 5] rfl (by decide +kernel)) ggJ0_charAt_5068e_J0_isLatin1_aae02
set_option maxRecDepth 20000 in
theorem ggJ0_charAt_5068e_J1_charAt_3b067 : GoodIn wsJ0_charAt_5068e wsJ1_charAt_3b067 := goodIn_r _ [12, 13, 14, 5, 15, 16, 17, 18, 19, 20] rfl (by decide +kernel)
set_option maxRecDepth 20000 in
theorem gJ0_charAt_5068e_J1_charAt_3b067 : GoodIn wsJ0_charAt_5068e (va_wsS RJ0 495 yJ1_charAt_3b067 wsJ1_charAt_3b067) := goodIn_app (goodIn_r _ [9, 10, 11] rfl (by decide +kernel)) ggJ0_charAt_5068e_J1_charAt_3b067
set_option maxRecDepth 20000 in
theorem ggJ0_charAt_5068e_J2_charAt_3b067 : GoodIn wsJ0_charAt_5068e wsJ2_charAt_3b067 := goodIn_r _ [24, 25, 26, 23, 27, 28, 29, 30, 31, 14, 5, 15, 16, 17, 18, 19, 20, 32, 33, 34, 35, 36, 37] rfl (by decide +kernel)
set_option maxRecDepth 20000 in
theorem gJ0_charAt_5068e_J2_charAt_3b067 : GoodIn wsJ0_charAt_5068e (va_wsS RJ0 498 yJ2_charAt_3b067 wsJ2_charAt_3b067) := goodIn_app (goodIn_r _ [21, 22, 23] rfl (by decide +kernel)) ggJ0_charAt_5068e_J2_charAt_3b067
theorem dJ0_charAt_5068e_0 : decode cJ0_charAt_5068e 0 = .ok (.aload_n 0, 1) := by decide +kernel
theorem dJ0_charAt_5068e_1 : decode cJ0_charAt_5068e 1 = .ok (.invokevirtual 492, 3) := by decide +kernel
theorem dJ0_charAt_5068e_4 : decode cJ0_charAt_5068e 4 = .ok (.ifCond .eq 12, 3) := by decide +kernel
theorem dJ0_charAt_5068e_7 : decode cJ0_charAt_5068e 7 = .ok (.aload_n 0, 1) := by decide +kernel
theorem dJ0_charAt_5068e_8 : decode cJ0_charAt_5068e 8 = .ok (.getfield 9, 3) := by decide +kernel
theorem dJ0_charAt_5068e_11 : decode cJ0_charAt_5068e 11 = .ok (.iload_n 1, 1) := by decide +kernel
theorem dJ0_charAt_5068e_12 : decode cJ0_charAt_5068e 12 = .ok (.invokestatic 495, 3) := by decide +kernel
theorem dJ0_charAt_5068e_15 : decode cJ0_charAt_5068e 15 = .ok (.ireturn, 1) := by decide +kernel
theorem dJ0_charAt_5068e_16 : decode cJ0_charAt_5068e 16 = .ok (.aload_n 0, 1) := by decide +kernel
theorem dJ0_charAt_5068e_17 : decode cJ0_charAt_5068e 17 = .ok (.getfield 9, 3) := by decide +kernel
theorem dJ0_charAt_5068e_20 : decode cJ0_charAt_5068e 20 = .ok (.iload_n 1, 1) := by decide +kernel
theorem dJ0_charAt_5068e_21 : decode cJ0_charAt_5068e 21 = .ok (.invokestatic 498, 3) := by decide +kernel
theorem dJ0_charAt_5068e_24 : decode cJ0_charAt_5068e 24 = .ok (.ireturn, 1) := by decide +kernel
theorem dJ0_coder_7d493_0 : decode cJ0_coder_7d493 0 = .ok (.getstatic 38, 3) := by decide +kernel
theorem dJ0_coder_7d493_3 : decode cJ0_coder_7d493 3 = .ok (.ifCond .eq 10, 3) := by decide +kernel
theorem dJ0_coder_7d493_6 : decode cJ0_coder_7d493 6 = .ok (.aload_n 0, 1) := by decide +kernel
theorem dJ0_coder_7d493_7 : decode cJ0_coder_7d493 7 = .ok (.getfield 15, 3) := by decide +kernel
theorem dJ0_coder_7d493_10 : decode cJ0_coder_7d493 10 = .ok (.goto 4, 3) := by decide +kernel
theorem dJ0_coder_7d493_13 : decode cJ0_coder_7d493 13 = .ok (.iconst 1, 1) := by decide +kernel
theorem dJ0_coder_7d493_14 : decode cJ0_coder_7d493 14 = .ok (.ireturn, 1) := by decide +kernel
theorem dJ0_isLatin1_aae02_0 : decode cJ0_isLatin1_aae02 0 = .ok (.getstatic 38, 3) := by decide +kernel
theorem dJ0_isLatin1_aae02_3 : decode cJ0_isLatin1_aae02 3 = .ok (.ifCond .eq 14, 3) := by decide +kernel
theorem dJ0_isLatin1_aae02_6 : decode cJ0_isLatin1_aae02 6 = .ok (.aload_n 0, 1) := by decide +kernel
theorem dJ0_isLatin1_aae02_7 : decode cJ0_isLatin1_aae02 7 = .ok (.getfield 15, 3) := by decide +kernel
theorem dJ0_isLatin1_aae02_10 : decode cJ0_isLatin1_aae02 10 = .ok (.ifCond .ne 7, 3) := by decide +kernel
theorem dJ0_isLatin1_aae02_13 : decode cJ0_isLatin1_aae02 13 = .ok (.iconst 1, 1) := by decide +kernel
theorem dJ0_isLatin1_aae02_14 : decode cJ0_isLatin1_aae02 14 = .ok (.goto 4, 3) := by decide +kernel
theorem dJ0_isLatin1_aae02_17 : decode cJ0_isLatin1_aae02 17 = .ok (.iconst 0, 1) := by decide +kernel
theorem dJ0_isLatin1_aae02_18 : decode cJ0_isLatin1_aae02 18 = .ok (.ireturn, 1) := by decide +kernel
set_option maxRecDepth 20000 in
theorem ggJ0_checkIndex_df160_J3_checkIndex_8e157 : GoodIn wsJ0_checkIndex_df160 wsJ3_checkIndex_8e157 := goodIn_r _ [5] rfl (by decide +kernel)
set_option maxRecDepth 20000 in
theorem gJ0_checkIndex_df160_J3_checkIndex_8e157 : GoodIn wsJ0_checkIndex_df160 (va_wsS RJ0 1059 yJ3_checkIndex_8e157 wsJ3_checkIndex_8e157) := goodIn_app (goodIn_r _ [2, 3, 4] rfl (by decide +kernel)) ggJ0_checkIndex_df160_J3_checkIndex_8e157
theorem dJ0_checkIndex_df160_0 : decode cJ0_checkIndex_df160 0 = .ok (.iload_n 0, 1) := by decide +kernel
theorem dJ0_checkIndex_df160_1 : decode cJ0_checkIndex_df160 1 = .ok (.iload_n 1, 1) := by decide +kernel
theorem dJ0_checkIndex_df160_2 : decode cJ0_checkIndex_df160 2 = .ok (.getstatic 1053, 3) := by decide +kernel
theorem dJ0_checkIndex_df160_5 : decode cJ0_checkIndex_df160 5 = .ok (.invokestatic 1059, 3) := by decide +kernel
theorem dJ0_checkIndex_df160_8 : decode cJ0_checkIndex_df160 8 = .ok (.pop, 1) := by decide +kernel
theorem dJ0_checkIndex_df160_9 : decode cJ0_checkIndex_df160 9 = .ok (.return_, 1) := by decide +kernel
set_option maxRecDepth 20000 in
theorem ggJ1_charAt_3b067_J0_checkIndex_df160 : GoodIn wsJ1_charAt_3b067 wsJ0_checkIndex_df160 := goodIn_r _ [4, 5, 6, 7, 8, 9] rfl (by decide +kernel)
set_option maxRecDepth 20000 in
theorem gJ1_charAt_3b067_J0_checkIndex_df160 : GoodIn wsJ1_charAt_3b067 (va_wsS RJ1 9 yJ0_checkIndex_df160 wsJ0_checkIndex_df160) := goodIn_app (goodIn_r _ [1, 2, 3] rfl (by decide +kernel)) ggJ1_charAt_3b067_J0_checkIndex_df160
theorem dJ1_charAt_3b067_0 : decode cJ1_charAt_3b067 0 = .ok (.iload_n 1, 1) := by decide +kernel
theorem dJ1_charAt_3b067_1 : decode cJ1_charAt_3b067 1 = .ok (.aload_n 0, 1) := by decide +kernel
theorem dJ1_charAt_3b067_2 : decode cJ1_charAt_3b067 2 = .ok (.arraylength, 1) := by decide +kernel
theorem dJ1_charAt_3b067_3 : decode cJ1_charAt_3b067 3 = .ok (.invokestatic 9, 3) := by decide +kernel
theorem dJ1_charAt_3b067_6 : decode cJ1_charAt_3b067 6 = .ok (.aload_n 0, 1) := by decide +kernel
theorem dJ1_charAt_3b067_7 : decode cJ1_charAt_3b067 7 = .ok (.iload_n 1, 1) := by decide +kernel
theorem dJ1_charAt_3b067_8 : decode cJ1_charAt_3b067 8 = .ok (.baload, 1) := by decide +kernel
theorem dJ1_charAt_3b067_9 : decode cJ1_charAt_3b067 9 = .ok (.sipush 255, 3) := by decide +kernel
theorem dJ1_charAt_3b067_12 : decode cJ1_charAt_3b067 12 = .ok (.iand, 1) := by decide +kernel
theorem dJ1_charAt_3b067_13 : decode cJ1_charAt_3b067 13 = .ok (.i2c, 1) := by decide +kernel
theorem dJ1_charAt_3b067_14 : decode cJ1_charAt_3b067 14 = .ok (.ireturn, 1) := by decide +kernel
set_option maxRecDepth 20000 in
theorem ggJ2_getChar_3b067_J2_length_9d52b : GoodIn wsJ2_getChar_3b067 wsJ2_length_9d52b := goodIn_r _ [7] rfl (by decide +kernel)
set_option maxRecDepth 20000 in
theorem gJ2_getChar_3b067_J2_length_9d52b : GoodIn wsJ2_getChar_3b067 (va_wsS RJ2 48 yJ2_length_9d52b wsJ2_length_9d52b) := goodIn_app (goodIn_r _ [4, 5, 6] rfl (by decide +kernel)) ggJ2_getChar_3b067_J2_length_9d52b
theorem dJ2_getChar_3b067_0 : decode cJ2_getChar_3b067 0 = .ok (.getstatic 44, 3) := by decide +kernel
theorem dJ2_getChar_3b067_3 : decode cJ2_getChar_3b067 3 = .ok (.ifCond .ne 25, 3) := by decide +kernel
theorem dJ2_getChar_3b067_6 : decode cJ2_getChar_3b067 6 = .ok (.iload_n 1, 1) := by decide +kernel
theorem dJ2_getChar_3b067_7 : decode cJ2_getChar_3b067 7 = .ok (.ifCond .lt 11, 3) := by decide +kernel
theorem dJ2_getChar_3b067_10 : decode cJ2_getChar_3b067 10 = .ok (.iload_n 1, 1) := by decide +kernel
theorem dJ2_getChar_3b067_11 : decode cJ2_getChar_3b067 11 = .ok (.aload_n 0, 1) := by decide +kernel
theorem dJ2_getChar_3b067_12 : decode cJ2_getChar_3b067 12 = .ok (.invokestatic 48, 3) := by decide +kernel
theorem dJ2_getChar_3b067_15 : decode cJ2_getChar_3b067 15 = .ok (.if_icmp .lt 13, 3) := by decide +kernel
theorem dJ2_getChar_3b067_18 : decode cJ2_getChar_3b067 18 = .ok (.new 52, 3) := by decide +kernel
theorem dJ2_getChar_3b067_21 : decode cJ2_getChar_3b067 21 = .ok (.dup, 1) := by decide +kernel
theorem dJ2_getChar_3b067_22 : decode cJ2_getChar_3b067 22 = .ok (.ldc 54, 2) := by decide +kernel
theorem dJ2_getChar_3b067_24 : decode cJ2_getChar_3b067 24 = .ok (.invokespecial 56, 3) := by decide +kernel
theorem dJ2_getChar_3b067_27 : decode cJ2_getChar_3b067 27 = .ok (.athrow, 1) := by decide +kernel
theorem dJ2_getChar_3b067_28 : decode cJ2_getChar_3b067 28 = .ok (.iload_n 1, 1) := by decide +kernel
theorem dJ2_getChar_3b067_29 : decode cJ2_getChar_3b067 29 = .ok (.iconst 1, 1) := by decide +kernel
theorem dJ2_getChar_3b067_30 : decode cJ2_getChar_3b067 30 = .ok (.ishl, 1) := by decide +kernel
theorem dJ2_getChar_3b067_31 : decode cJ2_getChar_3b067 31 = .ok (.istore_n 1, 1) := by decide +kernel
theorem dJ2_getChar_3b067_32 : decode cJ2_getChar_3b067 32 = .ok (.aload_n 0, 1) := by decide +kernel
theorem dJ2_getChar_3b067_33 : decode cJ2_getChar_3b067 33 = .ok (.iload_n 1, 1) := by decide +kernel
theorem dJ2_getChar_3b067_34 : decode cJ2_getChar_3b067 34 = .ok (.iinc 1 1, 3) := by decide +kernel
theorem dJ2_getChar_3b067_37 : decode cJ2_getChar_3b067 37 = .ok (.baload, 1) := by decide +kernel
theorem dJ2_getChar_3b067_38 : decode cJ2_getChar_3b067 38 = .ok (.sipush 255, 3) := by decide +kernel
theorem dJ2_getChar_3b067_41 : decode cJ2_getChar_3b067 41 = .ok (.iand, 1) := by decide +kernel
theorem dJ2_getChar_3b067_42 : decode cJ2_getChar_3b067 42 = .ok (.getstatic 59, 3) := by decide +kernel
theorem dJ2_getChar_3b067_45 : decode cJ2_getChar_3b067 45 = .ok (.ishl, 1) := by decide +kernel
theorem dJ2_getChar_3b067_46 : decode cJ2_getChar_3b067 46 = .ok (.aload_n 0, 1) := by decide +kernel
theorem dJ2_getChar_3b067_47 : decode cJ2_getChar_3b067 47 = .ok (.iload_n 1, 1) := by decide +kernel
theorem dJ2_getChar_3b067_48 : decode cJ2_getChar_3b067 48 = .ok (.baload, 1) := by decide +kernel
theorem dJ2_getChar_3b067_49 : decode cJ2_getChar_3b067 49 = .ok (.sipush 255, 3) := by decide +kernel
theorem dJ2_getChar_3b067_52 : decode cJ2_getChar_3b067 52 = .ok (.iand, 1) := by decide +kernel
theorem dJ2_getChar_3b067_53 : decode cJ2_getChar_3b067 53 = .ok (.getstatic 63, 3) := by decide +kernel
theorem dJ2_getChar_3b067_56 : decode cJ2_getChar_3b067 56 = .ok (.ishl, 1) := by decide +kernel
theorem dJ2_getChar_3b067_57 : decode cJ2_getChar_3b067 57 = .ok (.ior, 1) := by decide +kernel
theorem dJ2_getChar_3b067_58 : decode cJ2_getChar_3b067 58 = .ok (.i2c, 1) := by decide +kernel
theorem dJ2_getChar_3b067_59 : decode cJ2_getChar_3b067 59 = .ok (.ireturn, 1) := by decide +kernel
theorem dJ2_length_9d52b_0 : decode cJ2_length_9d52b 0 = .ok (.aload_n 0, 1) := by decide +kernel
theorem dJ2_length_9d52b_1 : decode cJ2_length_9d52b 1 = .ok (.arraylength, 1) := by decide +kernel
theorem dJ2_length_9d52b_2 : decode cJ2_length_9d52b 2 = .ok (.iconst 1, 1) := by decide +kernel
theorem dJ2_length_9d52b_3 : decode cJ2_length_9d52b 3 = .ok (.ishr, 1) := by decide +kernel
theorem dJ2_length_9d52b_4 : decode cJ2_length_9d52b 4 = .ok (.ireturn, 1) := by decide +kernel
set_option maxRecDepth 20000 in
theorem ggJ2_charAt_3b067_J2_checkIndex_2214a : GoodIn wsJ2_charAt_3b067 wsJ2_checkIndex_2214a := goodIn_r _ [4, 5, 6, 3, 7, 8, 9, 10, 11, 12, 13, 14, 15, 16] rfl (by decide +kernel)
set_option maxRecDepth 20000 in
theorem gJ2_charAt_3b067_J2_checkIndex_2214a : GoodIn wsJ2_charAt_3b067 (va_wsS RJ2 67 yJ2_checkIndex_2214a wsJ2_checkIndex_2214a) := goodIn_app (goodIn_r _ [1, 2, 3] rfl (by decide +kernel)) ggJ2_charAt_3b067_J2_checkIndex_2214a
set_option maxRecDepth 20000 in
theorem ggJ2_charAt_3b067_J2_getChar_3b067 : GoodIn wsJ2_charAt_3b067 wsJ2_getChar_3b067 := goodIn_r _ [19, 20, 21, 22, 5, 6, 3, 7] rfl (by decide +kernel)
set_option maxRecDepth 20000 in
theorem gJ2_charAt_3b067_J2_getChar_3b067 : GoodIn wsJ2_charAt_3b067 (va_wsS RJ2 71 yJ2_getChar_3b067 wsJ2_getChar_3b067) := goodIn_app (goodIn_r _ [17, 18, 3] rfl (by decide +kernel)) ggJ2_charAt_3b067_J2_getChar_3b067
theorem dJ2_charAt_3b067_0 : decode cJ2_charAt_3b067 0 = .ok (.iload_n 1, 1) := by decide +kernel
theorem dJ2_charAt_3b067_1 : decode cJ2_charAt_3b067 1 = .ok (.aload_n 0, 1) := by decide +kernel
theorem dJ2_charAt_3b067_2 : decode cJ2_charAt_3b067 2 = .ok (.invokestatic 67, 3) := by decide +kernel
theorem dJ2_charAt_3b067_5 : decode cJ2_charAt_3b067 5 = .ok (.aload_n 0, 1) := by decide +kernel
theorem dJ2_charAt_3b067_6 : decode cJ2_charAt_3b067 6 = .ok (.iload_n 1, 1) := by decide +kernel
theorem dJ2_charAt_3b067_7 : decode cJ2_charAt_3b067 7 = .ok (.invokestatic 71, 3) := by decide +kernel
theorem dJ2_charAt_3b067_10 : decode cJ2_charAt_3b067 10 = .ok (.ireturn, 1) := by decide +kernel
set_option maxRecDepth 20000 in
theorem ggJ2_checkIndex_2214a_J2_length_9d52b : GoodIn wsJ2_checkIndex_2214a wsJ2_length_9d52b := goodIn_r _ [4] rfl (by decide +kernel)
set_option maxRecDepth 20000 in
theorem gJ2_checkIndex_2214a_J2_length_9d52b : GoodIn wsJ2_checkIndex_2214a (va_wsS RJ2 48 yJ2_length_9d52b wsJ2_length_9d52b) := goodIn_app (goodIn_r _ [1, 2, 3] rfl (by decide +kernel)) ggJ2_checkIndex_2214a_J2_length_9d52b
set_option maxRecDepth 20000 in
theorem ggJ2_checkIndex_2214a_J0_checkIndex_df160 : GoodIn wsJ2_checkIndex_2214a wsJ0_checkIndex_df160 := goodIn_r _ [8, 9, 10, 11, 12, 13] rfl (by decide +kernel)
set_option maxRecDepth 20000 in
theorem gJ2_checkIndex_2214a_J0_checkIndex_df160 : GoodIn wsJ2_checkIndex_2214a (va_wsS RJ2 414 yJ0_checkIndex_df160 wsJ0_checkIndex_df160) := goodIn_app (goodIn_r _ [5, 6, 7] rfl (by decide +kernel)) ggJ2_checkIndex_2214a_J0_checkIndex_df160
theorem dJ2_checkIndex_2214a_0 : decode cJ2_checkIndex_2214a 0 = .ok (.iload_n 0, 1) := by decide +kernel
theorem dJ2_checkIndex_2214a_1 : decode cJ2_checkIndex_2214a 1 = .ok (.aload_n 1, 1) := by decide +kernel
theorem dJ2_checkIndex_2214a_2 : decode cJ2_checkIndex_2214a 2 = .ok (.invokestatic 48, 3) := by decide +kernel
theorem dJ2_checkIndex_2214a_5 : decode cJ2_checkIndex_2214a 5 = .ok (.invokestatic 414, 3) := by decide +kernel
theorem dJ2_checkIndex_2214a_8 : decode cJ2_checkIndex_2214a 8 = .ok (.return_, 1) := by decide +kernel
theorem dJ7_fill_d0a16_0 : decode cJ7_fill_d0a16 0 = .ok (.iconst 0, 1) := by decide +kernel
theorem dJ7_fill_d0a16_1 : decode cJ7_fill_d0a16 1 = .ok (.istore_n 3, 1) := by decide +kernel
theorem dJ7_fill_d0a16_2 : decode cJ7_fill_d0a16 2 = .ok (.aload_n 0, 1) := by decide +kernel
theorem dJ7_fill_d0a16_3 : decode cJ7_fill_d0a16 3 = .ok (.arraylength, 1) := by decide +kernel
theorem dJ7_fill_d0a16_4 : decode cJ7_fill_d0a16 4 = .ok (.istore 4, 2) := by decide +kernel
theorem dJ7_fill_d0a16_6 : decode cJ7_fill_d0a16 6 = .ok (.iload_n 3, 1) := by decide +kernel
theorem dJ7_fill_d0a16_7 : decode cJ7_fill_d0a16 7 = .ok (.iload 4, 2) := by decide +kernel
theorem dJ7_fill_d0a16_9 : decode cJ7_fill_d0a16 9 = .ok (.if_icmp .ge 13, 3) := by decide +kernel
theorem dJ7_fill_d0a16_12 : decode cJ7_fill_d0a16 12 = .ok (.aload_n 0, 1) := by decide +kernel
theorem dJ7_fill_d0a16_13 : decode cJ7_fill_d0a16 13 = .ok (.iload_n 3, 1) := by decide +kernel
theorem dJ7_fill_d0a16_14 : decode cJ7_fill_d0a16 14 = .ok (.lload_n 1, 1) := by decide +kernel
theorem dJ7_fill_d0a16_15 : decode cJ7_fill_d0a16 15 = .ok (.lastore, 1) := by decide +kernel
theorem dJ7_fill_d0a16_16 : decode cJ7_fill_d0a16 16 = .ok (.iinc 3 1, 3) := by decide +kernel
theorem dJ7_fill_d0a16_19 : decode cJ7_fill_d0a16 19 = .ok (.goto (-13), 3) := by decide +kernel
theorem dJ7_fill_d0a16_22 : decode cJ7_fill_d0a16 22 = .ok (.return_, 1) := by decide +kernel
theorem dJ7_fill_53178_0 : decode cJ7_fill_53178 0 = .ok (.iconst 0, 1) := by decide +kernel
theorem dJ7_fill_53178_1 : decode cJ7_fill_53178 1 = .ok (.istore_n 2, 1) := by decide +kernel
theorem dJ7_fill_53178_2 : decode cJ7_fill_53178 2 = .ok (.aload_n 0, 1) := by decide +kernel
theorem dJ7_fill_53178_3 : decode cJ7_fill_53178 3 = .ok (.arraylength, 1) := by decide +kernel
theorem dJ7_fill_53178_4 : decode cJ7_fill_53178 4 = .ok (.istore_n 3, 1) := by decide +kernel
theorem dJ7_fill_53178_5 : decode cJ7_fill_53178 5 = .ok (.iload_n 2, 1) := by decide +kernel
theorem dJ7_fill_53178_6 : decode cJ7_fill_53178 6 = .ok (.iload_n 3, 1) := by decide +kernel
theorem dJ7_fill_53178_7 : decode cJ7_fill_53178 7 = .ok (.if_icmp .ge 13, 3) := by decide +kernel
theorem dJ7_fill_53178_10 : decode cJ7_fill_53178 10 = .ok (.aload_n 0, 1) := by decide +kernel
theorem dJ7_fill_53178_11 : decode cJ7_fill_53178 11 = .ok (.iload_n 2, 1) := by decide +kernel
theorem dJ7_fill_53178_12 : decode cJ7_fill_53178 12 = .ok (.iload_n 1, 1) := by decide +kernel
theorem dJ7_fill_53178_13 : decode cJ7_fill_53178 13 = .ok (.iastore, 1) := by decide +kernel
theorem dJ7_fill_53178_14 : decode cJ7_fill_53178 14 = .ok (.iinc 2 1, 3) := by decide +kernel
theorem dJ7_fill_53178_17 : decode cJ7_fill_53178 17 = .ok (.goto (-12), 3) := by decide +kernel
theorem dJ7_fill_53178_20 : decode cJ7_fill_53178 20 = .ok (.return_, 1) := by decide +kernel
theorem dJ3_checkIndex_8e157_0 : decode cJ3_checkIndex_8e157 0 = .ok (.iload_n 0, 1) := by decide +kernel
theorem dJ3_checkIndex_8e157_1 : decode cJ3_checkIndex_8e157 1 = .ok (.ifCond .lt 8, 3) := by decide +kernel
theorem dJ3_checkIndex_8e157_4 : decode cJ3_checkIndex_8e157 4 = .ok (.iload_n 0, 1) := by decide +kernel
theorem dJ3_checkIndex_8e157_5 : decode cJ3_checkIndex_8e157 5 = .ok (.iload_n 1, 1) := by decide +kernel
theorem dJ3_checkIndex_8e157_6 : decode cJ3_checkIndex_8e157 6 = .ok (.if_icmp .lt 10, 3) := by decide +kernel
theorem dJ3_checkIndex_8e157_9 : decode cJ3_checkIndex_8e157 9 = .ok (.aload_n 2, 1) := by decide +kernel
theorem dJ3_checkIndex_8e157_10 : decode cJ3_checkIndex_8e157 10 = .ok (.iload_n 0, 1) := by decide +kernel
theorem dJ3_checkIndex_8e157_11 : decode cJ3_checkIndex_8e157 11 = .ok (.iload_n 1, 1) := by decide +kernel
theorem dJ3_checkIndex_8e157_12 : decode cJ3_checkIndex_8e157 12 = .ok (.invokestatic 95, 3) := by decide +kernel
theorem dJ3_checkIndex_8e157_15 : decode cJ3_checkIndex_8e157 15 = .ok (.athrow, 1) := by decide +kernel
theorem dJ3_checkIndex_8e157_16 : decode cJ3_checkIndex_8e157 16 = .ok (.iload_n 0, 1) := by decide +kernel
theorem dJ3_checkIndex_8e157_17 : decode cJ3_checkIndex_8e157 17 = .ok (.ireturn, 1) := by decide +kernel
abbrev vwCl : List vw_C := [(RX0, TX0, 1), (RX1, TX1, 12), (RX2, TX2, 2), (RX3, TX3, 5), (RX4, TX4, 20), (RX5, TX5, 4), (RX6, TX6, 7), (RX7, TX7, 2), (RX8, TX8, 9), (RX9, TX9, 44)]
