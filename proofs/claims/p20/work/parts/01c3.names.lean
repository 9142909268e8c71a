theorem dX9_begin_113 : decode cX9_begin 113 = .ok (.aload_n 0, 1) := by decide +kernel
theorem dX9_begin_114 : decode cX9_begin 114 = .ok (.getfield 92, 3) := by decide +kernel
theorem dX9_begin_117 : decode cX9_begin 117 = .ok (.iload_n 1, 1) := by decide +kernel
theorem dX9_begin_118 : decode cX9_begin 118 = .ok (.iconst 0, 1) := by decide +kernel
theorem dX9_begin_119 : decode cX9_begin 119 = .ok (.iastore, 1) := by decide +kernel
theorem dX9_begin_120 : decode cX9_begin 120 = .ok (.return_, 1) := by decide +kernel
theorem dX9_isIn_0 : decode cX9_isIn 0 = .ok (.lload_n 0, 1) := by decide +kernel
theorem dX9_isIn_1 : decode cX9_isIn 1 = .ok (.iload_n 2, 1) := by decide +kernel
theorem dX9_isIn_2 : decode cX9_isIn 2 = .ok (.lshr, 1) := by decide +kernel
theorem dX9_isIn_3 : decode cX9_isIn 3 = .ok (.lconst 1, 1) := by decide +kernel
theorem dX9_isIn_4 : decode cX9_isIn 4 = .ok (.land, 1) := by decide +kernel
theorem dX9_isIn_5 : decode cX9_isIn 5 = .ok (.lconst 1, 1) := by decide +kernel
theorem dX9_isIn_6 : decode cX9_isIn 6 = .ok (.lcmp, 1) := by decide +kernel
theorem dX9_isIn_7 : decode cX9_isIn 7 = .ok (.ifCond .ne 7, 3) := by decide +kernel
theorem dX9_isIn_10 : decode cX9_isIn 10 = .ok (.iconst 1, 1) := by decide +kernel
theorem dX9_isIn_11 : decode cX9_isIn 11 = .ok (.goto 4, 3) := by decide +kernel
theorem dX9_isIn_14 : decode cX9_isIn 14 = .ok (.iconst 0, 1) := by decide +kernel
theorem dX9_isIn_15 : decode cX9_isIn 15 = .ok (.ireturn, 1) := by decide +kernel
set_option maxRecDepth 20000 in
theorem ggX9_letOut_X9_isIn : GoodIn wsX9_letOut wsX9_isIn := goodIn_r _ [12] rfl (by decide +kernel)
set_option maxRecDepth 20000 in
theorem gX9_letOut_X9_isIn : GoodIn wsX9_letOut (va_wsS RX9 199 yX9_isIn wsX9_isIn) := goodIn_app (goodIn_r _ [9, 10, 11] rfl (by decide +kernel)) ggX9_letOut_X9_isIn
theorem dX9_letOut_0 : decode cX9_letOut 0 = .ok (.sipush 270, 3) := by decide +kernel
theorem dX9_letOut_3 : decode cX9_letOut 3 = .ok (.iload_n 1, 1) := by decide +kernel
theorem dX9_letOut_4 : decode cX9_letOut 4 = .ok (.imul, 1) := by decide +kernel
theorem dX9_letOut_5 : decode cX9_letOut 5 = .ok (.aload_n 0, 1) := by decide +kernel
theorem dX9_letOut_6 : decode cX9_letOut 6 = .ok (.getfield 92, 3) := by decide +kernel
theorem dX9_letOut_9 : decode cX9_letOut 9 = .ok (.iload_n 1, 1) := by decide +kernel
theorem dX9_letOut_10 : decode cX9_letOut 10 = .ok (.iaload, 1) := by decide +kernel
theorem dX9_letOut_11 : decode cX9_letOut 11 = .ok (.iadd, 1) := by decide +kernel
theorem dX9_letOut_12 : decode cX9_letOut 12 = .ok (.istore 7, 2) := by decide +kernel
theorem dX9_letOut_14 : decode cX9_letOut 14 = .ok (.aload_n 0, 1) := by decide +kernel
theorem dX9_letOut_15 : decode cX9_letOut 15 = .ok (.getfield 95, 3) := by decide +kernel
theorem dX9_letOut_18 : decode cX9_letOut 18 = .ok (.iload 7, 2) := by decide +kernel
theorem dX9_letOut_20 : decode cX9_letOut 20 = .ok (.iload_n 2, 1) := by decide +kernel
theorem dX9_letOut_21 : decode cX9_letOut 21 = .ok (.iastore, 1) := by decide +kernel
theorem dX9_letOut_22 : decode cX9_letOut 22 = .ok (.aload_n 0, 1) := by decide +kernel
theorem dX9_letOut_23 : decode cX9_letOut 23 = .ok (.getfield 98, 3) := by decide +kernel
theorem dX9_letOut_26 : decode cX9_letOut 26 = .ok (.iload 7, 2) := by decide +kernel
theorem dX9_letOut_28 : decode cX9_letOut 28 = .ok (.iload 5, 2) := by decide +kernel
theorem dX9_letOut_30 : decode cX9_letOut 30 = .ok (.bastore, 1) := by decide +kernel
theorem dX9_letOut_31 : decode cX9_letOut 31 = .ok (.aload_n 0, 1) := by decide +kernel
theorem dX9_letOut_32 : decode cX9_letOut 32 = .ok (.getfield 101, 3) := by decide +kernel
theorem dX9_letOut_35 : decode cX9_letOut 35 = .ok (.iload 7, 2) := by decide +kernel
theorem dX9_letOut_37 : decode cX9_letOut 37 = .ok (.lload_n 3, 1) := by decide +kernel
theorem dX9_letOut_38 : decode cX9_letOut 38 = .ok (.lastore, 1) := by decide +kernel
theorem dX9_letOut_39 : decode cX9_letOut 39 = .ok (.aload_n 0, 1) := by decide +kernel
theorem dX9_letOut_40 : decode cX9_letOut 40 = .ok (.getfield 104, 3) := by decide +kernel
theorem dX9_letOut_43 : decode cX9_letOut 43 = .ok (.iload 7, 2) := by decide +kernel
theorem dX9_letOut_45 : decode cX9_letOut 45 = .ok (.iload 6, 2) := by decide +kernel
theorem dX9_letOut_47 : decode cX9_letOut 47 = .ok (.iastore, 1) := by decide +kernel
theorem dX9_letOut_48 : decode cX9_letOut 48 = .ok (.aload_n 0, 1) := by decide +kernel
theorem dX9_letOut_49 : decode cX9_letOut 49 = .ok (.getfield 92, 3) := by decide +kernel
theorem dX9_letOut_52 : decode cX9_letOut 52 = .ok (.iload_n 1, 1) := by decide +kernel
theorem dX9_letOut_53 : decode cX9_letOut 53 = .ok (.dup2, 1) := by decide +kernel
theorem dX9_letOut_54 : decode cX9_letOut 54 = .ok (.iaload, 1) := by decide +kernel
theorem dX9_letOut_55 : decode cX9_letOut 55 = .ok (.iconst 1, 1) := by decide +kernel
theorem dX9_letOut_56 : decode cX9_letOut 56 = .ok (.iadd, 1) := by decide +kernel
theorem dX9_letOut_57 : decode cX9_letOut 57 = .ok (.iastore, 1) := by decide +kernel
theorem dX9_letOut_58 : decode cX9_letOut 58 = .ok (.aload_n 0, 1) := by decide +kernel
theorem dX9_letOut_59 : decode cX9_letOut 59 = .ok (.getfield 78, 3) := by decide +kernel
theorem dX9_letOut_62 : decode cX9_letOut 62 = .ok (.iload_n 1, 1) := by decide +kernel
theorem dX9_letOut_63 : decode cX9_letOut 63 = .ok (.lload_n 3, 1) := by decide +kernel
theorem dX9_letOut_64 : decode cX9_letOut 64 = .ok (.lastore, 1) := by decide +kernel
theorem dX9_letOut_65 : decode cX9_letOut 65 = .ok (.iconst 0, 1) := by decide +kernel
theorem dX9_letOut_66 : decode cX9_letOut 66 = .ok (.istore 8, 2) := by decide +kernel
theorem dX9_letOut_68 : decode cX9_letOut 68 = .ok (.iload 8, 2) := by decide +kernel
theorem dX9_letOut_70 : decode cX9_letOut 70 = .ok (.aload_n 0, 1) := by decide +kernel
theorem dX9_letOut_71 : decode cX9_letOut 71 = .ok (.getfield 192, 3) := by decide +kernel
theorem dX9_letOut_74 : decode cX9_letOut 74 = .ok (.if_icmp .ge 47, 3) := by decide +kernel
theorem dX9_letOut_77 : decode cX9_letOut 77 = .ok (.lload_n 3, 1) := by decide +kernel
theorem dX9_letOut_78 : decode cX9_letOut 78 = .ok (.iload 8, 2) := by decide +kernel
theorem dX9_letOut_80 : decode cX9_letOut 80 = .ok (.invokestatic 199, 3) := by decide +kernel
theorem dX9_letOut_83 : decode cX9_letOut 83 = .ok (.ifCond .eq 32, 3) := by decide +kernel
theorem dX9_letOut_86 : decode cX9_letOut 86 = .ok (.aload_n 0, 1) := by decide +kernel
theorem dX9_letOut_87 : decode cX9_letOut 87 = .ok (.getfield 60, 3) := by decide +kernel
theorem dX9_letOut_90 : decode cX9_letOut 90 = .ok (.bipush 60, 2) := by decide +kernel
theorem dX9_letOut_92 : decode cX9_letOut 92 = .ok (.iload_n 1, 1) := by decide +kernel
theorem dX9_letOut_93 : decode cX9_letOut 93 = .ok (.imul, 1) := by decide +kernel
theorem dX9_letOut_94 : decode cX9_letOut 94 = .ok (.iload 8, 2) := by decide +kernel
theorem dX9_letOut_96 : decode cX9_letOut 96 = .ok (.iadd, 1) := by decide +kernel
theorem dX9_letOut_97 : decode cX9_letOut 97 = .ok (.iaload, 1) := by decide +kernel
theorem dX9_letOut_98 : decode cX9_letOut 98 = .ok (.iconst (-1), 1) := by decide +kernel
theorem dX9_letOut_99 : decode cX9_letOut 99 = .ok (.if_icmp .ne 16, 3) := by decide +kernel
theorem dX9_letOut_102 : decode cX9_letOut 102 = .ok (.aload_n 0, 1) := by decide +kernel
theorem dX9_letOut_103 : decode cX9_letOut 103 = .ok (.getfield 60, 3) := by decide +kernel
theorem dX9_letOut_106 : decode cX9_letOut 106 = .ok (.bipush 60, 2) := by decide +kernel
theorem dX9_letOut_108 : decode cX9_letOut 108 = .ok (.iload_n 1, 1) := by decide +kernel
theorem dX9_letOut_109 : decode cX9_letOut 109 = .ok (.imul, 1) := by decide +kernel
theorem dX9_letOut_110 : decode cX9_letOut 110 = .ok (.iload 8, 2) := by decide +kernel
theorem dX9_letOut_112 : decode cX9_letOut 112 = .ok (.iadd, 1) := by decide +kernel
theorem dX9_letOut_113 : decode cX9_letOut 113 = .ok (.iload_n 2, 1) := by decide +kernel
theorem dX9_letOut_114 : decode cX9_letOut 114 = .ok (.iastore, 1) := by decide +kernel
theorem dX9_letOut_115 : decode cX9_letOut 115 = .ok (.iinc 8 1, 3) := by decide +kernel
theorem dX9_letOut_118 : decode cX9_letOut 118 = .ok (.goto (-50), 3) := by decide +kernel
theorem dX9_letOut_121 : decode cX9_letOut 121 = .ok (.return_, 1) := by decide +kernel
set_option maxRecDepth 20000 in
theorem ggX9_hangsIn_X9_isIn : GoodIn wsX9_hangsIn wsX9_isIn := goodIn_r _ [6] rfl (by decide +kernel)
set_option maxRecDepth 20000 in
theorem gX9_hangsIn_X9_isIn : GoodIn wsX9_hangsIn (va_wsS RX9 199 yX9_isIn wsX9_isIn) := goodIn_app (goodIn_r _ [3, 4, 5] rfl (by decide +kernel)) ggX9_hangsIn_X9_isIn
theorem dX9_hangsIn_0 : decode cX9_hangsIn 0 = .ok (.iconst 3, 1) := by decide +kernel
theorem dX9_hangsIn_1 : decode cX9_hangsIn 1 = .ok (.iload_n 1, 1) := by decide +kernel
theorem dX9_hangsIn_2 : decode cX9_hangsIn 2 = .ok (.imul, 1) := by decide +kernel
theorem dX9_hangsIn_3 : decode cX9_hangsIn 3 = .ok (.istore 4, 2) := by decide +kernel
theorem dX9_hangsIn_5 : decode cX9_hangsIn 5 = .ok (.iload 4, 2) := by decide +kernel
theorem dX9_hangsIn_7 : decode cX9_hangsIn 7 = .ok (.iconst 3, 1) := by decide +kernel
theorem dX9_hangsIn_8 : decode cX9_hangsIn 8 = .ok (.iload_n 1, 1) := by decide +kernel
theorem dX9_hangsIn_9 : decode cX9_hangsIn 9 = .ok (.imul, 1) := by decide +kernel
theorem dX9_hangsIn_10 : decode cX9_hangsIn 10 = .ok (.aload_n 0, 1) := by decide +kernel
theorem dX9_hangsIn_11 : decode cX9_hangsIn 11 = .ok (.getfield 42, 3) := by decide +kernel
theorem dX9_hangsIn_14 : decode cX9_hangsIn 14 = .ok (.iload_n 1, 1) := by decide +kernel
theorem dX9_hangsIn_15 : decode cX9_hangsIn 15 = .ok (.iaload, 1) := by decide +kernel
theorem dX9_hangsIn_16 : decode cX9_hangsIn 16 = .ok (.iadd, 1) := by decide +kernel
theorem dX9_hangsIn_17 : decode cX9_hangsIn 17 = .ok (.if_icmp .ge 25, 3) := by decide +kernel
theorem dX9_hangsIn_20 : decode cX9_hangsIn 20 = .ok (.lload_n 2, 1) := by decide +kernel
theorem dX9_hangsIn_21 : decode cX9_hangsIn 21 = .ok (.aload_n 0, 1) := by decide +kernel
theorem dX9_hangsIn_22 : decode cX9_hangsIn 22 = .ok (.getfield 39, 3) := by decide +kernel
theorem dX9_hangsIn_25 : decode cX9_hangsIn 25 = .ok (.iload 4, 2) := by decide +kernel
theorem dX9_hangsIn_27 : decode cX9_hangsIn 27 = .ok (.iaload, 1) := by decide +kernel
theorem dX9_hangsIn_28 : decode cX9_hangsIn 28 = .ok (.invokestatic 199, 3) := by decide +kernel
theorem dX9_hangsIn_31 : decode cX9_hangsIn 31 = .ok (.ifCond .ne 5, 3) := by decide +kernel
theorem dX9_hangsIn_34 : decode cX9_hangsIn 34 = .ok (.iconst 0, 1) := by decide +kernel
theorem dX9_hangsIn_35 : decode cX9_hangsIn 35 = .ok (.ireturn, 1) := by decide +kernel
theorem dX9_hangsIn_36 : decode cX9_hangsIn 36 = .ok (.iinc 4 1, 3) := by decide +kernel
theorem dX9_hangsIn_39 : decode cX9_hangsIn 39 = .ok (.goto (-34), 3) := by decide +kernel
theorem dX9_hangsIn_42 : decode cX9_hangsIn 42 = .ok (.iconst 1, 1) := by decide +kernel
theorem dX9_hangsIn_43 : decode cX9_hangsIn 43 = .ok (.ireturn, 1) := by decide +kernel
set_option maxRecDepth 20000 in
theorem ggX9_letsOut_X9_isIn : GoodIn wsX9_letsOut wsX9_isIn := goodIn_r _ [9] rfl (by decide +kernel)
set_option maxRecDepth 20000 in
theorem gX9_letsOut_X9_isIn : GoodIn wsX9_letsOut (va_wsS RX9 199 yX9_isIn wsX9_isIn) := goodIn_app (goodIn_r _ [6, 7, 8] rfl (by decide +kernel)) ggX9_letsOut_X9_isIn
set_option maxRecDepth 20000 in
theorem ggX9_letsOut_X9_ruleOf : GoodIn wsX9_letsOut wsX9_ruleOf := goodIn_r _ [13, 14, 15, 33, 34, 35, 36, 37, 38, 39, 40, 41, 42, 43, 44, 45, 46, 47, 48, 49, 50, 51, 52, 53, 54, 55, 56, 57, 58, 59, 60, 61, 62, 63, 64, 65, 66, 67, 68, 69, 70, 71, 72, 73, 74, 75, 76] rfl (by decide +kernel)
set_option maxRecDepth 20000 in
theorem gX9_letsOut_X9_ruleOf : GoodIn wsX9_letsOut (wsV RX9 203 RX9 yX9_ruleOf wsX9_ruleOf) := goodIn_app (goodIn_r _ [10, 11, 12, 8] rfl (by decide +kernel)) ggX9_letsOut_X9_ruleOf
set_option maxRecDepth 20000 in
theorem ggX9_letsOut_X9_hangsIn : GoodIn wsX9_letsOut wsX9_hangsIn := goodIn_r _ [19, 20, 21, 6, 7, 8, 9, 33, 34, 35, 36, 37, 38, 39, 40, 41, 42, 43, 44, 45, 46, 47, 48, 49, 50, 51, 52, 53, 54, 55, 56, 57, 58, 59, 60, 61, 62, 63, 64, 65, 66, 67, 68, 69, 70, 71, 72, 73, 74, 75, 76] rfl (by decide +kernel)
set_option maxRecDepth 20000 in
theorem gX9_letsOut_X9_hangsIn : GoodIn wsX9_letsOut (wsV RX9 206 RX9 yX9_hangsIn wsX9_hangsIn) := goodIn_app (goodIn_r _ [16, 17, 18, 8] rfl (by decide +kernel)) ggX9_letsOut_X9_hangsIn
set_option maxRecDepth 20000 in
theorem ggX9_letsOut_X9_letOut : GoodIn wsX9_letsOut wsX9_letOut := goodIn_r _ [25, 26, 27, 28, 29, 30, 31, 1, 32, 6, 7, 8, 9, 33, 34, 35, 36, 37, 38, 39, 40, 41, 42, 43, 44, 45, 46, 47, 48, 49, 50, 51, 52, 53, 54, 55, 56, 57, 58, 59, 60, 61, 62, 63, 64, 65, 66, 67, 68, 69, 70, 71, 72, 73, 74, 75, 76] rfl (by decide +kernel)
set_option maxRecDepth 20000 in
theorem gX9_letsOut_X9_letOut : GoodIn wsX9_letsOut (wsV RX9 210 RX9 yX9_letOut wsX9_letOut) := goodIn_app (goodIn_r _ [22, 23, 24, 8] rfl (by decide +kernel)) ggX9_letsOut_X9_letOut
theorem dX9_letsOut_0 : decode cX9_letsOut 0 = .ok (.lconst 0, 1) := by decide +kernel
theorem dX9_letsOut_1 : decode cX9_letsOut 1 = .ok (.lstore_n 3, 1) := by decide +kernel
theorem dX9_letsOut_2 : decode cX9_letsOut 2 = .ok (.iconst 0, 1) := by decide +kernel
theorem dX9_letsOut_3 : decode cX9_letsOut 3 = .ok (.istore 5, 2) := by decide +kernel
theorem dX9_letsOut_5 : decode cX9_letsOut 5 = .ok (.iconst 0, 1) := by decide +kernel
theorem dX9_letsOut_6 : decode cX9_letsOut 6 = .ok (.istore 6, 2) := by decide +kernel
theorem dX9_letsOut_8 : decode cX9_letsOut 8 = .ok (.iload 6, 2) := by decide +kernel
theorem dX9_letsOut_10 : decode cX9_letsOut 10 = .ok (.aload_n 0, 1) := by decide +kernel
theorem dX9_letsOut_11 : decode cX9_letsOut 11 = .ok (.getfield 192, 3) := by decide +kernel
theorem dX9_letsOut_14 : decode cX9_letsOut 14 = .ok (.if_icmp .ge 88, 3) := by decide +kernel
theorem dX9_letsOut_17 : decode cX9_letsOut 17 = .ok (.aload_n 0, 1) := by decide +kernel
theorem dX9_letsOut_18 : decode cX9_letsOut 18 = .ok (.getfield 82, 3) := by decide +kernel
theorem dX9_letsOut_21 : decode cX9_letsOut 21 = .ok (.iload_n 1, 1) := by decide +kernel
theorem dX9_letsOut_22 : decode cX9_letsOut 22 = .ok (.laload, 1) := by decide +kernel
theorem dX9_letsOut_23 : decode cX9_letsOut 23 = .ok (.iload 6, 2) := by decide +kernel
theorem dX9_letsOut_25 : decode cX9_letsOut 25 = .ok (.invokestatic 199, 3) := by decide +kernel
theorem dX9_letsOut_28 : decode cX9_letsOut 28 = .ok (.ifCond .ne 6, 3) := by decide +kernel
theorem dX9_letsOut_31 : decode cX9_letsOut 31 = .ok (.goto 65, 3) := by decide +kernel
theorem dX9_letsOut_34 : decode cX9_letsOut 34 = .ok (.iload_n 2, 1) := by decide +kernel
theorem dX9_letsOut_35 : decode cX9_letsOut 35 = .ok (.aload_n 0, 1) := by decide +kernel
theorem dX9_letsOut_36 : decode cX9_letsOut 36 = .ok (.getfield 54, 3) := by decide +kernel
theorem dX9_letsOut_39 : decode cX9_letsOut 39 = .ok (.bipush 60, 2) := by decide +kernel
theorem dX9_letsOut_41 : decode cX9_letsOut 41 = .ok (.iload_n 1, 1) := by decide +kernel
theorem dX9_letsOut_42 : decode cX9_letsOut 42 = .ok (.imul, 1) := by decide +kernel
theorem dX9_letsOut_43 : decode cX9_letsOut 43 = .ok (.iload 6, 2) := by decide +kernel
theorem dX9_letsOut_45 : decode cX9_letsOut 45 = .ok (.iadd, 1) := by decide +kernel
theorem dX9_letsOut_46 : decode cX9_letsOut 46 = .ok (.iaload, 1) := by decide +kernel
theorem dX9_letsOut_47 : decode cX9_letsOut 47 = .ok (.isub, 1) := by decide +kernel
theorem dX9_letsOut_48 : decode cX9_letsOut 48 = .ok (.aload_n 0, 1) := by decide +kernel
theorem dX9_letsOut_49 : decode cX9_letsOut 49 = .ok (.iload_n 1, 1) := by decide +kernel
theorem dX9_letsOut_50 : decode cX9_letsOut 50 = .ok (.iconst 2, 1) := by decide +kernel
theorem dX9_letsOut_51 : decode cX9_letsOut 51 = .ok (.invokevirtual 203, 3) := by decide +kernel
theorem dX9_letsOut_54 : decode cX9_letsOut 54 = .ok (.if_icmp .lt 23, 3) := by decide +kernel
theorem dX9_letsOut_57 : decode cX9_letsOut 57 = .ok (.aload_n 0, 1) := by decide +kernel
theorem dX9_letsOut_58 : decode cX9_letsOut 58 = .ok (.iload 6, 2) := by decide +kernel
theorem dX9_letsOut_60 : decode cX9_letsOut 60 = .ok (.lload_n 3, 1) := by decide +kernel
theorem dX9_letsOut_61 : decode cX9_letsOut 61 = .ok (.invokevirtual 206, 3) := by decide +kernel
theorem dX9_letsOut_64 : decode cX9_letsOut 64 = .ok (.ifCond .eq 13, 3) := by decide +kernel
theorem dX9_letsOut_67 : decode cX9_letsOut 67 = .ok (.lload_n 3, 1) := by decide +kernel
theorem dX9_letsOut_68 : decode cX9_letsOut 68 = .ok (.lconst 1, 1) := by decide +kernel
theorem dX9_letsOut_69 : decode cX9_letsOut 69 = .ok (.iload 6, 2) := by decide +kernel
theorem dX9_letsOut_71 : decode cX9_letsOut 71 = .ok (.lshl, 1) := by decide +kernel
theorem dX9_letsOut_72 : decode cX9_letsOut 72 = .ok (.lor, 1) := by decide +kernel
theorem dX9_letsOut_73 : decode cX9_letsOut 73 = .ok (.lstore_n 3, 1) := by decide +kernel
theorem dX9_letsOut_74 : decode cX9_letsOut 74 = .ok (.goto 22, 3) := by decide +kernel
theorem dX9_letsOut_77 : decode cX9_letsOut 77 = .ok (.aload_n 0, 1) := by decide +kernel
theorem dX9_letsOut_78 : decode cX9_letsOut 78 = .ok (.getfield 72, 3) := by decide +kernel
theorem dX9_letsOut_81 : decode cX9_letsOut 81 = .ok (.bipush 60, 2) := by decide +kernel
theorem dX9_letsOut_83 : decode cX9_letsOut 83 = .ok (.iload_n 1, 1) := by decide +kernel
theorem dX9_letsOut_84 : decode cX9_letsOut 84 = .ok (.imul, 1) := by decide +kernel
theorem dX9_letsOut_85 : decode cX9_letsOut 85 = .ok (.iload 6, 2) := by decide +kernel
theorem dX9_letsOut_87 : decode cX9_letsOut 87 = .ok (.iadd, 1) := by decide +kernel
theorem dX9_letsOut_88 : decode cX9_letsOut 88 = .ok (.dup2, 1) := by decide +kernel
theorem dX9_letsOut_89 : decode cX9_letsOut 89 = .ok (.iaload, 1) := by decide +kernel
theorem dX9_letsOut_90 : decode cX9_letsOut 90 = .ok (.iconst 1, 1) := by decide +kernel
theorem dX9_letsOut_91 : decode cX9_letsOut 91 = .ok (.iadd, 1) := by decide +kernel
theorem dX9_letsOut_92 : decode cX9_letsOut 92 = .ok (.iastore, 1) := by decide +kernel
theorem dX9_letsOut_93 : decode cX9_letsOut 93 = .ok (.iinc 5 1, 3) := by decide +kernel
theorem dX9_letsOut_96 : decode cX9_letsOut 96 = .ok (.iinc 6 1, 3) := by decide +kernel
theorem dX9_letsOut_99 : decode cX9_letsOut 99 = .ok (.goto (-91), 3) := by decide +kernel
theorem dX9_letsOut_102 : decode cX9_letsOut 102 = .ok (.aload_n 0, 1) := by decide +kernel
theorem dX9_letsOut_103 : decode cX9_letsOut 103 = .ok (.getfield 85, 3) := by decide +kernel
theorem dX9_letsOut_106 : decode cX9_letsOut 106 = .ok (.iload_n 1, 1) := by decide +kernel
theorem dX9_letsOut_107 : decode cX9_letsOut 107 = .ok (.iconst 0, 1) := by decide +kernel
theorem dX9_letsOut_108 : decode cX9_letsOut 108 = .ok (.bastore, 1) := by decide +kernel
theorem dX9_letsOut_109 : decode cX9_letsOut 109 = .ok (.aload_n 0, 1) := by decide +kernel
theorem dX9_letsOut_110 : decode cX9_letsOut 110 = .ok (.iload_n 1, 1) := by decide +kernel
theorem dX9_letsOut_111 : decode cX9_letsOut 111 = .ok (.iload_n 2, 1) := by decide +kernel
theorem dX9_letsOut_112 : decode cX9_letsOut 112 = .ok (.lload_n 3, 1) := by decide +kernel
theorem dX9_letsOut_113 : decode cX9_letsOut 113 = .ok (.iconst 0, 1) := by decide +kernel
theorem dX9_letsOut_114 : decode cX9_letsOut 114 = .ok (.iload 5, 2) := by decide +kernel
theorem dX9_letsOut_116 : decode cX9_letsOut 116 = .ok (.invokevirtual 210, 3) := by decide +kernel
theorem dX9_letsOut_119 : decode cX9_letsOut 119 = .ok (.return_, 1) := by decide +kernel
set_option maxRecDepth 20000 in
theorem ggX9_hot_X9_ruleOf : GoodIn wsX9_hot wsX9_ruleOf := goodIn_r _ [9, 10, 11, 25, 26, 27, 28, 29, 30, 31, 32, 33, 34, 35, 36, 37, 38, 39, 40, 41, 42, 43, 44, 45, 46, 47, 48, 49, 50, 51, 52, 53, 54, 55, 56, 57, 58, 59, 60, 61, 62, 63, 64, 65, 66, 67, 68] rfl (by decide +kernel)
set_option maxRecDepth 20000 in
theorem gX9_hot_X9_ruleOf : GoodIn wsX9_hot (wsV RX9 203 RX9 yX9_ruleOf wsX9_ruleOf) := goodIn_app (goodIn_r _ [5, 6, 7, 8] rfl (by decide +kernel)) ggX9_hot_X9_ruleOf
set_option maxRecDepth 20000 in
theorem ggX9_hot_X9_isIn : GoodIn wsX9_hot wsX9_isIn := goodIn_r _ [14] rfl (by decide +kernel)
set_option maxRecDepth 20000 in
theorem gX9_hot_X9_isIn : GoodIn wsX9_hot (va_wsS RX9 199 yX9_isIn wsX9_isIn) := goodIn_app (goodIn_r _ [12, 13, 8] rfl (by decide +kernel)) ggX9_hot_X9_isIn
set_option maxRecDepth 20000 in
theorem ggX9_hot_X9_letOut : GoodIn wsX9_hot wsX9_letOut := goodIn_r _ [18, 19, 20, 21, 22, 23, 4, 1, 24, 12, 13, 8, 14, 25, 26, 27, 28, 29, 30, 31, 32, 33, 34, 35, 36, 37, 38, 39, 40, 41, 42, 43, 44, 45, 46, 47, 48, 49, 50, 51, 52, 53, 54, 55, 56, 57, 58, 59, 60, 61, 62, 63, 64, 65, 66, 67, 68] rfl (by decide +kernel)
set_option maxRecDepth 20000 in
theorem gX9_hot_X9_letOut : GoodIn wsX9_hot (wsV RX9 210 RX9 yX9_letOut wsX9_letOut) := goodIn_app (goodIn_r _ [15, 16, 17, 8] rfl (by decide +kernel)) ggX9_hot_X9_letOut
theorem dX9_hot_0 : decode cX9_hot 0 = .ok (.iconst 0, 1) := by decide +kernel
theorem dX9_hot_1 : decode cX9_hot 1 = .ok (.istore_n 3, 1) := by decide +kernel
theorem dX9_hot_2 : decode cX9_hot 2 = .ok (.iload_n 3, 1) := by decide +kernel
theorem dX9_hot_3 : decode cX9_hot 3 = .ok (.aload_n 0, 1) := by decide +kernel
theorem dX9_hot_4 : decode cX9_hot 4 = .ok (.getfield 192, 3) := by decide +kernel
theorem dX9_hot_7 : decode cX9_hot 7 = .ok (.if_icmp .ge 109, 3) := by decide +kernel
theorem dX9_hot_10 : decode cX9_hot 10 = .ok (.aload_n 0, 1) := by decide +kernel
theorem dX9_hot_11 : decode cX9_hot 11 = .ok (.getfield 33, 3) := by decide +kernel
theorem dX9_hot_14 : decode cX9_hot 14 = .ok (.iload_n 3, 1) := by decide +kernel
theorem dX9_hot_15 : decode cX9_hot 15 = .ok (.iaload, 1) := by decide +kernel
theorem dX9_hot_16 : decode cX9_hot 16 = .ok (.iconst (-1), 1) := by decide +kernel
theorem dX9_hot_17 : decode cX9_hot 17 = .ok (.if_icmp .eq 93, 3) := by decide +kernel
theorem dX9_hot_20 : decode cX9_hot 20 = .ok (.aload_n 0, 1) := by decide +kernel
theorem dX9_hot_21 : decode cX9_hot 21 = .ok (.getfield 54, 3) := by decide +kernel
theorem dX9_hot_24 : decode cX9_hot 24 = .ok (.bipush 60, 2) := by decide +kernel
theorem dX9_hot_26 : decode cX9_hot 26 = .ok (.iload_n 1, 1) := by decide +kernel
theorem dX9_hot_27 : decode cX9_hot 27 = .ok (.imul, 1) := by decide +kernel
theorem dX9_hot_28 : decode cX9_hot 28 = .ok (.iload_n 3, 1) := by decide +kernel
theorem dX9_hot_29 : decode cX9_hot 29 = .ok (.iadd, 1) := by decide +kernel
theorem dX9_hot_30 : decode cX9_hot 30 = .ok (.iaload, 1) := by decide +kernel
theorem dX9_hot_31 : decode cX9_hot 31 = .ok (.iconst (-1), 1) := by decide +kernel
theorem dX9_hot_32 : decode cX9_hot 32 = .ok (.if_icmp .eq 78, 3) := by decide +kernel
theorem dX9_hot_35 : decode cX9_hot 35 = .ok (.aload_n 0, 1) := by decide +kernel
theorem dX9_hot_36 : decode cX9_hot 36 = .ok (.getfield 54, 3) := by decide +kernel
theorem dX9_hot_39 : decode cX9_hot 39 = .ok (.bipush 60, 2) := by decide +kernel
theorem dX9_hot_41 : decode cX9_hot 41 = .ok (.iload_n 1, 1) := by decide +kernel
theorem dX9_hot_42 : decode cX9_hot 42 = .ok (.imul, 1) := by decide +kernel
theorem dX9_hot_43 : decode cX9_hot 43 = .ok (.iload_n 3, 1) := by decide +kernel
theorem dX9_hot_44 : decode cX9_hot 44 = .ok (.iadd, 1) := by decide +kernel
theorem dX9_hot_45 : decode cX9_hot 45 = .ok (.iaload, 1) := by decide +kernel
theorem dX9_hot_46 : decode cX9_hot 46 = .ok (.iload_n 2, 1) := by decide +kernel
theorem dX9_hot_47 : decode cX9_hot 47 = .ok (.aload_n 0, 1) := by decide +kernel
theorem dX9_hot_48 : decode cX9_hot 48 = .ok (.iload_n 1, 1) := by decide +kernel
theorem dX9_hot_49 : decode cX9_hot 49 = .ok (.bipush 6, 2) := by decide +kernel
theorem dX9_hot_51 : decode cX9_hot 51 = .ok (.invokevirtual 203, 3) := by decide +kernel
theorem dX9_hot_54 : decode cX9_hot 54 = .ok (.isub, 1) := by decide +kernel
theorem dX9_hot_55 : decode cX9_hot 55 = .ok (.if_icmp .eq 6, 3) := by decide +kernel
theorem dX9_hot_58 : decode cX9_hot 58 = .ok (.goto 52, 3) := by decide +kernel
theorem dX9_hot_61 : decode cX9_hot 61 = .ok (.aload_n 0, 1) := by decide +kernel
theorem dX9_hot_62 : decode cX9_hot 62 = .ok (.getfield 78, 3) := by decide +kernel
theorem dX9_hot_65 : decode cX9_hot 65 = .ok (.iload_n 1, 1) := by decide +kernel
theorem dX9_hot_66 : decode cX9_hot 66 = .ok (.laload, 1) := by decide +kernel
theorem dX9_hot_67 : decode cX9_hot 67 = .ok (.aload_n 0, 1) := by decide +kernel
theorem dX9_hot_68 : decode cX9_hot 68 = .ok (.getfield 33, 3) := by decide +kernel
theorem dX9_hot_71 : decode cX9_hot 71 = .ok (.iload_n 3, 1) := by decide +kernel
theorem dX9_hot_72 : decode cX9_hot 72 = .ok (.iaload, 1) := by decide +kernel
theorem dX9_hot_73 : decode cX9_hot 73 = .ok (.invokestatic 199, 3) := by decide +kernel
theorem dX9_hot_76 : decode cX9_hot 76 = .ok (.ifCond .eq 34, 3) := by decide +kernel
theorem dX9_hot_79 : decode cX9_hot 79 = .ok (.aload_n 0, 1) := by decide +kernel
theorem dX9_hot_80 : decode cX9_hot 80 = .ok (.getfield 78, 3) := by decide +kernel
theorem dX9_hot_83 : decode cX9_hot 83 = .ok (.iload_n 1, 1) := by decide +kernel
theorem dX9_hot_84 : decode cX9_hot 84 = .ok (.laload, 1) := by decide +kernel
theorem dX9_hot_85 : decode cX9_hot 85 = .ok (.iload_n 3, 1) := by decide +kernel
theorem dX9_hot_86 : decode cX9_hot 86 = .ok (.invokestatic 199, 3) := by decide +kernel
theorem dX9_hot_89 : decode cX9_hot 89 = .ok (.ifCond .ne 21, 3) := by decide +kernel
theorem dX9_hot_92 : decode cX9_hot 92 = .ok (.aload_n 0, 1) := by decide +kernel
theorem dX9_hot_93 : decode cX9_hot 93 = .ok (.iload_n 1, 1) := by decide +kernel
theorem dX9_hot_94 : decode cX9_hot 94 = .ok (.iload_n 2, 1) := by decide +kernel
theorem dX9_hot_95 : decode cX9_hot 95 = .ok (.aload_n 0, 1) := by decide +kernel
theorem dX9_hot_96 : decode cX9_hot 96 = .ok (.getfield 78, 3) := by decide +kernel
theorem dX9_hot_99 : decode cX9_hot 99 = .ok (.iload_n 1, 1) := by decide +kernel
theorem dX9_hot_100 : decode cX9_hot 100 = .ok (.laload, 1) := by decide +kernel
theorem dX9_hot_101 : decode cX9_hot 101 = .ok (.lconst 1, 1) := by decide +kernel
theorem dX9_hot_102 : decode cX9_hot 102 = .ok (.iload_n 3, 1) := by decide +kernel
theorem dX9_hot_103 : decode cX9_hot 103 = .ok (.lshl, 1) := by decide +kernel
theorem dX9_hot_104 : decode cX9_hot 104 = .ok (.lor, 1) := by decide +kernel
theorem dX9_hot_105 : decode cX9_hot 105 = .ok (.iconst 1, 1) := by decide +kernel
theorem dX9_hot_106 : decode cX9_hot 106 = .ok (.iconst 0, 1) := by decide +kernel
theorem dX9_hot_107 : decode cX9_hot 107 = .ok (.invokevirtual 210, 3) := by decide +kernel
theorem dX9_hot_110 : decode cX9_hot 110 = .ok (.iinc 3 1, 3) := by decide +kernel
theorem dX9_hot_113 : decode cX9_hot 113 = .ok (.goto (-111), 3) := by decide +kernel
theorem dX9_hot_116 : decode cX9_hot 116 = .ok (.return_, 1) := by decide +kernel
theorem dX9_isBorn_0 : decode cX9_isBorn 0 = .ok (.bipush 60, 2) := by decide +kernel
theorem dX9_isBorn_2 : decode cX9_isBorn 2 = .ok (.iload_n 1, 1) := by decide +kernel
theorem dX9_isBorn_3 : decode cX9_isBorn 3 = .ok (.imul, 1) := by decide +kernel
theorem dX9_isBorn_4 : decode cX9_isBorn 4 = .ok (.iload_n 2, 1) := by decide +kernel
theorem dX9_isBorn_5 : decode cX9_isBorn 5 = .ok (.iadd, 1) := by decide +kernel
theorem dX9_isBorn_6 : decode cX9_isBorn 6 = .ok (.istore 4, 2) := by decide +kernel
theorem dX9_isBorn_8 : decode cX9_isBorn 8 = .ok (.aload_n 0, 1) := by decide +kernel
theorem dX9_isBorn_9 : decode cX9_isBorn 9 = .ok (.getfield 45, 3) := by decide +kernel
theorem dX9_isBorn_12 : decode cX9_isBorn 12 = .ok (.iload 4, 2) := by decide +kernel
theorem dX9_isBorn_14 : decode cX9_isBorn 14 = .ok (.iload_n 3, 1) := by decide +kernel
theorem dX9_isBorn_15 : decode cX9_isBorn 15 = .ok (.iastore, 1) := by decide +kernel
theorem dX9_isBorn_16 : decode cX9_isBorn 16 = .ok (.aload_n 0, 1) := by decide +kernel
theorem dX9_isBorn_17 : decode cX9_isBorn 17 = .ok (.getfield 48, 3) := by decide +kernel
theorem dX9_isBorn_20 : decode cX9_isBorn 20 = .ok (.iload 4, 2) := by decide +kernel
theorem dX9_isBorn_22 : decode cX9_isBorn 22 = .ok (.iload_n 3, 1) := by decide +kernel
theorem dX9_isBorn_23 : decode cX9_isBorn 23 = .ok (.aload_n 0, 1) := by decide +kernel
theorem dX9_isBorn_24 : decode cX9_isBorn 24 = .ok (.getfield 27, 3) := by decide +kernel
theorem dX9_isBorn_27 : decode cX9_isBorn 27 = .ok (.iload_n 2, 1) := by decide +kernel
theorem dX9_isBorn_28 : decode cX9_isBorn 28 = .ok (.iaload, 1) := by decide +kernel
theorem dX9_isBorn_29 : decode cX9_isBorn 29 = .ok (.iadd, 1) := by decide +kernel
theorem dX9_isBorn_30 : decode cX9_isBorn 30 = .ok (.iastore, 1) := by decide +kernel
theorem dX9_isBorn_31 : decode cX9_isBorn 31 = .ok (.aload_n 0, 1) := by decide +kernel
theorem dX9_isBorn_32 : decode cX9_isBorn 32 = .ok (.getfield 51, 3) := by decide +kernel
theorem dX9_isBorn_35 : decode cX9_isBorn 35 = .ok (.iload 4, 2) := by decide +kernel
theorem dX9_isBorn_37 : decode cX9_isBorn 37 = .ok (.aload_n 0, 1) := by decide +kernel
theorem dX9_isBorn_38 : decode cX9_isBorn 38 = .ok (.getfield 75, 3) := by decide +kernel
theorem dX9_isBorn_41 : decode cX9_isBorn 41 = .ok (.iload_n 1, 1) := by decide +kernel
theorem dX9_isBorn_42 : decode cX9_isBorn 42 = .ok (.iaload, 1) := by decide +kernel
theorem dX9_isBorn_43 : decode cX9_isBorn 43 = .ok (.iastore, 1) := by decide +kernel
theorem dX9_isBorn_44 : decode cX9_isBorn 44 = .ok (.return_, 1) := by decide +kernel
set_option maxRecDepth 20000 in
theorem ggX9_meets_X9_isIn : GoodIn wsX9_meets wsX9_isIn := goodIn_r _ [10] rfl (by decide +kernel)
set_option maxRecDepth 20000 in
theorem gX9_meets_X9_isIn : GoodIn wsX9_meets (va_wsS RX9 199 yX9_isIn wsX9_isIn) := goodIn_app (goodIn_r _ [7, 8, 9] rfl (by decide +kernel)) ggX9_meets_X9_isIn
theorem dX9_meets_0 : decode cX9_meets 0 = .ok (.iconst 0, 1) := by decide +kernel
theorem dX9_meets_1 : decode cX9_meets 1 = .ok (.istore_n 3, 1) := by decide +kernel
theorem dX9_meets_2 : decode cX9_meets 2 = .ok (.iload_n 3, 1) := by decide +kernel
theorem dX9_meets_3 : decode cX9_meets 3 = .ok (.aload_n 0, 1) := by decide +kernel
theorem dX9_meets_4 : decode cX9_meets 4 = .ok (.getfield 192, 3) := by decide +kernel
theorem dX9_meets_7 : decode cX9_meets 7 = .ok (.if_icmp .ge 111, 3) := by decide +kernel
theorem dX9_meets_10 : decode cX9_meets 10 = .ok (.bipush 60, 2) := by decide +kernel
theorem dX9_meets_12 : decode cX9_meets 12 = .ok (.iload_n 1, 1) := by decide +kernel
theorem dX9_meets_13 : decode cX9_meets 13 = .ok (.imul, 1) := by decide +kernel
theorem dX9_meets_14 : decode cX9_meets 14 = .ok (.iload_n 3, 1) := by decide +kernel
theorem dX9_meets_15 : decode cX9_meets 15 = .ok (.iadd, 1) := by decide +kernel
theorem dX9_meets_16 : decode cX9_meets 16 = .ok (.istore 4, 2) := by decide +kernel
theorem dX9_meets_18 : decode cX9_meets 18 = .ok (.aload_n 0, 1) := by decide +kernel
theorem dX9_meets_19 : decode cX9_meets 19 = .ok (.getfield 30, 3) := by decide +kernel
theorem dX9_meets_22 : decode cX9_meets 22 = .ok (.iload_n 3, 1) := by decide +kernel
theorem dX9_meets_23 : decode cX9_meets 23 = .ok (.iaload, 1) := by decide +kernel
theorem dX9_meets_24 : decode cX9_meets 24 = .ok (.iconst (-1), 1) := by decide +kernel
theorem dX9_meets_25 : decode cX9_meets 25 = .ok (.if_icmp .eq 87, 3) := by decide +kernel
theorem dX9_meets_28 : decode cX9_meets 28 = .ok (.aload_n 0, 1) := by decide +kernel
theorem dX9_meets_29 : decode cX9_meets 29 = .ok (.getfield 60, 3) := by decide +kernel
theorem dX9_meets_32 : decode cX9_meets 32 = .ok (.iload 4, 2) := by decide +kernel
theorem dX9_meets_34 : decode cX9_meets 34 = .ok (.iaload, 1) := by decide +kernel
theorem dX9_meets_35 : decode cX9_meets 35 = .ok (.iconst (-1), 1) := by decide +kernel
theorem dX9_meets_36 : decode cX9_meets 36 = .ok (.if_icmp .eq 76, 3) := by decide +kernel
theorem dX9_meets_39 : decode cX9_meets 39 = .ok (.aload_n 0, 1) := by decide +kernel
theorem dX9_meets_40 : decode cX9_meets 40 = .ok (.getfield 60, 3) := by decide +kernel
theorem dX9_meets_43 : decode cX9_meets 43 = .ok (.iload 4, 2) := by decide +kernel
theorem dX9_meets_45 : decode cX9_meets 45 = .ok (.iaload, 1) := by decide +kernel
theorem dX9_meets_46 : decode cX9_meets 46 = .ok (.iload_n 2, 1) := by decide +kernel
theorem dX9_meets_47 : decode cX9_meets 47 = .ok (.aload_n 0, 1) := by decide +kernel
theorem dX9_meets_48 : decode cX9_meets 48 = .ok (.getfield 30, 3) := by decide +kernel
theorem dX9_meets_51 : decode cX9_meets 51 = .ok (.iload_n 3, 1) := by decide +kernel
theorem dX9_meets_52 : decode cX9_meets 52 = .ok (.iaload, 1) := by decide +kernel
theorem dX9_meets_53 : decode cX9_meets 53 = .ok (.isub, 1) := by decide +kernel
theorem dX9_meets_54 : decode cX9_meets 54 = .ok (.if_icmp .ne 58, 3) := by decide +kernel
theorem dX9_meets_57 : decode cX9_meets 57 = .ok (.aload_n 0, 1) := by decide +kernel
theorem dX9_meets_58 : decode cX9_meets 58 = .ok (.getfield 78, 3) := by decide +kernel
theorem dX9_meets_61 : decode cX9_meets 61 = .ok (.iload_n 1, 1) := by decide +kernel
theorem dX9_meets_62 : decode cX9_meets 62 = .ok (.laload, 1) := by decide +kernel
theorem dX9_meets_63 : decode cX9_meets 63 = .ok (.iload_n 3, 1) := by decide +kernel
theorem dX9_meets_64 : decode cX9_meets 64 = .ok (.invokestatic 199, 3) := by decide +kernel
theorem dX9_meets_67 : decode cX9_meets 67 = .ok (.ifCond .ne 6, 3) := by decide +kernel
theorem dX9_meets_70 : decode cX9_meets 70 = .ok (.goto 42, 3) := by decide +kernel
theorem dX9_meets_73 : decode cX9_meets 73 = .ok (.aload_n 0, 1) := by decide +kernel
theorem dX9_meets_74 : decode cX9_meets 74 = .ok (.getfield 36, 3) := by decide +kernel
theorem dX9_meets_77 : decode cX9_meets 77 = .ok (.iload_n 3, 1) := by decide +kernel
theorem dX9_meets_78 : decode cX9_meets 78 = .ok (.iaload, 1) := by decide +kernel
theorem dX9_meets_79 : decode cX9_meets 79 = .ok (.iconst (-1), 1) := by decide +kernel
theorem dX9_meets_80 : decode cX9_meets 80 = .ok (.if_icmp .eq 24, 3) := by decide +kernel
theorem dX9_meets_83 : decode cX9_meets 83 = .ok (.aload_n 0, 1) := by decide +kernel
theorem dX9_meets_84 : decode cX9_meets 84 = .ok (.getfield 78, 3) := by decide +kernel
theorem dX9_meets_87 : decode cX9_meets 87 = .ok (.iload_n 1, 1) := by decide +kernel
theorem dX9_meets_88 : decode cX9_meets 88 = .ok (.laload, 1) := by decide +kernel
theorem dX9_meets_89 : decode cX9_meets 89 = .ok (.aload_n 0, 1) := by decide +kernel
theorem dX9_meets_90 : decode cX9_meets 90 = .ok (.getfield 36, 3) := by decide +kernel
theorem dX9_meets_93 : decode cX9_meets 93 = .ok (.iload_n 3, 1) := by decide +kernel
theorem dX9_meets_94 : decode cX9_meets 94 = .ok (.iaload, 1) := by decide +kernel
theorem dX9_meets_95 : decode cX9_meets 95 = .ok (.invokestatic 199, 3) := by decide +kernel
theorem dX9_meets_98 : decode cX9_meets 98 = .ok (.ifCond .eq 6, 3) := by decide +kernel
theorem dX9_meets_101 : decode cX9_meets 101 = .ok (.goto 11, 3) := by decide +kernel
theorem dX9_meets_104 : decode cX9_meets 104 = .ok (.aload_n 0, 1) := by decide +kernel
theorem dX9_meets_105 : decode cX9_meets 105 = .ok (.getfield 63, 3) := by decide +kernel
theorem dX9_meets_108 : decode cX9_meets 108 = .ok (.iload 4, 2) := by decide +kernel
theorem dX9_meets_110 : decode cX9_meets 110 = .ok (.iload_n 2, 1) := by decide +kernel
theorem dX9_meets_111 : decode cX9_meets 111 = .ok (.iastore, 1) := by decide +kernel
theorem dX9_meets_112 : decode cX9_meets 112 = .ok (.iinc 3 1, 3) := by decide +kernel
theorem dX9_meets_115 : decode cX9_meets 115 = .ok (.goto (-113), 3) := by decide +kernel
theorem dX9_meets_118 : decode cX9_meets 118 = .ok (.return_, 1) := by decide +kernel
set_option maxRecDepth 20000 in
theorem ggX9_births_X9_isBorn : GoodIn wsX9_births wsX9_isBorn := goodIn_r _ [10, 5, 11, 12, 13, 14, 15, 16, 17, 18, 19, 20, 21, 22, 23, 24, 25, 26, 27, 28, 29, 30, 31, 32, 33, 34, 35, 36, 37, 38, 39, 40, 41, 42, 43, 44, 45, 46, 47, 48, 49, 50, 51, 52, 53, 54, 55, 56, 57, 58] rfl (by decide +kernel)
set_option maxRecDepth 20000 in
theorem gX9_births_X9_isBorn : GoodIn wsX9_births (wsV RX9 214 RX9 yX9_isBorn wsX9_isBorn) := goodIn_app (goodIn_r _ [6, 7, 8, 9] rfl (by decide +kernel)) ggX9_births_X9_isBorn
theorem dX9_births_0 : decode cX9_births 0 = .ok (.iconst 0, 1) := by decide +kernel
theorem dX9_births_1 : decode cX9_births 1 = .ok (.istore_n 3, 1) := by decide +kernel
theorem dX9_births_2 : decode cX9_births 2 = .ok (.iload_n 3, 1) := by decide +kernel
theorem dX9_births_3 : decode cX9_births 3 = .ok (.aload_n 0, 1) := by decide +kernel
theorem dX9_births_4 : decode cX9_births 4 = .ok (.getfield 192, 3) := by decide +kernel
theorem dX9_births_7 : decode cX9_births 7 = .ok (.if_icmp .ge 91, 3) := by decide +kernel
theorem dX9_births_10 : decode cX9_births 10 = .ok (.aload_n 0, 1) := by decide +kernel
theorem dX9_births_11 : decode cX9_births 11 = .ok (.getfield 33, 3) := by decide +kernel
theorem dX9_births_14 : decode cX9_births 14 = .ok (.iload_n 3, 1) := by decide +kernel
theorem dX9_births_15 : decode cX9_births 15 = .ok (.iaload, 1) := by decide +kernel
theorem dX9_births_16 : decode cX9_births 16 = .ok (.iconst (-1), 1) := by decide +kernel
theorem dX9_births_17 : decode cX9_births 17 = .ok (.if_icmp .ne 21, 3) := by decide +kernel
theorem dX9_births_20 : decode cX9_births 20 = .ok (.aload_n 0, 1) := by decide +kernel
theorem dX9_births_21 : decode cX9_births 21 = .ok (.getfield 21, 3) := by decide +kernel
theorem dX9_births_24 : decode cX9_births 24 = .ok (.iload_n 3, 1) := by decide +kernel
theorem dX9_births_25 : decode cX9_births 25 = .ok (.iaload, 1) := by decide +kernel
theorem dX9_births_26 : decode cX9_births 26 = .ok (.iload_n 2, 1) := by decide +kernel
theorem dX9_births_27 : decode cX9_births 27 = .ok (.if_icmp .ne 7, 3) := by decide +kernel
theorem dX9_births_30 : decode cX9_births 30 = .ok (.iconst 1, 1) := by decide +kernel
theorem dX9_births_31 : decode cX9_births 31 = .ok (.goto 32, 3) := by decide +kernel
theorem dX9_births_34 : decode cX9_births 34 = .ok (.iconst 0, 1) := by decide +kernel
theorem dX9_births_35 : decode cX9_births 35 = .ok (.goto 28, 3) := by decide +kernel
theorem dX9_births_38 : decode cX9_births 38 = .ok (.aload_n 0, 1) := by decide +kernel
theorem dX9_births_39 : decode cX9_births 39 = .ok (.getfield 63, 3) := by decide +kernel
theorem dX9_births_42 : decode cX9_births 42 = .ok (.bipush 60, 2) := by decide +kernel
theorem dX9_births_44 : decode cX9_births 44 = .ok (.iload_n 1, 1) := by decide +kernel
theorem dX9_births_45 : decode cX9_births 45 = .ok (.imul, 1) := by decide +kernel
theorem dX9_births_46 : decode cX9_births 46 = .ok (.aload_n 0, 1) := by decide +kernel
theorem dX9_births_47 : decode cX9_births 47 = .ok (.getfield 33, 3) := by decide +kernel
theorem dX9_births_50 : decode cX9_births 50 = .ok (.iload_n 3, 1) := by decide +kernel
theorem dX9_births_51 : decode cX9_births 51 = .ok (.iaload, 1) := by decide +kernel
theorem dX9_births_52 : decode cX9_births 52 = .ok (.iadd, 1) := by decide +kernel
theorem dX9_births_53 : decode cX9_births 53 = .ok (.iaload, 1) := by decide +kernel
theorem dX9_births_54 : decode cX9_births 54 = .ok (.iload_n 2, 1) := by decide +kernel
theorem dX9_births_55 : decode cX9_births 55 = .ok (.if_icmp .ne 7, 3) := by decide +kernel
theorem dX9_births_58 : decode cX9_births 58 = .ok (.iconst 1, 1) := by decide +kernel
theorem dX9_births_59 : decode cX9_births 59 = .ok (.goto 4, 3) := by decide +kernel
theorem dX9_births_62 : decode cX9_births 62 = .ok (.iconst 0, 1) := by decide +kernel
theorem dX9_births_63 : decode cX9_births 63 = .ok (.istore 4, 2) := by decide +kernel
theorem dX9_births_65 : decode cX9_births 65 = .ok (.iload 4, 2) := by decide +kernel
theorem dX9_births_67 : decode cX9_births 67 = .ok (.ifCond .eq 25, 3) := by decide +kernel
theorem dX9_births_70 : decode cX9_births 70 = .ok (.aload_n 0, 1) := by decide +kernel
theorem dX9_births_71 : decode cX9_births 71 = .ok (.getfield 45, 3) := by decide +kernel
theorem dX9_births_74 : decode cX9_births 74 = .ok (.bipush 60, 2) := by decide +kernel
theorem dX9_births_76 : decode cX9_births 76 = .ok (.iload_n 1, 1) := by decide +kernel
theorem dX9_births_77 : decode cX9_births 77 = .ok (.imul, 1) := by decide +kernel
theorem dX9_births_78 : decode cX9_births 78 = .ok (.iload_n 3, 1) := by decide +kernel
theorem dX9_births_79 : decode cX9_births 79 = .ok (.iadd, 1) := by decide +kernel
theorem dX9_births_80 : decode cX9_births 80 = .ok (.iaload, 1) := by decide +kernel
theorem dX9_births_81 : decode cX9_births 81 = .ok (.iconst (-1), 1) := by decide +kernel
theorem dX9_births_82 : decode cX9_births 82 = .ok (.if_icmp .ne 10, 3) := by decide +kernel
theorem dX9_births_85 : decode cX9_births 85 = .ok (.aload_n 0, 1) := by decide +kernel
theorem dX9_births_86 : decode cX9_births 86 = .ok (.iload_n 1, 1) := by decide +kernel
theorem dX9_births_87 : decode cX9_births 87 = .ok (.iload_n 3, 1) := by decide +kernel
theorem dX9_births_88 : decode cX9_births 88 = .ok (.iload_n 2, 1) := by decide +kernel
theorem dX9_births_89 : decode cX9_births 89 = .ok (.invokevirtual 214, 3) := by decide +kernel
theorem dX9_births_92 : decode cX9_births 92 = .ok (.iinc 3 1, 3) := by decide +kernel
theorem dX9_births_95 : decode cX9_births 95 = .ok (.goto (-93), 3) := by decide +kernel
theorem dX9_births_98 : decode cX9_births 98 = .ok (.return_, 1) := by decide +kernel
set_option maxRecDepth 20000 in
theorem ggX9_nextRelease_X9_ruleOf : GoodIn wsX9_nextRelease wsX9_ruleOf := goodIn_r _ [5, 6, 7, 8, 9, 10, 11, 12, 13, 14, 15, 16, 17, 18, 19, 20, 21, 22, 23, 24, 25, 26, 27, 28, 29, 30, 31, 32, 33, 34, 35, 36, 37, 38, 39, 40, 41, 42, 43, 44, 45, 46, 47, 48, 49, 50, 51] rfl (by decide +kernel)
set_option maxRecDepth 20000 in
theorem gX9_nextRelease_X9_ruleOf : GoodIn wsX9_nextRelease (wsV RX9 203 RX9 yX9_ruleOf wsX9_ruleOf) := goodIn_app (goodIn_r _ [1, 2, 3, 4] rfl (by decide +kernel)) ggX9_nextRelease_X9_ruleOf
theorem dX9_nextRelease_0 : decode cX9_nextRelease 0 = .ok (.aload_n 0, 1) := by decide +kernel
theorem dX9_nextRelease_1 : decode cX9_nextRelease 1 = .ok (.iload_n 1, 1) := by decide +kernel
theorem dX9_nextRelease_2 : decode cX9_nextRelease 2 = .ok (.iconst 0, 1) := by decide +kernel
theorem dX9_nextRelease_3 : decode cX9_nextRelease 3 = .ok (.invokevirtual 203, 3) := by decide +kernel
theorem dX9_nextRelease_6 : decode cX9_nextRelease 6 = .ok (.istore_n 3, 1) := by decide +kernel
theorem dX9_nextRelease_7 : decode cX9_nextRelease 7 = .ok (.iload_n 2, 1) := by decide +kernel
theorem dX9_nextRelease_8 : decode cX9_nextRelease 8 = .ok (.iload_n 3, 1) := by decide +kernel
theorem dX9_nextRelease_9 : decode cX9_nextRelease 9 = .ok (.iadd, 1) := by decide +kernel
theorem dX9_nextRelease_10 : decode cX9_nextRelease 10 = .ok (.iconst 1, 1) := by decide +kernel
theorem dX9_nextRelease_11 : decode cX9_nextRelease 11 = .ok (.isub, 1) := by decide +kernel
theorem dX9_nextRelease_12 : decode cX9_nextRelease 12 = .ok (.iload_n 3, 1) := by decide +kernel
theorem dX9_nextRelease_13 : decode cX9_nextRelease 13 = .ok (.idiv, 1) := by decide +kernel
theorem dX9_nextRelease_14 : decode cX9_nextRelease 14 = .ok (.iload_n 3, 1) := by decide +kernel
theorem dX9_nextRelease_15 : decode cX9_nextRelease 15 = .ok (.imul, 1) := by decide +kernel
theorem dX9_nextRelease_16 : decode cX9_nextRelease 16 = .ok (.istore 4, 2) := by decide +kernel
theorem dX9_nextRelease_18 : decode cX9_nextRelease 18 = .ok (.iload 4, 2) := by decide +kernel
theorem dX9_nextRelease_20 : decode cX9_nextRelease 20 = .ok (.ifCond .ne 7, 3) := by decide +kernel
theorem dX9_nextRelease_23 : decode cX9_nextRelease 23 = .ok (.iload_n 3, 1) := by decide +kernel
theorem dX9_nextRelease_24 : decode cX9_nextRelease 24 = .ok (.goto 5, 3) := by decide +kernel
theorem dX9_nextRelease_27 : decode cX9_nextRelease 27 = .ok (.iload 4, 2) := by decide +kernel
theorem dX9_nextRelease_29 : decode cX9_nextRelease 29 = .ok (.istore 4, 2) := by decide +kernel
theorem dX9_nextRelease_31 : decode cX9_nextRelease 31 = .ok (.iload 4, 2) := by decide +kernel
theorem dX9_nextRelease_33 : decode cX9_nextRelease 33 = .ok (.sipush 400, 3) := by decide +kernel
theorem dX9_nextRelease_36 : decode cX9_nextRelease 36 = .ok (.if_icmp .ge 8, 3) := by decide +kernel
theorem dX9_nextRelease_39 : decode cX9_nextRelease 39 = .ok (.iload 4, 2) := by decide +kernel
theorem dX9_nextRelease_41 : decode cX9_nextRelease 41 = .ok (.goto 4, 3) := by decide +kernel
theorem dX9_nextRelease_44 : decode cX9_nextRelease 44 = .ok (.iconst (-1), 1) := by decide +kernel
theorem dX9_nextRelease_45 : decode cX9_nextRelease 45 = .ok (.ireturn, 1) := by decide +kernel
set_option maxRecDepth 20000 in
theorem ggX9_isFrozen_X9_ruleOf : GoodIn wsX9_isFrozen wsX9_ruleOf := goodIn_r _ [5, 6, 7, 12, 13, 14, 15, 16, 17, 18, 19, 20, 21, 22, 23, 24, 25, 26, 27, 28, 29, 30, 31, 32, 33, 34, 35, 36, 37, 38, 39, 40, 41, 42, 43, 44, 45, 46, 47, 48, 49, 50, 51, 52, 53, 54, 55] rfl (by decide +kernel)
set_option maxRecDepth 20000 in
theorem gX9_isFrozen_X9_ruleOf : GoodIn wsX9_isFrozen (wsV RX9 203 RX9 yX9_ruleOf wsX9_ruleOf) := goodIn_app (goodIn_r _ [1, 2, 3, 4] rfl (by decide +kernel)) ggX9_isFrozen_X9_ruleOf
set_option maxRecDepth 20000 in
theorem ggX9_isFrozen_X9_nextRelease : GoodIn wsX9_isFrozen wsX9_nextRelease := goodIn_r _ [11, 1, 2, 3, 4, 5, 6, 7, 12, 13, 14, 15, 16, 17, 18, 19, 20, 21, 22, 23, 24, 25, 26, 27, 28, 29, 30, 31, 32, 33, 34, 35, 36, 37, 38, 39, 40, 41, 42, 43, 44, 45, 46, 47, 48, 49, 50, 51, 52, 53, 54, 55] rfl (by decide +kernel)
set_option maxRecDepth 20000 in
theorem gX9_isFrozen_X9_nextRelease : GoodIn wsX9_isFrozen (wsV RX9 218 RX9 yX9_nextRelease wsX9_nextRelease) := goodIn_app (goodIn_r _ [8, 9, 10, 4] rfl (by decide +kernel)) ggX9_isFrozen_X9_nextRelease
theorem dX9_isFrozen_0 : decode cX9_isFrozen 0 = .ok (.aload_n 0, 1) := by decide +kernel
theorem dX9_isFrozen_1 : decode cX9_isFrozen 1 = .ok (.iload_n 1, 1) := by decide +kernel
theorem dX9_isFrozen_2 : decode cX9_isFrozen 2 = .ok (.iload_n 2, 1) := by decide +kernel
theorem dX9_isFrozen_3 : decode cX9_isFrozen 3 = .ok (.aload_n 0, 1) := by decide +kernel
theorem dX9_isFrozen_4 : decode cX9_isFrozen 4 = .ok (.iload_n 1, 1) := by decide +kernel
theorem dX9_isFrozen_5 : decode cX9_isFrozen 5 = .ok (.iconst 1, 1) := by decide +kernel
theorem dX9_isFrozen_6 : decode cX9_isFrozen 6 = .ok (.invokevirtual 203, 3) := by decide +kernel
theorem dX9_isFrozen_9 : decode cX9_isFrozen 9 = .ok (.iadd, 1) := by decide +kernel
theorem dX9_isFrozen_10 : decode cX9_isFrozen 10 = .ok (.iconst 1, 1) := by decide +kernel
theorem dX9_isFrozen_11 : decode cX9_isFrozen 11 = .ok (.iadd, 1) := by decide +kernel
theorem dX9_isFrozen_12 : decode cX9_isFrozen 12 = .ok (.invokevirtual 218, 3) := by decide +kernel
theorem dX9_isFrozen_15 : decode cX9_isFrozen 15 = .ok (.istore_n 3, 1) := by decide +kernel
theorem dX9_isFrozen_16 : decode cX9_isFrozen 16 = .ok (.iload_n 3, 1) := by decide +kernel
theorem dX9_isFrozen_17 : decode cX9_isFrozen 17 = .ok (.iconst (-1), 1) := by decide +kernel
theorem dX9_isFrozen_18 : decode cX9_isFrozen 18 = .ok (.if_icmp .eq 26, 3) := by decide +kernel
theorem dX9_isFrozen_21 : decode cX9_isFrozen 21 = .ok (.iload_n 3, 1) := by decide +kernel
theorem dX9_isFrozen_22 : decode cX9_isFrozen 22 = .ok (.aload_n 0, 1) := by decide +kernel
theorem dX9_isFrozen_23 : decode cX9_isFrozen 23 = .ok (.iload_n 1, 1) := by decide +kernel
theorem dX9_isFrozen_24 : decode cX9_isFrozen 24 = .ok (.iconst 1, 1) := by decide +kernel
theorem dX9_isFrozen_25 : decode cX9_isFrozen 25 = .ok (.invokevirtual 203, 3) := by decide +kernel
theorem dX9_isFrozen_28 : decode cX9_isFrozen 28 = .ok (.isub, 1) := by decide +kernel
theorem dX9_isFrozen_29 : decode cX9_isFrozen 29 = .ok (.iload_n 2, 1) := by decide +kernel
theorem dX9_isFrozen_30 : decode cX9_isFrozen 30 = .ok (.isub, 1) := by decide +kernel
theorem dX9_isFrozen_31 : decode cX9_isFrozen 31 = .ok (.aload_n 0, 1) := by decide +kernel
theorem dX9_isFrozen_32 : decode cX9_isFrozen 32 = .ok (.iload_n 1, 1) := by decide +kernel
theorem dX9_isFrozen_33 : decode cX9_isFrozen 33 = .ok (.iconst 4, 1) := by decide +kernel
theorem dX9_isFrozen_34 : decode cX9_isFrozen 34 = .ok (.invokevirtual 203, 3) := by decide +kernel
theorem dX9_isFrozen_37 : decode cX9_isFrozen 37 = .ok (.if_icmp .gt 7, 3) := by decide +kernel
theorem dX9_isFrozen_40 : decode cX9_isFrozen 40 = .ok (.iconst 1, 1) := by decide +kernel
theorem dX9_isFrozen_41 : decode cX9_isFrozen 41 = .ok (.goto 4, 3) := by decide +kernel
theorem dX9_isFrozen_44 : decode cX9_isFrozen 44 = .ok (.iconst 0, 1) := by decide +kernel
theorem dX9_isFrozen_45 : decode cX9_isFrozen 45 = .ok (.ireturn, 1) := by decide +kernel
theorem dX9_isAhead_0 : decode cX9_isAhead 0 = .ok (.aload_n 0, 1) := by decide +kernel
theorem dX9_isAhead_1 : decode cX9_isAhead 1 = .ok (.getfield 33, 3) := by decide +kernel
theorem dX9_isAhead_4 : decode cX9_isAhead 4 = .ok (.iload_n 2, 1) := by decide +kernel
theorem dX9_isAhead_5 : decode cX9_isAhead 5 = .ok (.iaload, 1) := by decide +kernel
theorem dX9_isAhead_6 : decode cX9_isAhead 6 = .ok (.iconst (-1), 1) := by decide +kernel
theorem dX9_isAhead_7 : decode cX9_isAhead 7 = .ok (.if_icmp .eq 7, 3) := by decide +kernel
theorem dX9_isAhead_10 : decode cX9_isAhead 10 = .ok (.iconst 1, 1) := by decide +kernel
theorem dX9_isAhead_11 : decode cX9_isAhead 11 = .ok (.goto 4, 3) := by decide +kernel
theorem dX9_isAhead_14 : decode cX9_isAhead 14 = .ok (.iconst 0, 1) := by decide +kernel
theorem dX9_isAhead_15 : decode cX9_isAhead 15 = .ok (.istore 4, 2) := by decide +kernel
theorem dX9_isAhead_17 : decode cX9_isAhead 17 = .ok (.aload_n 0, 1) := by decide +kernel
theorem dX9_isAhead_18 : decode cX9_isAhead 18 = .ok (.getfield 33, 3) := by decide +kernel
theorem dX9_isAhead_21 : decode cX9_isAhead 21 = .ok (.iload_n 3, 1) := by decide +kernel
theorem dX9_isAhead_22 : decode cX9_isAhead 22 = .ok (.iaload, 1) := by decide +kernel
theorem dX9_isAhead_23 : decode cX9_isAhead 23 = .ok (.iconst (-1), 1) := by decide +kernel
theorem dX9_isAhead_24 : decode cX9_isAhead 24 = .ok (.if_icmp .eq 7, 3) := by decide +kernel
theorem dX9_isAhead_27 : decode cX9_isAhead 27 = .ok (.iconst 1, 1) := by decide +kernel
theorem dX9_isAhead_28 : decode cX9_isAhead 28 = .ok (.goto 4, 3) := by decide +kernel
theorem dX9_isAhead_31 : decode cX9_isAhead 31 = .ok (.iconst 0, 1) := by decide +kernel
theorem dX9_isAhead_32 : decode cX9_isAhead 32 = .ok (.istore 5, 2) := by decide +kernel
theorem dX9_isAhead_34 : decode cX9_isAhead 34 = .ok (.iload 4, 2) := by decide +kernel
theorem dX9_isAhead_36 : decode cX9_isAhead 36 = .ok (.iload 5, 2) := by decide +kernel
theorem dX9_isAhead_38 : decode cX9_isAhead 38 = .ok (.if_icmp .eq 6, 3) := by decide +kernel
theorem dX9_isAhead_41 : decode cX9_isAhead 41 = .ok (.iload 4, 2) := by decide +kernel
theorem dX9_isAhead_43 : decode cX9_isAhead 43 = .ok (.ireturn, 1) := by decide +kernel
theorem dX9_isAhead_44 : decode cX9_isAhead 44 = .ok (.aload_n 0, 1) := by decide +kernel
theorem dX9_isAhead_45 : decode cX9_isAhead 45 = .ok (.getfield 48, 3) := by decide +kernel
theorem dX9_isAhead_48 : decode cX9_isAhead 48 = .ok (.bipush 60, 2) := by decide +kernel
theorem dX9_isAhead_50 : decode cX9_isAhead 50 = .ok (.iload_n 1, 1) := by decide +kernel
theorem dX9_isAhead_51 : decode cX9_isAhead 51 = .ok (.imul, 1) := by decide +kernel
theorem dX9_isAhead_52 : decode cX9_isAhead 52 = .ok (.iload_n 2, 1) := by decide +kernel
theorem dX9_isAhead_53 : decode cX9_isAhead 53 = .ok (.iadd, 1) := by decide +kernel
theorem dX9_isAhead_54 : decode cX9_isAhead 54 = .ok (.iaload, 1) := by decide +kernel
theorem dX9_isAhead_55 : decode cX9_isAhead 55 = .ok (.aload_n 0, 1) := by decide +kernel
theorem dX9_isAhead_56 : decode cX9_isAhead 56 = .ok (.getfield 48, 3) := by decide +kernel
theorem dX9_isAhead_59 : decode cX9_isAhead 59 = .ok (.bipush 60, 2) := by decide +kernel
theorem dX9_isAhead_61 : decode cX9_isAhead 61 = .ok (.iload_n 1, 1) := by decide +kernel
theorem dX9_isAhead_62 : decode cX9_isAhead 62 = .ok (.imul, 1) := by decide +kernel
theorem dX9_isAhead_63 : decode cX9_isAhead 63 = .ok (.iload_n 3, 1) := by decide +kernel
theorem dX9_isAhead_64 : decode cX9_isAhead 64 = .ok (.iadd, 1) := by decide +kernel
theorem dX9_isAhead_65 : decode cX9_isAhead 65 = .ok (.iaload, 1) := by decide +kernel
theorem dX9_isAhead_66 : decode cX9_isAhead 66 = .ok (.isub, 1) := by decide +kernel
theorem dX9_isAhead_67 : decode cX9_isAhead 67 = .ok (.istore 6, 2) := by decide +kernel
theorem dX9_isAhead_69 : decode cX9_isAhead 69 = .ok (.iload 6, 2) := by decide +kernel
theorem dX9_isAhead_71 : decode cX9_isAhead 71 = .ok (.ifCond .lt 13, 3) := by decide +kernel
theorem dX9_isAhead_74 : decode cX9_isAhead 74 = .ok (.iload 6, 2) := by decide +kernel
theorem dX9_isAhead_76 : decode cX9_isAhead 76 = .ok (.ifCond .ne 12, 3) := by decide +kernel
theorem dX9_isAhead_79 : decode cX9_isAhead 79 = .ok (.iload_n 2, 1) := by decide +kernel
theorem dX9_isAhead_80 : decode cX9_isAhead 80 = .ok (.iload_n 3, 1) := by decide +kernel
theorem dX9_isAhead_81 : decode cX9_isAhead 81 = .ok (.if_icmp .ge 7, 3) := by decide +kernel
theorem dX9_isAhead_84 : decode cX9_isAhead 84 = .ok (.iconst 1, 1) := by decide +kernel
theorem dX9_isAhead_85 : decode cX9_isAhead 85 = .ok (.goto 4, 3) := by decide +kernel
theorem dX9_isAhead_88 : decode cX9_isAhead 88 = .ok (.iconst 0, 1) := by decide +kernel
theorem dX9_isAhead_89 : decode cX9_isAhead 89 = .ok (.ireturn, 1) := by decide +kernel
set_option maxRecDepth 20000 in
theorem ggX9_mergesAt_X9_isAhead : GoodIn wsX9_mergesAt wsX9_isAhead := goodIn_r _ [15, 6, 3, 48, 49, 50, 51, 52, 53, 54, 55, 56, 57, 58, 59, 60, 61, 62, 63, 64, 65, 66, 67, 68, 69, 70, 71, 72, 73, 74, 75, 76, 77, 78, 79, 80, 81, 82, 83, 84, 85, 86, 87, 88, 89, 90, 91] rfl (by decide +kernel)
set_option maxRecDepth 20000 in
theorem gX9_mergesAt_X9_isAhead : GoodIn wsX9_mergesAt (wsV RX9 221 RX9 yX9_isAhead wsX9_isAhead) := goodIn_app (goodIn_r _ [11, 12, 13, 14] rfl (by decide +kernel)) ggX9_mergesAt_X9_isAhead
set_option maxRecDepth 20000 in
theorem ggX9_mergesAt_X9_isFrozen : GoodIn wsX9_mergesAt wsX9_isFrozen := goodIn_r _ [19, 20, 21, 22, 14, 23, 24, 25, 26, 27, 28, 29, 48, 49, 50, 51, 52, 53, 54, 55, 56, 57, 58, 59, 60, 61, 62, 63, 64, 65, 66, 67, 68, 69, 70, 71, 72, 73, 74, 75, 76, 77, 78, 79, 80, 81, 82, 83, 84, 85, 86, 87, 88, 89, 90, 91] rfl (by decide +kernel)
set_option maxRecDepth 20000 in
theorem gX9_mergesAt_X9_isFrozen : GoodIn wsX9_mergesAt (wsV RX9 224 RX9 yX9_isFrozen wsX9_isFrozen) := goodIn_app (goodIn_r _ [16, 17, 18, 14] rfl (by decide +kernel)) ggX9_mergesAt_X9_isFrozen
set_option maxRecDepth 20000 in
theorem ggX9_mergesAt_X9_ruleOf : GoodIn wsX9_mergesAt wsX9_ruleOf := goodIn_r _ [23, 24, 25, 48, 49, 50, 51, 52, 53, 54, 55, 56, 57, 58, 59, 60, 61, 62, 63, 64, 65, 66, 67, 68, 69, 70, 71, 72, 73, 74, 75, 76, 77, 78, 79, 80, 81, 82, 83, 84, 85, 86, 87, 88, 89, 90, 91] rfl (by decide +kernel)
set_option maxRecDepth 20000 in
theorem gX9_mergesAt_X9_ruleOf : GoodIn wsX9_mergesAt (wsV RX9 203 RX9 yX9_ruleOf wsX9_ruleOf) := goodIn_app (goodIn_r _ [20, 21, 22, 14] rfl (by decide +kernel)) ggX9_mergesAt_X9_ruleOf
set_option maxRecDepth 20000 in
theorem ggX9_mergesAt_X9_hangsMerged : GoodIn wsX9_mergesAt wsX9_hangsMerged := goodIn_r _ [33, 34, 4, 35, 48, 49, 50, 51, 52, 53, 54, 55, 56, 57, 58, 59, 60, 61, 62, 63, 64, 65, 66, 67, 68, 69, 70, 71, 72, 73, 74, 75, 76, 77, 78, 79, 80, 81, 82, 83, 84, 85, 86, 87, 88, 89, 90, 91] rfl (by decide +kernel)
set_option maxRecDepth 20000 in
theorem gX9_mergesAt_X9_hangsMerged : GoodIn wsX9_mergesAt (wsV RX9 228 RX9 yX9_hangsMerged wsX9_hangsMerged) := goodIn_app (goodIn_r _ [30, 31, 32, 14] rfl (by decide +kernel)) ggX9_mergesAt_X9_hangsMerged
set_option maxRecDepth 20000 in
theorem ggX9_mergesAt_X9_unlike : GoodIn wsX9_mergesAt wsX9_unlike := goodIn_r _ [39, 1, 4, 40, 9, 41, 48, 49, 50, 51, 52, 53, 54, 55, 56, 57, 58, 59, 60, 61, 62, 63, 64, 65, 66, 67, 68, 69, 70, 71, 72, 73, 74, 75, 76, 77, 78, 79, 80, 81, 82, 83, 84, 85, 86, 87, 88, 89, 90, 91] rfl (by decide +kernel)
set_option maxRecDepth 20000 in
theorem gX9_mergesAt_X9_unlike : GoodIn wsX9_mergesAt (wsV RX9 231 RX9 yX9_unlike wsX9_unlike) := goodIn_app (goodIn_r _ [36, 37, 38, 14] rfl (by decide +kernel)) ggX9_mergesAt_X9_unlike
set_option maxRecDepth 20000 in
theorem ggX9_mergesAt_X9_merge : GoodIn wsX9_mergesAt wsX9_merge := goodIn_r _ [45, 4, 40, 10, 46, 6, 47, 20, 21, 22, 14, 23, 24, 25, 48, 49, 50, 51, 52, 53, 54, 55, 56, 57, 58, 59, 60, 61, 62, 63, 64, 65, 66, 67, 68, 69, 70, 71, 72, 73, 74, 75, 76, 77, 78, 79, 80, 81, 82, 83, 84, 85, 86, 87, 88, 89, 90, 91] rfl (by decide +kernel)
set_option maxRecDepth 20000 in
theorem gX9_mergesAt_X9_merge : GoodIn wsX9_mergesAt (wsV RX9 234 RX9 yX9_merge wsX9_merge) := goodIn_app (goodIn_r _ [42, 43, 44, 14] rfl (by decide +kernel)) ggX9_mergesAt_X9_merge
theorem dX9_mergesAt_0 : decode cX9_mergesAt 0 = .ok (.iconst 0, 1) := by decide +kernel
theorem dX9_mergesAt_1 : decode cX9_mergesAt 1 = .ok (.istore_n 3, 1) := by decide +kernel
theorem dX9_mergesAt_2 : decode cX9_mergesAt 2 = .ok (.iconst 0, 1) := by decide +kernel
theorem dX9_mergesAt_3 : decode cX9_mergesAt 3 = .ok (.istore 4, 2) := by decide +kernel
theorem dX9_mergesAt_5 : decode cX9_mergesAt 5 = .ok (.iload 4, 2) := by decide +kernel
theorem dX9_mergesAt_7 : decode cX9_mergesAt 7 = .ok (.aload_n 0, 1) := by decide +kernel
theorem dX9_mergesAt_8 : decode cX9_mergesAt 8 = .ok (.getfield 192, 3) := by decide +kernel
theorem dX9_mergesAt_11 : decode cX9_mergesAt 11 = .ok (.if_icmp .ge 115, 3) := by decide +kernel
theorem dX9_mergesAt_14 : decode cX9_mergesAt 14 = .ok (.bipush 60, 2) := by decide +kernel
theorem dX9_mergesAt_16 : decode cX9_mergesAt 16 = .ok (.iload_n 1, 1) := by decide +kernel
theorem dX9_mergesAt_17 : decode cX9_mergesAt 17 = .ok (.imul, 1) := by decide +kernel
theorem dX9_mergesAt_18 : decode cX9_mergesAt 18 = .ok (.iload 4, 2) := by decide +kernel
theorem dX9_mergesAt_20 : decode cX9_mergesAt 20 = .ok (.iadd, 1) := by decide +kernel
theorem dX9_mergesAt_21 : decode cX9_mergesAt 21 = .ok (.istore 5, 2) := by decide +kernel
theorem dX9_mergesAt_23 : decode cX9_mergesAt 23 = .ok (.aload_n 0, 1) := by decide +kernel
theorem dX9_mergesAt_24 : decode cX9_mergesAt 24 = .ok (.getfield 45, 3) := by decide +kernel
theorem dX9_mergesAt_27 : decode cX9_mergesAt 27 = .ok (.iload 5, 2) := by decide +kernel
theorem dX9_mergesAt_29 : decode cX9_mergesAt 29 = .ok (.iaload, 1) := by decide +kernel
theorem dX9_mergesAt_30 : decode cX9_mergesAt 30 = .ok (.iconst (-1), 1) := by decide +kernel
theorem dX9_mergesAt_31 : decode cX9_mergesAt 31 = .ok (.if_icmp .eq 89, 3) := by decide +kernel
theorem dX9_mergesAt_34 : decode cX9_mergesAt 34 = .ok (.aload_n 0, 1) := by decide +kernel
theorem dX9_mergesAt_35 : decode cX9_mergesAt 35 = .ok (.getfield 48, 3) := by decide +kernel
theorem dX9_mergesAt_38 : decode cX9_mergesAt 38 = .ok (.iload 5, 2) := by decide +kernel
theorem dX9_mergesAt_40 : decode cX9_mergesAt 40 = .ok (.iaload, 1) := by decide +kernel
theorem dX9_mergesAt_41 : decode cX9_mergesAt 41 = .ok (.iload_n 2, 1) := by decide +kernel
theorem dX9_mergesAt_42 : decode cX9_mergesAt 42 = .ok (.if_icmp .gt 78, 3) := by decide +kernel
theorem dX9_mergesAt_45 : decode cX9_mergesAt 45 = .ok (.aload_n 0, 1) := by decide +kernel
theorem dX9_mergesAt_46 : decode cX9_mergesAt 46 = .ok (.getfield 54, 3) := by decide +kernel
theorem dX9_mergesAt_49 : decode cX9_mergesAt 49 = .ok (.iload 5, 2) := by decide +kernel
theorem dX9_mergesAt_51 : decode cX9_mergesAt 51 = .ok (.iaload, 1) := by decide +kernel
theorem dX9_mergesAt_52 : decode cX9_mergesAt 52 = .ok (.iconst (-1), 1) := by decide +kernel
theorem dX9_mergesAt_53 : decode cX9_mergesAt 53 = .ok (.if_icmp .eq 6, 3) := by decide +kernel
theorem dX9_mergesAt_56 : decode cX9_mergesAt 56 = .ok (.goto 64, 3) := by decide +kernel
theorem dX9_mergesAt_59 : decode cX9_mergesAt 59 = .ok (.iload_n 3, 1) := by decide +kernel
theorem dX9_mergesAt_60 : decode cX9_mergesAt 60 = .ok (.istore 6, 2) := by decide +kernel
theorem dX9_mergesAt_62 : decode cX9_mergesAt 62 = .ok (.iload 6, 2) := by decide +kernel
theorem dX9_mergesAt_64 : decode cX9_mergesAt 64 = .ok (.ifCond .le 44, 3) := by decide +kernel
theorem dX9_mergesAt_67 : decode cX9_mergesAt 67 = .ok (.aload_n 0, 1) := by decide +kernel
theorem dX9_mergesAt_68 : decode cX9_mergesAt 68 = .ok (.iload_n 1, 1) := by decide +kernel
theorem dX9_mergesAt_69 : decode cX9_mergesAt 69 = .ok (.iload 4, 2) := by decide +kernel
theorem dX9_mergesAt_71 : decode cX9_mergesAt 71 = .ok (.aload_n 0, 1) := by decide +kernel
theorem dX9_mergesAt_72 : decode cX9_mergesAt 72 = .ok (.getfield 110, 3) := by decide +kernel
theorem dX9_mergesAt_75 : decode cX9_mergesAt 75 = .ok (.iload 6, 2) := by decide +kernel
theorem dX9_mergesAt_77 : decode cX9_mergesAt 77 = .ok (.iconst 1, 1) := by decide +kernel
theorem dX9_mergesAt_78 : decode cX9_mergesAt 78 = .ok (.isub, 1) := by decide +kernel
theorem dX9_mergesAt_79 : decode cX9_mergesAt 79 = .ok (.iaload, 1) := by decide +kernel
theorem dX9_mergesAt_80 : decode cX9_mergesAt 80 = .ok (.invokevirtual 221, 3) := by decide +kernel
theorem dX9_mergesAt_83 : decode cX9_mergesAt 83 = .ok (.ifCond .eq 25, 3) := by decide +kernel
theorem dX9_mergesAt_86 : decode cX9_mergesAt 86 = .ok (.aload_n 0, 1) := by decide +kernel
theorem dX9_mergesAt_87 : decode cX9_mergesAt 87 = .ok (.getfield 110, 3) := by decide +kernel
theorem dX9_mergesAt_90 : decode cX9_mergesAt 90 = .ok (.iload 6, 2) := by decide +kernel
theorem dX9_mergesAt_92 : decode cX9_mergesAt 92 = .ok (.aload_n 0, 1) := by decide +kernel
theorem dX9_mergesAt_93 : decode cX9_mergesAt 93 = .ok (.getfield 110, 3) := by decide +kernel
theorem dX9_mergesAt_96 : decode cX9_mergesAt 96 = .ok (.iload 6, 2) := by decide +kernel
theorem dX9_mergesAt_98 : decode cX9_mergesAt 98 = .ok (.iconst 1, 1) := by decide +kernel
theorem dX9_mergesAt_99 : decode cX9_mergesAt 99 = .ok (.isub, 1) := by decide +kernel
theorem dX9_mergesAt_100 : decode cX9_mergesAt 100 = .ok (.iaload, 1) := by decide +kernel
theorem dX9_mergesAt_101 : decode cX9_mergesAt 101 = .ok (.iastore, 1) := by decide +kernel
theorem dX9_mergesAt_102 : decode cX9_mergesAt 102 = .ok (.iinc 6 (-1), 3) := by decide +kernel
theorem dX9_mergesAt_105 : decode cX9_mergesAt 105 = .ok (.goto (-43), 3) := by decide +kernel
theorem dX9_mergesAt_108 : decode cX9_mergesAt 108 = .ok (.aload_n 0, 1) := by decide +kernel
theorem dX9_mergesAt_109 : decode cX9_mergesAt 109 = .ok (.getfield 110, 3) := by decide +kernel
theorem dX9_mergesAt_112 : decode cX9_mergesAt 112 = .ok (.iload 6, 2) := by decide +kernel
theorem dX9_mergesAt_114 : decode cX9_mergesAt 114 = .ok (.iload 4, 2) := by decide +kernel
theorem dX9_mergesAt_116 : decode cX9_mergesAt 116 = .ok (.iastore, 1) := by decide +kernel
theorem dX9_mergesAt_117 : decode cX9_mergesAt 117 = .ok (.iinc 3 1, 3) := by decide +kernel
theorem dX9_mergesAt_120 : decode cX9_mergesAt 120 = .ok (.iinc 4 1, 3) := by decide +kernel
theorem dX9_mergesAt_123 : decode cX9_mergesAt 123 = .ok (.goto (-118), 3) := by decide +kernel
theorem dX9_mergesAt_126 : decode cX9_mergesAt 126 = .ok (.aload_n 0, 1) := by decide +kernel
theorem dX9_mergesAt_127 : decode cX9_mergesAt 127 = .ok (.iload_n 1, 1) := by decide +kernel
theorem dX9_mergesAt_128 : decode cX9_mergesAt 128 = .ok (.iload_n 2, 1) := by decide +kernel
theorem dX9_mergesAt_129 : decode cX9_mergesAt 129 = .ok (.invokevirtual 224, 3) := by decide +kernel
theorem dX9_mergesAt_132 : decode cX9_mergesAt 132 = .ok (.istore 4, 2) := by decide +kernel
theorem dX9_mergesAt_134 : decode cX9_mergesAt 134 = .ok (.iconst 0, 1) := by decide +kernel
theorem dX9_mergesAt_135 : decode cX9_mergesAt 135 = .ok (.istore 5, 2) := by decide +kernel
theorem dX9_mergesAt_137 : decode cX9_mergesAt 137 = .ok (.iconst 0, 1) := by decide +kernel
theorem dX9_mergesAt_138 : decode cX9_mergesAt 138 = .ok (.istore 6, 2) := by decide +kernel
theorem dX9_mergesAt_140 : decode cX9_mergesAt 140 = .ok (.iload 6, 2) := by decide +kernel
theorem dX9_mergesAt_142 : decode cX9_mergesAt 142 = .ok (.iload_n 3, 1) := by decide +kernel
theorem dX9_mergesAt_143 : decode cX9_mergesAt 143 = .ok (.if_icmp .ge 169, 3) := by decide +kernel
theorem dX9_mergesAt_146 : decode cX9_mergesAt 146 = .ok (.iload 5, 2) := by decide +kernel
theorem dX9_mergesAt_148 : decode cX9_mergesAt 148 = .ok (.aload_n 0, 1) := by decide +kernel
theorem dX9_mergesAt_149 : decode cX9_mergesAt 149 = .ok (.iload_n 1, 1) := by decide +kernel
theorem dX9_mergesAt_150 : decode cX9_mergesAt 150 = .ok (.iconst 3, 1) := by decide +kernel
theorem dX9_mergesAt_151 : decode cX9_mergesAt 151 = .ok (.invokevirtual 203, 3) := by decide +kernel
theorem dX9_mergesAt_154 : decode cX9_mergesAt 154 = .ok (.if_icmp .ge 158, 3) := by decide +kernel
theorem dX9_mergesAt_157 : decode cX9_mergesAt 157 = .ok (.aload_n 0, 1) := by decide +kernel
theorem dX9_mergesAt_158 : decode cX9_mergesAt 158 = .ok (.getfield 110, 3) := by decide +kernel
theorem dX9_mergesAt_161 : decode cX9_mergesAt 161 = .ok (.iload 6, 2) := by decide +kernel
theorem dX9_mergesAt_163 : decode cX9_mergesAt 163 = .ok (.iaload, 1) := by decide +kernel
theorem dX9_mergesAt_164 : decode cX9_mergesAt 164 = .ok (.istore 7, 2) := by decide +kernel
theorem dX9_mergesAt_166 : decode cX9_mergesAt 166 = .ok (.iload 4, 2) := by decide +kernel
theorem dX9_mergesAt_168 : decode cX9_mergesAt 168 = .ok (.ifCond .eq 14, 3) := by decide +kernel
theorem dX9_mergesAt_171 : decode cX9_mergesAt 171 = .ok (.aload_n 0, 1) := by decide +kernel
theorem dX9_mergesAt_172 : decode cX9_mergesAt 172 = .ok (.getfield 33, 3) := by decide +kernel
theorem dX9_mergesAt_175 : decode cX9_mergesAt 175 = .ok (.iload 7, 2) := by decide +kernel
theorem dX9_mergesAt_177 : decode cX9_mergesAt 177 = .ok (.iaload, 1) := by decide +kernel
theorem dX9_mergesAt_178 : decode cX9_mergesAt 178 = .ok (.iconst (-1), 1) := by decide +kernel
theorem dX9_mergesAt_179 : decode cX9_mergesAt 179 = .ok (.if_icmp .eq 127, 3) := by decide +kernel
theorem dX9_mergesAt_182 : decode cX9_mergesAt 182 = .ok (.aload_n 0, 1) := by decide +kernel
theorem dX9_mergesAt_183 : decode cX9_mergesAt 183 = .ok (.iload_n 1, 1) := by decide +kernel
theorem dX9_mergesAt_184 : decode cX9_mergesAt 184 = .ok (.iload 7, 2) := by decide +kernel
theorem dX9_mergesAt_186 : decode cX9_mergesAt 186 = .ok (.invokevirtual 228, 3) := by decide +kernel
theorem dX9_mergesAt_189 : decode cX9_mergesAt 189 = .ok (.ifCond .ne 6, 3) := by decide +kernel
theorem dX9_mergesAt_192 : decode cX9_mergesAt 192 = .ok (.goto 114, 3) := by decide +kernel
theorem dX9_mergesAt_195 : decode cX9_mergesAt 195 = .ok (.aload_n 0, 1) := by decide +kernel
theorem dX9_mergesAt_196 : decode cX9_mergesAt 196 = .ok (.iload_n 1, 1) := by decide +kernel
theorem dX9_mergesAt_197 : decode cX9_mergesAt 197 = .ok (.iconst 5, 1) := by decide +kernel
theorem dX9_mergesAt_198 : decode cX9_mergesAt 198 = .ok (.invokevirtual 203, 3) := by decide +kernel
theorem dX9_mergesAt_201 : decode cX9_mergesAt 201 = .ok (.ifCond .ne 7, 3) := by decide +kernel
theorem dX9_mergesAt_204 : decode cX9_mergesAt 204 = .ok (.iconst 0, 1) := by decide +kernel
theorem dX9_mergesAt_205 : decode cX9_mergesAt 205 = .ok (.goto 10, 3) := by decide +kernel
theorem dX9_mergesAt_208 : decode cX9_mergesAt 208 = .ok (.aload_n 0, 1) := by decide +kernel
theorem dX9_mergesAt_209 : decode cX9_mergesAt 209 = .ok (.iload_n 1, 1) := by decide +kernel
theorem dX9_mergesAt_210 : decode cX9_mergesAt 210 = .ok (.iload 7, 2) := by decide +kernel
theorem dX9_mergesAt_212 : decode cX9_mergesAt 212 = .ok (.invokevirtual 231, 3) := by decide +kernel
theorem dX9_mergesAt_215 : decode cX9_mergesAt 215 = .ok (.istore 8, 2) := by decide +kernel
theorem dX9_mergesAt_217 : decode cX9_mergesAt 217 = .ok (.iload 8, 2) := by decide +kernel
theorem dX9_mergesAt_219 : decode cX9_mergesAt 219 = .ok (.ifCond .ne 17, 3) := by decide +kernel
theorem dX9_mergesAt_222 : decode cX9_mergesAt 222 = .ok (.aload_n 0, 1) := by decide +kernel
theorem dX9_mergesAt_223 : decode cX9_mergesAt 223 = .ok (.iload_n 1, 1) := by decide +kernel
theorem dX9_mergesAt_224 : decode cX9_mergesAt 224 = .ok (.iload 7, 2) := by decide +kernel
theorem dX9_mergesAt_226 : decode cX9_mergesAt 226 = .ok (.iload_n 2, 1) := by decide +kernel
theorem dX9_mergesAt_227 : decode cX9_mergesAt 227 = .ok (.invokevirtual 234, 3) := by decide +kernel
theorem dX9_mergesAt_230 : decode cX9_mergesAt 230 = .ok (.iinc 5 1, 3) := by decide +kernel
theorem dX9_mergesAt_233 : decode cX9_mergesAt 233 = .ok (.goto 73, 3) := by decide +kernel
theorem dX9_mergesAt_236 : decode cX9_mergesAt 236 = .ok (.bipush 60, 2) := by decide +kernel
theorem dX9_mergesAt_238 : decode cX9_mergesAt 238 = .ok (.iload_n 1, 1) := by decide +kernel
theorem dX9_mergesAt_239 : decode cX9_mergesAt 239 = .ok (.imul, 1) := by decide +kernel
theorem dX9_mergesAt_240 : decode cX9_mergesAt 240 = .ok (.iload 7, 2) := by decide +kernel
theorem dX9_mergesAt_242 : decode cX9_mergesAt 242 = .ok (.iadd, 1) := by decide +kernel
theorem dX9_mergesAt_243 : decode cX9_mergesAt 243 = .ok (.istore 9, 2) := by decide +kernel
theorem dX9_mergesAt_245 : decode cX9_mergesAt 245 = .ok (.aload_n 0, 1) := by decide +kernel
theorem dX9_mergesAt_246 : decode cX9_mergesAt 246 = .ok (.getfield 66, 3) := by decide +kernel
theorem dX9_mergesAt_249 : decode cX9_mergesAt 249 = .ok (.iload 9, 2) := by decide +kernel
theorem dX9_mergesAt_251 : decode cX9_mergesAt 251 = .ok (.dup2, 1) := by decide +kernel
theorem dX9_mergesAt_252 : decode cX9_mergesAt 252 = .ok (.iaload, 1) := by decide +kernel
theorem dX9_mergesAt_253 : decode cX9_mergesAt 253 = .ok (.iconst 1, 1) := by decide +kernel
theorem dX9_mergesAt_254 : decode cX9_mergesAt 254 = .ok (.iadd, 1) := by decide +kernel
theorem dX9_mergesAt_255 : decode cX9_mergesAt 255 = .ok (.iastore, 1) := by decide +kernel
theorem dX9_mergesAt_256 : decode cX9_mergesAt 256 = .ok (.aload_n 0, 1) := by decide +kernel
theorem dX9_mergesAt_257 : decode cX9_mergesAt 257 = .ok (.getfield 69, 3) := by decide +kernel
theorem dX9_mergesAt_260 : decode cX9_mergesAt 260 = .ok (.iload 9, 2) := by decide +kernel
theorem dX9_mergesAt_262 : decode cX9_mergesAt 262 = .ok (.dup2, 1) := by decide +kernel
theorem dX9_mergesAt_263 : decode cX9_mergesAt 263 = .ok (.iaload, 1) := by decide +kernel
theorem dX9_mergesAt_264 : decode cX9_mergesAt 264 = .ok (.iload 8, 2) := by decide +kernel
theorem dX9_mergesAt_266 : decode cX9_mergesAt 266 = .ok (.aload_n 0, 1) := by decide +kernel
theorem dX9_mergesAt_267 : decode cX9_mergesAt 267 = .ok (.iload_n 1, 1) := by decide +kernel
theorem dX9_mergesAt_268 : decode cX9_mergesAt 268 = .ok (.iconst 5, 1) := by decide +kernel
theorem dX9_mergesAt_269 : decode cX9_mergesAt 269 = .ok (.invokevirtual 203, 3) := by decide +kernel
theorem dX9_mergesAt_272 : decode cX9_mergesAt 272 = .ok (.imul, 1) := by decide +kernel
theorem dX9_mergesAt_273 : decode cX9_mergesAt 273 = .ok (.iadd, 1) := by decide +kernel
theorem dX9_mergesAt_274 : decode cX9_mergesAt 274 = .ok (.iastore, 1) := by decide +kernel
theorem dX9_mergesAt_275 : decode cX9_mergesAt 275 = .ok (.aload_n 0, 1) := by decide +kernel
theorem dX9_mergesAt_276 : decode cX9_mergesAt 276 = .ok (.getfield 48, 3) := by decide +kernel
theorem dX9_mergesAt_279 : decode cX9_mergesAt 279 = .ok (.iload 9, 2) := by decide +kernel
theorem dX9_mergesAt_281 : decode cX9_mergesAt 281 = .ok (.iload_n 2, 1) := by decide +kernel
theorem dX9_mergesAt_282 : decode cX9_mergesAt 282 = .ok (.iload 8, 2) := by decide +kernel
theorem dX9_mergesAt_284 : decode cX9_mergesAt 284 = .ok (.aload_n 0, 1) := by decide +kernel
theorem dX9_mergesAt_285 : decode cX9_mergesAt 285 = .ok (.iload_n 1, 1) := by decide +kernel
theorem dX9_mergesAt_286 : decode cX9_mergesAt 286 = .ok (.iconst 5, 1) := by decide +kernel
theorem dX9_mergesAt_287 : decode cX9_mergesAt 287 = .ok (.invokevirtual 203, 3) := by decide +kernel
theorem dX9_mergesAt_290 : decode cX9_mergesAt 290 = .ok (.imul, 1) := by decide +kernel
theorem dX9_mergesAt_291 : decode cX9_mergesAt 291 = .ok (.iadd, 1) := by decide +kernel
theorem dX9_mergesAt_292 : decode cX9_mergesAt 292 = .ok (.iastore, 1) := by decide +kernel
theorem dX9_mergesAt_293 : decode cX9_mergesAt 293 = .ok (.aload_n 0, 1) := by decide +kernel
theorem dX9_mergesAt_294 : decode cX9_mergesAt 294 = .ok (.getfield 51, 3) := by decide +kernel
theorem dX9_mergesAt_297 : decode cX9_mergesAt 297 = .ok (.iload 9, 2) := by decide +kernel
theorem dX9_mergesAt_299 : decode cX9_mergesAt 299 = .ok (.aload_n 0, 1) := by decide +kernel
theorem dX9_mergesAt_300 : decode cX9_mergesAt 300 = .ok (.getfield 75, 3) := by decide +kernel
theorem dX9_mergesAt_303 : decode cX9_mergesAt 303 = .ok (.iload_n 1, 1) := by decide +kernel
theorem dX9_mergesAt_304 : decode cX9_mergesAt 304 = .ok (.iaload, 1) := by decide +kernel
theorem dX9_mergesAt_305 : decode cX9_mergesAt 305 = .ok (.iastore, 1) := by decide +kernel
theorem dX9_mergesAt_306 : decode cX9_mergesAt 306 = .ok (.iinc 6 1, 3) := by decide +kernel
theorem dX9_mergesAt_309 : decode cX9_mergesAt 309 = .ok (.goto (-169), 3) := by decide +kernel
theorem dX9_mergesAt_312 : decode cX9_mergesAt 312 = .ok (.return_, 1) := by decide +kernel
theorem dX9_hangsMerged_0 : decode cX9_hangsMerged 0 = .ok (.iconst 3, 1) := by decide +kernel
theorem dX9_hangsMerged_1 : decode cX9_hangsMerged 1 = .ok (.iload_n 2, 1) := by decide +kernel
theorem dX9_hangsMerged_2 : decode cX9_hangsMerged 2 = .ok (.imul, 1) := by decide +kernel
theorem dX9_hangsMerged_3 : decode cX9_hangsMerged 3 = .ok (.istore_n 3, 1) := by decide +kernel
theorem dX9_hangsMerged_4 : decode cX9_hangsMerged 4 = .ok (.iload_n 3, 1) := by decide +kernel
theorem dX9_hangsMerged_5 : decode cX9_hangsMerged 5 = .ok (.iconst 3, 1) := by decide +kernel
theorem dX9_hangsMerged_6 : decode cX9_hangsMerged 6 = .ok (.iload_n 2, 1) := by decide +kernel
theorem dX9_hangsMerged_7 : decode cX9_hangsMerged 7 = .ok (.imul, 1) := by decide +kernel
theorem dX9_hangsMerged_8 : decode cX9_hangsMerged 8 = .ok (.aload_n 0, 1) := by decide +kernel
theorem dX9_hangsMerged_9 : decode cX9_hangsMerged 9 = .ok (.getfield 42, 3) := by decide +kernel
theorem dX9_hangsMerged_12 : decode cX9_hangsMerged 12 = .ok (.iload_n 2, 1) := by decide +kernel
theorem dX9_hangsMerged_13 : decode cX9_hangsMerged 13 = .ok (.iaload, 1) := by decide +kernel
theorem dX9_hangsMerged_14 : decode cX9_hangsMerged 14 = .ok (.iadd, 1) := by decide +kernel
theorem dX9_hangsMerged_15 : decode cX9_hangsMerged 15 = .ok (.if_icmp .ge 31, 3) := by decide +kernel
theorem dX9_hangsMerged_18 : decode cX9_hangsMerged 18 = .ok (.aload_n 0, 1) := by decide +kernel
theorem dX9_hangsMerged_19 : decode cX9_hangsMerged 19 = .ok (.getfield 54, 3) := by decide +kernel
theorem dX9_hangsMerged_22 : decode cX9_hangsMerged 22 = .ok (.bipush 60, 2) := by decide +kernel
theorem dX9_hangsMerged_24 : decode cX9_hangsMerged 24 = .ok (.iload_n 1, 1) := by decide +kernel
theorem dX9_hangsMerged_25 : decode cX9_hangsMerged 25 = .ok (.imul, 1) := by decide +kernel
theorem dX9_hangsMerged_26 : decode cX9_hangsMerged 26 = .ok (.aload_n 0, 1) := by decide +kernel
theorem dX9_hangsMerged_27 : decode cX9_hangsMerged 27 = .ok (.getfield 39, 3) := by decide +kernel
theorem dX9_hangsMerged_30 : decode cX9_hangsMerged 30 = .ok (.iload_n 3, 1) := by decide +kernel
theorem dX9_hangsMerged_31 : decode cX9_hangsMerged 31 = .ok (.iaload, 1) := by decide +kernel
theorem dX9_hangsMerged_32 : decode cX9_hangsMerged 32 = .ok (.iadd, 1) := by decide +kernel
theorem dX9_hangsMerged_33 : decode cX9_hangsMerged 33 = .ok (.iaload, 1) := by decide +kernel
theorem dX9_hangsMerged_34 : decode cX9_hangsMerged 34 = .ok (.iconst (-1), 1) := by decide +kernel
theorem dX9_hangsMerged_35 : decode cX9_hangsMerged 35 = .ok (.if_icmp .ne 5, 3) := by decide +kernel
theorem dX9_hangsMerged_38 : decode cX9_hangsMerged 38 = .ok (.iconst 0, 1) := by decide +kernel
theorem dX9_hangsMerged_39 : decode cX9_hangsMerged 39 = .ok (.ireturn, 1) := by decide +kernel
theorem dX9_hangsMerged_40 : decode cX9_hangsMerged 40 = .ok (.iinc 3 1, 3) := by decide +kernel
theorem dX9_hangsMerged_43 : decode cX9_hangsMerged 43 = .ok (.goto (-39), 3) := by decide +kernel
theorem dX9_hangsMerged_46 : decode cX9_hangsMerged 46 = .ok (.iconst 1, 1) := by decide +kernel
theorem dX9_hangsMerged_47 : decode cX9_hangsMerged 47 = .ok (.ireturn, 1) := by decide +kernel
theorem dX9_unlike_0 : decode cX9_unlike 0 = .ok (.iconst 0, 1) := by decide +kernel
theorem dX9_unlike_1 : decode cX9_unlike 1 = .ok (.istore_n 3, 1) := by decide +kernel
theorem dX9_unlike_2 : decode cX9_unlike 2 = .ok (.iconst 0, 1) := by decide +kernel
theorem dX9_unlike_3 : decode cX9_unlike 3 = .ok (.istore 4, 2) := by decide +kernel
theorem dX9_unlike_5 : decode cX9_unlike 5 = .ok (.iload 4, 2) := by decide +kernel
theorem dX9_unlike_7 : decode cX9_unlike 7 = .ok (.aload_n 0, 1) := by decide +kernel
theorem dX9_unlike_8 : decode cX9_unlike 8 = .ok (.getfield 192, 3) := by decide +kernel
theorem dX9_unlike_11 : decode cX9_unlike 11 = .ok (.if_icmp .ge 61, 3) := by decide +kernel
theorem dX9_unlike_14 : decode cX9_unlike 14 = .ok (.aload_n 0, 1) := by decide +kernel
theorem dX9_unlike_15 : decode cX9_unlike 15 = .ok (.getfield 54, 3) := by decide +kernel
theorem dX9_unlike_18 : decode cX9_unlike 18 = .ok (.bipush 60, 2) := by decide +kernel
theorem dX9_unlike_20 : decode cX9_unlike 20 = .ok (.iload_n 1, 1) := by decide +kernel
theorem dX9_unlike_21 : decode cX9_unlike 21 = .ok (.imul, 1) := by decide +kernel
theorem dX9_unlike_22 : decode cX9_unlike 22 = .ok (.iload 4, 2) := by decide +kernel
theorem dX9_unlike_24 : decode cX9_unlike 24 = .ok (.iadd, 1) := by decide +kernel
theorem dX9_unlike_25 : decode cX9_unlike 25 = .ok (.iaload, 1) := by decide +kernel
theorem dX9_unlike_26 : decode cX9_unlike 26 = .ok (.iconst (-1), 1) := by decide +kernel
theorem dX9_unlike_27 : decode cX9_unlike 27 = .ok (.if_icmp .eq 39, 3) := by decide +kernel
theorem dX9_unlike_30 : decode cX9_unlike 30 = .ok (.aload_n 0, 1) := by decide +kernel
theorem dX9_unlike_31 : decode cX9_unlike 31 = .ok (.getfield 57, 3) := by decide +kernel
theorem dX9_unlike_34 : decode cX9_unlike 34 = .ok (.bipush 60, 2) := by decide +kernel
theorem dX9_unlike_36 : decode cX9_unlike 36 = .ok (.iload_n 1, 1) := by decide +kernel
theorem dX9_unlike_37 : decode cX9_unlike 37 = .ok (.imul, 1) := by decide +kernel
theorem dX9_unlike_38 : decode cX9_unlike 38 = .ok (.iload 4, 2) := by decide +kernel
theorem dX9_unlike_40 : decode cX9_unlike 40 = .ok (.iadd, 1) := by decide +kernel
theorem dX9_unlike_41 : decode cX9_unlike 41 = .ok (.iaload, 1) := by decide +kernel
theorem dX9_unlike_42 : decode cX9_unlike 42 = .ok (.aload_n 0, 1) := by decide +kernel
theorem dX9_unlike_43 : decode cX9_unlike 43 = .ok (.getfield 51, 3) := by decide +kernel
theorem dX9_unlike_46 : decode cX9_unlike 46 = .ok (.bipush 60, 2) := by decide +kernel
theorem dX9_unlike_48 : decode cX9_unlike 48 = .ok (.iload_n 1, 1) := by decide +kernel
theorem dX9_unlike_49 : decode cX9_unlike 49 = .ok (.imul, 1) := by decide +kernel
theorem dX9_unlike_50 : decode cX9_unlike 50 = .ok (.iload_n 2, 1) := by decide +kernel
theorem dX9_unlike_51 : decode cX9_unlike 51 = .ok (.iadd, 1) := by decide +kernel
theorem dX9_unlike_52 : decode cX9_unlike 52 = .ok (.iaload, 1) := by decide +kernel
theorem dX9_unlike_53 : decode cX9_unlike 53 = .ok (.if_icmp .lt 13, 3) := by decide +kernel
theorem dX9_unlike_56 : decode cX9_unlike 56 = .ok (.iload_n 3, 1) := by decide +kernel
theorem dX9_unlike_57 : decode cX9_unlike 57 = .ok (.aload_n 0, 1) := by decide +kernel
theorem dX9_unlike_58 : decode cX9_unlike 58 = .ok (.getfield 24, 3) := by decide +kernel
theorem dX9_unlike_61 : decode cX9_unlike 61 = .ok (.iload 4, 2) := by decide +kernel
theorem dX9_unlike_63 : decode cX9_unlike 63 = .ok (.iaload, 1) := by decide +kernel
theorem dX9_unlike_64 : decode cX9_unlike 64 = .ok (.ior, 1) := by decide +kernel
theorem dX9_unlike_65 : decode cX9_unlike 65 = .ok (.istore_n 3, 1) := by decide +kernel
theorem dX9_unlike_66 : decode cX9_unlike 66 = .ok (.iinc 4 1, 3) := by decide +kernel
theorem dX9_unlike_69 : decode cX9_unlike 69 = .ok (.goto (-64), 3) := by decide +kernel
theorem dX9_unlike_72 : decode cX9_unlike 72 = .ok (.iconst 0, 1) := by decide +kernel
theorem dX9_unlike_73 : decode cX9_unlike 73 = .ok (.istore 4, 2) := by decide +kernel
theorem dX9_unlike_75 : decode cX9_unlike 75 = .ok (.iload_n 3, 1) := by decide +kernel
theorem dX9_unlike_76 : decode cX9_unlike 76 = .ok (.aload_n 0, 1) := by decide +kernel
theorem dX9_unlike_77 : decode cX9_unlike 77 = .ok (.getfield 24, 3) := by decide +kernel
theorem dX9_unlike_80 : decode cX9_unlike 80 = .ok (.iload_n 2, 1) := by decide +kernel
theorem dX9_unlike_81 : decode cX9_unlike 81 = .ok (.iaload, 1) := by decide +kernel
theorem dX9_unlike_82 : decode cX9_unlike 82 = .ok (.iand, 1) := by decide +kernel
theorem dX9_unlike_83 : decode cX9_unlike 83 = .ok (.istore 5, 2) := by decide +kernel
theorem dX9_unlike_85 : decode cX9_unlike 85 = .ok (.iload 5, 2) := by decide +kernel
theorem dX9_unlike_87 : decode cX9_unlike 87 = .ok (.ifCond .eq 18, 3) := by decide +kernel
theorem dX9_unlike_90 : decode cX9_unlike 90 = .ok (.iinc 4 1, 3) := by decide +kernel
theorem dX9_unlike_93 : decode cX9_unlike 93 = .ok (.iload 5, 2) := by decide +kernel
theorem dX9_unlike_95 : decode cX9_unlike 95 = .ok (.iload 5, 2) := by decide +kernel
theorem dX9_unlike_97 : decode cX9_unlike 97 = .ok (.iconst 1, 1) := by decide +kernel
theorem dX9_unlike_98 : decode cX9_unlike 98 = .ok (.isub, 1) := by decide +kernel
theorem dX9_unlike_99 : decode cX9_unlike 99 = .ok (.iand, 1) := by decide +kernel
theorem dX9_unlike_100 : decode cX9_unlike 100 = .ok (.istore 5, 2) := by decide +kernel
theorem dX9_unlike_102 : decode cX9_unlike 102 = .ok (.goto (-17), 3) := by decide +kernel
theorem dX9_unlike_105 : decode cX9_unlike 105 = .ok (.iload 4, 2) := by decide +kernel
theorem dX9_unlike_107 : decode cX9_unlike 107 = .ok (.ireturn, 1) := by decide +kernel
set_option maxRecDepth 20000 in
theorem ggX9_merge_X9_ruleOf : GoodIn wsX9_merge wsX9_ruleOf := goodIn_r _ [11, 12, 13, 14, 15, 16, 17, 18, 19, 20, 21, 22, 23, 24, 25, 26, 27, 28, 29, 30, 31, 32, 33, 34, 35, 36, 37, 38, 39, 40, 41, 42, 43, 44, 45, 46, 47, 48, 49, 50, 51, 52, 53, 54, 55, 56, 57] rfl (by decide +kernel)
set_option maxRecDepth 20000 in
theorem gX9_merge_X9_ruleOf : GoodIn wsX9_merge (wsV RX9 203 RX9 yX9_ruleOf wsX9_ruleOf) := goodIn_app (goodIn_r _ [7, 8, 9, 10] rfl (by decide +kernel)) ggX9_merge_X9_ruleOf
theorem dX9_merge_0 : decode cX9_merge 0 = .ok (.bipush 60, 2) := by decide +kernel
theorem dX9_merge_2 : decode cX9_merge 2 = .ok (.iload_n 1, 1) := by decide +kernel
theorem dX9_merge_3 : decode cX9_merge 3 = .ok (.imul, 1) := by decide +kernel
theorem dX9_merge_4 : decode cX9_merge 4 = .ok (.iload_n 2, 1) := by decide +kernel
theorem dX9_merge_5 : decode cX9_merge 5 = .ok (.iadd, 1) := by decide +kernel
theorem dX9_merge_6 : decode cX9_merge 6 = .ok (.istore 4, 2) := by decide +kernel
theorem dX9_merge_8 : decode cX9_merge 8 = .ok (.aload_n 0, 1) := by decide +kernel
theorem dX9_merge_9 : decode cX9_merge 9 = .ok (.getfield 54, 3) := by decide +kernel
theorem dX9_merge_12 : decode cX9_merge 12 = .ok (.iload 4, 2) := by decide +kernel
theorem dX9_merge_14 : decode cX9_merge 14 = .ok (.iload_n 3, 1) := by decide +kernel
theorem dX9_merge_15 : decode cX9_merge 15 = .ok (.iastore, 1) := by decide +kernel
theorem dX9_merge_16 : decode cX9_merge 16 = .ok (.aload_n 0, 1) := by decide +kernel
theorem dX9_merge_17 : decode cX9_merge 17 = .ok (.getfield 57, 3) := by decide +kernel
theorem dX9_merge_20 : decode cX9_merge 20 = .ok (.iload 4, 2) := by decide +kernel
theorem dX9_merge_22 : decode cX9_merge 22 = .ok (.aload_n 0, 1) := by decide +kernel
theorem dX9_merge_23 : decode cX9_merge 23 = .ok (.getfield 75, 3) := by decide +kernel
theorem dX9_merge_26 : decode cX9_merge 26 = .ok (.iload_n 1, 1) := by decide +kernel
theorem dX9_merge_27 : decode cX9_merge 27 = .ok (.iaload, 1) := by decide +kernel
theorem dX9_merge_28 : decode cX9_merge 28 = .ok (.iastore, 1) := by decide +kernel
theorem dX9_merge_29 : decode cX9_merge 29 = .ok (.aload_n 0, 1) := by decide +kernel
theorem dX9_merge_30 : decode cX9_merge 30 = .ok (.getfield 75, 3) := by decide +kernel
theorem dX9_merge_33 : decode cX9_merge 33 = .ok (.iload_n 1, 1) := by decide +kernel
theorem dX9_merge_34 : decode cX9_merge 34 = .ok (.dup2, 1) := by decide +kernel
theorem dX9_merge_35 : decode cX9_merge 35 = .ok (.iaload, 1) := by decide +kernel
theorem dX9_merge_36 : decode cX9_merge 36 = .ok (.iconst 1, 1) := by decide +kernel
theorem dX9_merge_37 : decode cX9_merge 37 = .ok (.iadd, 1) := by decide +kernel
theorem dX9_merge_38 : decode cX9_merge 38 = .ok (.iastore, 1) := by decide +kernel
theorem dX9_merge_39 : decode cX9_merge 39 = .ok (.aload_n 0, 1) := by decide +kernel
theorem dX9_merge_40 : decode cX9_merge 40 = .ok (.iload_n 1, 1) := by decide +kernel
theorem dX9_merge_41 : decode cX9_merge 41 = .ok (.bipush 7, 2) := by decide +kernel
theorem dX9_merge_43 : decode cX9_merge 43 = .ok (.invokevirtual 203, 3) := by decide +kernel
theorem dX9_merge_46 : decode cX9_merge 46 = .ok (.istore 5, 2) := by decide +kernel
theorem dX9_merge_48 : decode cX9_merge 48 = .ok (.aload_n 0, 1) := by decide +kernel
theorem dX9_merge_49 : decode cX9_merge 49 = .ok (.getfield 85, 3) := by decide +kernel
theorem dX9_merge_52 : decode cX9_merge 52 = .ok (.iload_n 1, 1) := by decide +kernel
theorem dX9_merge_53 : decode cX9_merge 53 = .ok (.baload, 1) := by decide +kernel
theorem dX9_merge_54 : decode cX9_merge 54 = .ok (.ifCond .eq 37, 3) := by decide +kernel
theorem dX9_merge_57 : decode cX9_merge 57 = .ok (.iload 5, 2) := by decide +kernel
theorem dX9_merge_59 : decode cX9_merge 59 = .ok (.iconst 2, 1) := by decide +kernel
theorem dX9_merge_60 : decode cX9_merge 60 = .ok (.if_icmp .eq 19, 3) := by decide +kernel
theorem dX9_merge_63 : decode cX9_merge 63 = .ok (.iload 5, 2) := by decide +kernel
theorem dX9_merge_65 : decode cX9_merge 65 = .ok (.iconst 1, 1) := by decide +kernel
theorem dX9_merge_66 : decode cX9_merge 66 = .ok (.if_icmp .ne 25, 3) := by decide +kernel
theorem dX9_merge_69 : decode cX9_merge 69 = .ok (.aload_n 0, 1) := by decide +kernel
theorem dX9_merge_70 : decode cX9_merge 70 = .ok (.getfield 33, 3) := by decide +kernel
theorem dX9_merge_73 : decode cX9_merge 73 = .ok (.iload_n 2, 1) := by decide +kernel
theorem dX9_merge_74 : decode cX9_merge 74 = .ok (.iaload, 1) := by decide +kernel
theorem dX9_merge_75 : decode cX9_merge 75 = .ok (.iconst (-1), 1) := by decide +kernel
theorem dX9_merge_76 : decode cX9_merge 76 = .ok (.if_icmp .eq 15, 3) := by decide +kernel
theorem dX9_merge_79 : decode cX9_merge 79 = .ok (.aload_n 0, 1) := by decide +kernel
theorem dX9_merge_80 : decode cX9_merge 80 = .ok (.getfield 82, 3) := by decide +kernel
theorem dX9_merge_83 : decode cX9_merge 83 = .ok (.iload_n 1, 1) := by decide +kernel
theorem dX9_merge_84 : decode cX9_merge 84 = .ok (.dup2, 1) := by decide +kernel
theorem dX9_merge_85 : decode cX9_merge 85 = .ok (.laload, 1) := by decide +kernel
theorem dX9_merge_86 : decode cX9_merge 86 = .ok (.lconst 1, 1) := by decide +kernel
theorem dX9_merge_87 : decode cX9_merge 87 = .ok (.iload_n 2, 1) := by decide +kernel
theorem dX9_merge_88 : decode cX9_merge 88 = .ok (.lshl, 1) := by decide +kernel
theorem dX9_merge_89 : decode cX9_merge 89 = .ok (.lor, 1) := by decide +kernel
theorem dX9_merge_90 : decode cX9_merge 90 = .ok (.lastore, 1) := by decide +kernel
theorem dX9_merge_91 : decode cX9_merge 91 = .ok (.return_, 1) := by decide +kernel
theorem dX9_trunk_0 : decode cX9_trunk 0 = .ok (.lconst 0, 1) := by decide +kernel
theorem dX9_trunk_1 : decode cX9_trunk 1 = .ok (.lstore_n 2, 1) := by decide +kernel
theorem dX9_trunk_2 : decode cX9_trunk 2 = .ok (.iconst 0, 1) := by decide +kernel
theorem dX9_trunk_3 : decode cX9_trunk 3 = .ok (.istore 4, 2) := by decide +kernel
theorem dX9_trunk_5 : decode cX9_trunk 5 = .ok (.iload 4, 2) := by decide +kernel
theorem dX9_trunk_7 : decode cX9_trunk 7 = .ok (.aload_n 0, 1) := by decide +kernel
theorem dX9_trunk_8 : decode cX9_trunk 8 = .ok (.getfield 192, 3) := by decide +kernel
theorem dX9_trunk_11 : decode cX9_trunk 11 = .ok (.if_icmp .ge 32, 3) := by decide +kernel
theorem dX9_trunk_14 : decode cX9_trunk 14 = .ok (.aload_n 0, 1) := by decide +kernel
theorem dX9_trunk_15 : decode cX9_trunk 15 = .ok (.getfield 54, 3) := by decide +kernel
theorem dX9_trunk_18 : decode cX9_trunk 18 = .ok (.bipush 60, 2) := by decide +kernel
theorem dX9_trunk_20 : decode cX9_trunk 20 = .ok (.iload_n 1, 1) := by decide +kernel
theorem dX9_trunk_21 : decode cX9_trunk 21 = .ok (.imul, 1) := by decide +kernel
theorem dX9_trunk_22 : decode cX9_trunk 22 = .ok (.iload 4, 2) := by decide +kernel
theorem dX9_trunk_24 : decode cX9_trunk 24 = .ok (.iadd, 1) := by decide +kernel
theorem dX9_trunk_25 : decode cX9_trunk 25 = .ok (.iaload, 1) := by decide +kernel
theorem dX9_trunk_26 : decode cX9_trunk 26 = .ok (.iconst (-1), 1) := by decide +kernel
theorem dX9_trunk_27 : decode cX9_trunk 27 = .ok (.if_icmp .eq 10, 3) := by decide +kernel
theorem dX9_trunk_30 : decode cX9_trunk 30 = .ok (.lload_n 2, 1) := by decide +kernel
theorem dX9_trunk_31 : decode cX9_trunk 31 = .ok (.lconst 1, 1) := by decide +kernel
theorem dX9_trunk_32 : decode cX9_trunk 32 = .ok (.iload 4, 2) := by decide +kernel
theorem dX9_trunk_34 : decode cX9_trunk 34 = .ok (.lshl, 1) := by decide +kernel
theorem dX9_trunk_35 : decode cX9_trunk 35 = .ok (.lor, 1) := by decide +kernel
theorem dX9_trunk_36 : decode cX9_trunk 36 = .ok (.lstore_n 2, 1) := by decide +kernel
theorem dX9_trunk_37 : decode cX9_trunk 37 = .ok (.iinc 4 1, 3) := by decide +kernel
theorem dX9_trunk_40 : decode cX9_trunk 40 = .ok (.goto (-35), 3) := by decide +kernel
theorem dX9_trunk_43 : decode cX9_trunk 43 = .ok (.lload_n 2, 1) := by decide +kernel
theorem dX9_trunk_44 : decode cX9_trunk 44 = .ok (.lreturn, 1) := by decide +kernel
set_option maxRecDepth 20000 in
theorem ggX9_step_X9_ruleOf : GoodIn wsX9_step wsX9_ruleOf := goodIn_r _ [11, 12, 13, 101, 102, 103, 104, 105, 106, 107, 108, 109, 110, 111, 112, 113, 114, 115, 116, 117, 118, 119, 120, 121, 122, 123, 124, 125, 126, 127, 128, 129, 130, 131, 132, 133, 134, 135, 136, 137, 138, 139, 140, 141, 142, 143, 144] rfl (by decide +kernel)
set_option maxRecDepth 20000 in
theorem gX9_step_X9_ruleOf : GoodIn wsX9_step (wsV RX9 203 RX9 yX9_ruleOf wsX9_ruleOf) := goodIn_app (goodIn_r _ [7, 8, 9, 10] rfl (by decide +kernel)) ggX9_step_X9_ruleOf
set_option maxRecDepth 20000 in
theorem ggX9_step_X9_letsOut : GoodIn wsX9_step wsX9_letsOut := goodIn_r _ [17, 3, 1, 5, 18, 2, 19, 20, 10, 21, 7, 8, 9, 11, 12, 13, 22, 23, 24, 25, 26, 27, 28, 29, 30, 31, 32, 33, 34, 35, 36, 37, 38, 101, 102, 103, 104, 105, 106, 107, 108, 109, 110, 111, 112, 113, 114, 115, 116, 117, 118, 119, 120, 121, 122, 123, 124, 125, 126, 127, 128, 129, 130, 131, 132, 133, 134, 135, 136, 137, 138, 139, 140, 141, 142, 143, 144] rfl (by decide +kernel)
set_option maxRecDepth 20000 in
theorem gX9_step_X9_letsOut : GoodIn wsX9_step (wsV RX9 237 RX9 yX9_letsOut wsX9_letsOut) := goodIn_app (goodIn_r _ [14, 15, 16, 10] rfl (by decide +kernel)) ggX9_step_X9_letsOut
set_option maxRecDepth 20000 in
theorem ggX9_step_X9_hot : GoodIn wsX9_step wsX9_hot := goodIn_r _ [42, 3, 43, 5, 37, 7, 8, 9, 10, 11, 12, 13, 19, 20, 21, 28, 29, 30, 31, 32, 33, 34, 35, 36, 38, 101, 102, 103, 104, 105, 106, 107, 108, 109, 110, 111, 112, 113, 114, 115, 116, 117, 118, 119, 120, 121, 122, 123, 124, 125, 126, 127, 128, 129, 130, 131, 132, 133, 134, 135, 136, 137, 138, 139, 140, 141, 142, 143, 144] rfl (by decide +kernel)
set_option maxRecDepth 20000 in
theorem gX9_step_X9_hot : GoodIn wsX9_step (wsV RX9 241 RX9 yX9_hot wsX9_hot) := goodIn_app (goodIn_r _ [39, 40, 41, 10] rfl (by decide +kernel)) ggX9_step_X9_hot
set_option maxRecDepth 20000 in
theorem ggX9_step_X9_meets : GoodIn wsX9_step wsX9_meets := goodIn_r _ [47, 3, 48, 38, 37, 49, 50, 19, 20, 10, 21, 101, 102, 103, 104, 105, 106, 107, 108, 109, 110, 111, 112, 113, 114, 115, 116, 117, 118, 119, 120, 121, 122, 123, 124, 125, 126, 127, 128, 129, 130, 131, 132, 133, 134, 135, 136, 137, 138, 139, 140, 141, 142, 143, 144] rfl (by decide +kernel)
set_option maxRecDepth 20000 in
theorem gX9_step_X9_meets : GoodIn wsX9_step (wsV RX9 244 RX9 yX9_meets wsX9_meets) := goodIn_app (goodIn_r _ [44, 45, 46, 10] rfl (by decide +kernel)) ggX9_step_X9_meets
set_option maxRecDepth 20000 in
theorem ggX9_step_X9_births : GoodIn wsX9_step wsX9_births := goodIn_r _ [54, 3, 43, 55, 50, 4, 56, 57, 58, 10, 59, 60, 61, 62, 63, 101, 102, 103, 104, 105, 106, 107, 108, 109, 110, 111, 112, 113, 114, 115, 116, 117, 118, 119, 120, 121, 122, 123, 124, 125, 126, 127, 128, 129, 130, 131, 132, 133, 134, 135, 136, 137, 138, 139, 140, 141, 142, 143, 144] rfl (by decide +kernel)
set_option maxRecDepth 20000 in
theorem gX9_step_X9_births : GoodIn wsX9_step (wsV RX9 247 RX9 yX9_births wsX9_births) := goodIn_app (goodIn_r _ [51, 52, 53, 10] rfl (by decide +kernel)) ggX9_step_X9_births
set_option maxRecDepth 20000 in
theorem ggX9_step_X9_mergesAt : GoodIn wsX9_step wsX9_mergesAt := goodIn_r _ [67, 3, 4, 60, 5, 68, 43, 69, 70, 62, 63, 71, 72, 73, 10, 74, 75, 76, 77, 78, 7, 8, 9, 11, 12, 13, 79, 80, 81, 82, 83, 84, 85, 86, 26, 27, 87, 88, 89, 90, 91, 92, 93, 94, 95, 96, 2, 1, 101, 102, 103, 104, 105, 106, 107, 108, 109, 110, 111, 112, 113, 114, 115, 116, 117, 118, 119, 120, 121, 122, 123, 124, 125, 126, 127, 128, 129, 130, 131, 132, 133, 134, 135, 136, 137, 138, 139, 140, 141, 142, 143, 144] rfl (by decide +kernel)
set_option maxRecDepth 20000 in
theorem gX9_step_X9_mergesAt : GoodIn wsX9_step (wsV RX9 250 RX9 yX9_mergesAt wsX9_mergesAt) := goodIn_app (goodIn_r _ [64, 65, 66, 10] rfl (by decide +kernel)) ggX9_step_X9_mergesAt
set_option maxRecDepth 20000 in
theorem ggX9_step_X9_nextRelease : GoodIn wsX9_step wsX9_nextRelease := goodIn_r _ [82, 7, 8, 9, 10, 11, 12, 13, 101, 102, 103, 104, 105, 106, 107, 108, 109, 110, 111, 112, 113, 114, 115, 116, 117, 118, 119, 120, 121, 122, 123, 124, 125, 126, 127, 128, 129, 130, 131, 132, 133, 134, 135, 136, 137, 138, 139, 140, 141, 142, 143, 144] rfl (by decide +kernel)
set_option maxRecDepth 20000 in
theorem gX9_step_X9_nextRelease : GoodIn wsX9_step (wsV RX9 218 RX9 yX9_nextRelease wsX9_nextRelease) := goodIn_app (goodIn_r _ [79, 80, 81, 10] rfl (by decide +kernel)) ggX9_step_X9_nextRelease
set_option maxRecDepth 20000 in
theorem ggX9_step_X9_trunk : GoodIn wsX9_step wsX9_trunk := goodIn_r _ [100, 3, 5, 101, 102, 103, 104, 105, 106, 107, 108, 109, 110, 111, 112, 113, 114, 115, 116, 117, 118, 119, 120, 121, 122, 123, 124, 125, 126, 127, 128, 129, 130, 131, 132, 133, 134, 135, 136, 137, 138, 139, 140, 141, 142, 143, 144] rfl (by decide +kernel)
set_option maxRecDepth 20000 in
theorem gX9_step_X9_trunk : GoodIn wsX9_step (wsV RX9 253 RX9 yX9_trunk wsX9_trunk) := goodIn_app (goodIn_r _ [97, 98, 99, 10] rfl (by decide +kernel)) ggX9_step_X9_trunk
theorem dX9_step_0 : decode cX9_step 0 = .ok (.iload_n 2, 1) := by decide +kernel
theorem dX9_step_1 : decode cX9_step 1 = .ok (.ifCond .le 20, 3) := by decide +kernel
theorem dX9_step_4 : decode cX9_step 4 = .ok (.iload_n 2, 1) := by decide +kernel
theorem dX9_step_5 : decode cX9_step 5 = .ok (.aload_n 0, 1) := by decide +kernel
theorem dX9_step_6 : decode cX9_step 6 = .ok (.iload_n 1, 1) := by decide +kernel
theorem dX9_step_7 : decode cX9_step 7 = .ok (.iconst 0, 1) := by decide +kernel
theorem dX9_step_8 : decode cX9_step 8 = .ok (.invokevirtual 203, 3) := by decide +kernel
theorem dX9_step_11 : decode cX9_step 11 = .ok (.irem, 1) := by decide +kernel
theorem dX9_step_12 : decode cX9_step 12 = .ok (.ifCond .ne 9, 3) := by decide +kernel
theorem dX9_step_15 : decode cX9_step 15 = .ok (.aload_n 0, 1) := by decide +kernel
theorem dX9_step_16 : decode cX9_step 16 = .ok (.iload_n 1, 1) := by decide +kernel
theorem dX9_step_17 : decode cX9_step 17 = .ok (.iload_n 2, 1) := by decide +kernel
theorem dX9_step_18 : decode cX9_step 18 = .ok (.invokevirtual 237, 3) := by decide +kernel
theorem dX9_step_21 : decode cX9_step 21 = .ok (.aload_n 0, 1) := by decide +kernel
theorem dX9_step_22 : decode cX9_step 22 = .ok (.iload_n 1, 1) := by decide +kernel
theorem dX9_step_23 : decode cX9_step 23 = .ok (.bipush 6, 2) := by decide +kernel
theorem dX9_step_25 : decode cX9_step 25 = .ok (.invokevirtual 203, 3) := by decide +kernel
theorem dX9_step_28 : decode cX9_step 28 = .ok (.iconst (-1), 1) := by decide +kernel
theorem dX9_step_29 : decode cX9_step 29 = .ok (.if_icmp .eq 9, 3) := by decide +kernel
theorem dX9_step_32 : decode cX9_step 32 = .ok (.aload_n 0, 1) := by decide +kernel
theorem dX9_step_33 : decode cX9_step 33 = .ok (.iload_n 1, 1) := by decide +kernel
theorem dX9_step_34 : decode cX9_step 34 = .ok (.iload_n 2, 1) := by decide +kernel
theorem dX9_step_35 : decode cX9_step 35 = .ok (.invokevirtual 241, 3) := by decide +kernel
theorem dX9_step_38 : decode cX9_step 38 = .ok (.aload_n 0, 1) := by decide +kernel
theorem dX9_step_39 : decode cX9_step 39 = .ok (.iload_n 1, 1) := by decide +kernel
theorem dX9_step_40 : decode cX9_step 40 = .ok (.iload_n 2, 1) := by decide +kernel
theorem dX9_step_41 : decode cX9_step 41 = .ok (.invokevirtual 244, 3) := by decide +kernel
theorem dX9_step_44 : decode cX9_step 44 = .ok (.aload_n 0, 1) := by decide +kernel
theorem dX9_step_45 : decode cX9_step 45 = .ok (.iload_n 1, 1) := by decide +kernel
theorem dX9_step_46 : decode cX9_step 46 = .ok (.iload_n 2, 1) := by decide +kernel
theorem dX9_step_47 : decode cX9_step 47 = .ok (.invokevirtual 247, 3) := by decide +kernel
theorem dX9_step_50 : decode cX9_step 50 = .ok (.aload_n 0, 1) := by decide +kernel
theorem dX9_step_51 : decode cX9_step 51 = .ok (.iload_n 1, 1) := by decide +kernel
theorem dX9_step_52 : decode cX9_step 52 = .ok (.iload_n 2, 1) := by decide +kernel
theorem dX9_step_53 : decode cX9_step 53 = .ok (.invokevirtual 250, 3) := by decide +kernel
theorem dX9_step_56 : decode cX9_step 56 = .ok (.aload_n 0, 1) := by decide +kernel
theorem dX9_step_57 : decode cX9_step 57 = .ok (.iload_n 1, 1) := by decide +kernel
theorem dX9_step_58 : decode cX9_step 58 = .ok (.iload_n 2, 1) := by decide +kernel
theorem dX9_step_59 : decode cX9_step 59 = .ok (.aload_n 0, 1) := by decide +kernel
theorem dX9_step_60 : decode cX9_step 60 = .ok (.iload_n 1, 1) := by decide +kernel
theorem dX9_step_61 : decode cX9_step 61 = .ok (.iconst 1, 1) := by decide +kernel
theorem dX9_step_62 : decode cX9_step 62 = .ok (.invokevirtual 203, 3) := by decide +kernel
theorem dX9_step_65 : decode cX9_step 65 = .ok (.iadd, 1) := by decide +kernel
theorem dX9_step_66 : decode cX9_step 66 = .ok (.invokevirtual 218, 3) := by decide +kernel
theorem dX9_step_69 : decode cX9_step 69 = .ok (.iload_n 2, 1) := by decide +kernel
theorem dX9_step_70 : decode cX9_step 70 = .ok (.aload_n 0, 1) := by decide +kernel
theorem dX9_step_71 : decode cX9_step 71 = .ok (.iload_n 1, 1) := by decide +kernel
theorem dX9_step_72 : decode cX9_step 72 = .ok (.iconst 1, 1) := by decide +kernel
theorem dX9_step_73 : decode cX9_step 73 = .ok (.invokevirtual 203, 3) := by decide +kernel
theorem dX9_step_76 : decode cX9_step 76 = .ok (.iadd, 1) := by decide +kernel
theorem dX9_step_77 : decode cX9_step 77 = .ok (.if_icmp .ne 21, 3) := by decide +kernel
theorem dX9_step_80 : decode cX9_step 80 = .ok (.aload_n 0, 1) := by decide +kernel
theorem dX9_step_81 : decode cX9_step 81 = .ok (.getfield 82, 3) := by decide +kernel
theorem dX9_step_84 : decode cX9_step 84 = .ok (.iload_n 1, 1) := by decide +kernel
theorem dX9_step_85 : decode cX9_step 85 = .ok (.aload_n 0, 1) := by decide +kernel
theorem dX9_step_86 : decode cX9_step 86 = .ok (.iload_n 1, 1) := by decide +kernel
theorem dX9_step_87 : decode cX9_step 87 = .ok (.invokevirtual 253, 3) := by decide +kernel
theorem dX9_step_90 : decode cX9_step 90 = .ok (.lastore, 1) := by decide +kernel
theorem dX9_step_91 : decode cX9_step 91 = .ok (.aload_n 0, 1) := by decide +kernel
theorem dX9_step_92 : decode cX9_step 92 = .ok (.getfield 85, 3) := by decide +kernel
theorem dX9_step_95 : decode cX9_step 95 = .ok (.iload_n 1, 1) := by decide +kernel
theorem dX9_step_96 : decode cX9_step 96 = .ok (.iconst 1, 1) := by decide +kernel
theorem dX9_step_97 : decode cX9_step 97 = .ok (.bastore, 1) := by decide +kernel
theorem dX9_step_98 : decode cX9_step 98 = .ok (.iconst 0, 1) := by decide +kernel
theorem dX9_step_99 : decode cX9_step 99 = .ok (.istore_n 3, 1) := by decide +kernel
theorem dX9_step_100 : decode cX9_step 100 = .ok (.iconst 0, 1) := by decide +kernel
theorem dX9_step_101 : decode cX9_step 101 = .ok (.istore 4, 2) := by decide +kernel
theorem dX9_step_103 : decode cX9_step 103 = .ok (.iload 4, 2) := by decide +kernel
theorem dX9_step_105 : decode cX9_step 105 = .ok (.aload_n 0, 1) := by decide +kernel
theorem dX9_step_106 : decode cX9_step 106 = .ok (.getfield 192, 3) := by decide +kernel
theorem dX9_step_109 : decode cX9_step 109 = .ok (.if_icmp .ge 49, 3) := by decide +kernel
theorem dX9_step_112 : decode cX9_step 112 = .ok (.iload_n 3, 1) := by decide +kernel
theorem dX9_step_113 : decode cX9_step 113 = .ok (.aload_n 0, 1) := by decide +kernel
theorem dX9_step_114 : decode cX9_step 114 = .ok (.getfield 45, 3) := by decide +kernel
theorem dX9_step_117 : decode cX9_step 117 = .ok (.bipush 60, 2) := by decide +kernel
theorem dX9_step_119 : decode cX9_step 119 = .ok (.iload_n 1, 1) := by decide +kernel
theorem dX9_step_120 : decode cX9_step 120 = .ok (.imul, 1) := by decide +kernel
theorem dX9_step_121 : decode cX9_step 121 = .ok (.iload 4, 2) := by decide +kernel
theorem dX9_step_123 : decode cX9_step 123 = .ok (.iadd, 1) := by decide +kernel
theorem dX9_step_124 : decode cX9_step 124 = .ok (.iaload, 1) := by decide +kernel
theorem dX9_step_125 : decode cX9_step 125 = .ok (.iconst (-1), 1) := by decide +kernel
theorem dX9_step_126 : decode cX9_step 126 = .ok (.if_icmp .eq 23, 3) := by decide +kernel
theorem dX9_step_129 : decode cX9_step 129 = .ok (.aload_n 0, 1) := by decide +kernel
theorem dX9_step_130 : decode cX9_step 130 = .ok (.getfield 54, 3) := by decide +kernel
theorem dX9_step_133 : decode cX9_step 133 = .ok (.bipush 60, 2) := by decide +kernel
theorem dX9_step_135 : decode cX9_step 135 = .ok (.iload_n 1, 1) := by decide +kernel
theorem dX9_step_136 : decode cX9_step 136 = .ok (.imul, 1) := by decide +kernel
theorem dX9_step_137 : decode cX9_step 137 = .ok (.iload 4, 2) := by decide +kernel
theorem dX9_step_139 : decode cX9_step 139 = .ok (.iadd, 1) := by decide +kernel
theorem dX9_step_140 : decode cX9_step 140 = .ok (.iaload, 1) := by decide +kernel
theorem dX9_step_141 : decode cX9_step 141 = .ok (.iconst (-1), 1) := by decide +kernel
theorem dX9_step_142 : decode cX9_step 142 = .ok (.if_icmp .ne 7, 3) := by decide +kernel
theorem dX9_step_145 : decode cX9_step 145 = .ok (.iconst 1, 1) := by decide +kernel
theorem dX9_step_146 : decode cX9_step 146 = .ok (.goto 4, 3) := by decide +kernel
theorem dX9_step_149 : decode cX9_step 149 = .ok (.iconst 0, 1) := by decide +kernel
theorem dX9_step_150 : decode cX9_step 150 = .ok (.iadd, 1) := by decide +kernel
theorem dX9_step_151 : decode cX9_step 151 = .ok (.istore_n 3, 1) := by decide +kernel
theorem dX9_step_152 : decode cX9_step 152 = .ok (.iinc 4 1, 3) := by decide +kernel
theorem dX9_step_155 : decode cX9_step 155 = .ok (.goto (-52), 3) := by decide +kernel
theorem dX9_step_158 : decode cX9_step 158 = .ok (.aload_n 0, 1) := by decide +kernel
theorem dX9_step_159 : decode cX9_step 159 = .ok (.getfield 89, 3) := by decide +kernel
theorem dX9_step_162 : decode cX9_step 162 = .ok (.iload_n 1, 1) := by decide +kernel
theorem dX9_step_163 : decode cX9_step 163 = .ok (.iload_n 3, 1) := by decide +kernel
theorem dX9_step_164 : decode cX9_step 164 = .ok (.aload_n 0, 1) := by decide +kernel
theorem dX9_step_165 : decode cX9_step 165 = .ok (.getfield 89, 3) := by decide +kernel
theorem dX9_step_168 : decode cX9_step 168 = .ok (.iload_n 1, 1) := by decide +kernel
theorem dX9_step_169 : decode cX9_step 169 = .ok (.iaload, 1) := by decide +kernel
theorem dX9_step_170 : decode cX9_step 170 = .ok (.if_icmp .le 7, 3) := by decide +kernel
theorem dX9_step_173 : decode cX9_step 173 = .ok (.iload_n 3, 1) := by decide +kernel
theorem dX9_step_174 : decode cX9_step 174 = .ok (.goto 9, 3) := by decide +kernel
theorem dX9_step_177 : decode cX9_step 177 = .ok (.aload_n 0, 1) := by decide +kernel
theorem dX9_step_178 : decode cX9_step 178 = .ok (.getfield 89, 3) := by decide +kernel
theorem dX9_step_181 : decode cX9_step 181 = .ok (.iload_n 1, 1) := by decide +kernel
theorem dX9_step_182 : decode cX9_step 182 = .ok (.iaload, 1) := by decide +kernel
theorem dX9_step_183 : decode cX9_step 183 = .ok (.iastore, 1) := by decide +kernel
theorem dX9_step_184 : decode cX9_step 184 = .ok (.return_, 1) := by decide +kernel
set_option maxRecDepth 20000 in
theorem ggX9_run_X9_begin : GoodIn wsX9_run wsX9_begin := goodIn_r _ [5, 6, 7, 8, 9, 10, 11, 12, 13, 14, 15, 16, 17, 18, 19, 109, 110, 111, 112, 113, 114, 115, 116, 117, 118, 119, 120, 121, 122, 123, 124, 125, 126, 127, 128, 129, 130, 131, 132, 133, 134, 135, 136, 137, 138, 139, 140, 141, 142, 143, 144, 145, 146, 147, 148, 149, 150, 151, 152] rfl (by decide +kernel)
set_option maxRecDepth 20000 in
theorem gX9_run_X9_begin : GoodIn wsX9_run (wsV RX9 257 RX9 yX9_begin wsX9_begin) := goodIn_app (goodIn_r _ [1, 2, 3, 4] rfl (by decide +kernel)) ggX9_run_X9_begin
set_option maxRecDepth 20000 in
theorem ggX9_run_X9_step : GoodIn wsX9_run wsX9_step := goodIn_r _ [23, 16, 17, 24, 7, 8, 18, 25, 26, 27, 4, 28, 29, 6, 30, 31, 32, 33, 13, 34, 35, 36, 37, 38, 39, 40, 41, 42, 43, 44, 45, 46, 19, 47, 48, 49, 50, 15, 9, 51, 52, 53, 54, 55, 56, 57, 58, 59, 60, 61, 10, 62, 63, 64, 65, 66, 67, 68, 69, 70, 71, 72, 73, 14, 74, 75, 76, 77, 78, 11, 12, 79, 80, 81, 82, 83, 84, 85, 86, 87, 88, 89, 90, 91, 92, 93, 94, 95, 96, 97, 98, 99, 100, 101, 102, 103, 104, 105, 106, 107, 108, 109, 110, 111, 112, 113, 114, 115, 116, 117, 118, 119, 120, 121, 122, 123, 124, 125, 126, 127, 128, 129, 130, 131, 132, 133, 134, 135, 136, 137, 138, 139, 140, 141, 142, 143, 144, 145, 146, 147, 148, 149, 150, 151, 152] rfl (by decide +kernel)
set_option maxRecDepth 20000 in
theorem gX9_run_X9_step : GoodIn wsX9_run (wsV RX9 260 RX9 yX9_step wsX9_step) := goodIn_app (goodIn_r _ [20, 21, 22, 4] rfl (by decide +kernel)) ggX9_run_X9_step
theorem dX9_run_0 : decode cX9_run 0 = .ok (.aload_n 0, 1) := by decide +kernel
theorem dX9_run_1 : decode cX9_run 1 = .ok (.iload_n 1, 1) := by decide +kernel
theorem dX9_run_2 : decode cX9_run 2 = .ok (.iload_n 2, 1) := by decide +kernel
theorem dX9_run_3 : decode cX9_run 3 = .ok (.invokevirtual 257, 3) := by decide +kernel
theorem dX9_run_6 : decode cX9_run 6 = .ok (.iconst 0, 1) := by decide +kernel
theorem dX9_run_7 : decode cX9_run 7 = .ok (.istore_n 3, 1) := by decide +kernel
theorem dX9_run_8 : decode cX9_run 8 = .ok (.iload_n 3, 1) := by decide +kernel
theorem dX9_run_9 : decode cX9_run 9 = .ok (.sipush 400, 3) := by decide +kernel
theorem dX9_run_12 : decode cX9_run 12 = .ok (.if_icmp .ge 15, 3) := by decide +kernel
theorem dX9_run_15 : decode cX9_run 15 = .ok (.aload_n 0, 1) := by decide +kernel
theorem dX9_run_16 : decode cX9_run 16 = .ok (.iload_n 1, 1) := by decide +kernel
theorem dX9_run_17 : decode cX9_run 17 = .ok (.iload_n 3, 1) := by decide +kernel
theorem dX9_run_18 : decode cX9_run 18 = .ok (.invokevirtual 260, 3) := by decide +kernel
theorem dX9_run_21 : decode cX9_run 21 = .ok (.iinc 3 1, 3) := by decide +kernel
theorem dX9_run_24 : decode cX9_run 24 = .ok (.goto (-16), 3) := by decide +kernel
theorem dX9_run_27 : decode cX9_run 27 = .ok (.return_, 1) := by decide +kernel
set_option maxRecDepth 20000 in
theorem ggX9_play_X9_in : GoodIn wsX9_play wsX9_in := goodIn_r _ [6] rfl (by decide +kernel)
set_option maxRecDepth 20000 in
theorem gX9_play_X9_in : GoodIn wsX9_play (va_wsS RX9 185 yX9_in wsX9_in) := goodIn_app (goodIn_r _ [3, 4, 5] rfl (by decide +kernel)) ggX9_play_X9_in
set_option maxRecDepth 20000 in
theorem ggX9_play_X9_run : GoodIn wsX9_play wsX9_run := goodIn_r _ [10, 11, 12, 13, 5, 14, 15, 16, 17, 18, 19, 20, 21, 22, 23, 24, 25, 26, 27, 2, 28, 29, 30, 31, 32, 33, 34, 35, 36, 37, 38, 39, 40, 41, 42, 43, 44, 45, 46, 47, 48, 49, 50, 51, 52, 53, 54, 55, 56, 57, 58, 59, 60, 61, 62, 63, 64, 65, 66, 67, 68, 69, 70, 71, 72, 73, 74, 75, 76, 77, 78, 79, 80, 81, 82, 83, 84, 85, 86, 87, 88, 89, 90, 91, 92, 93, 94, 95, 96, 97, 98, 99, 100, 101, 102, 103, 104, 105, 106, 107, 108, 109, 110, 111, 112, 113, 114, 115, 116, 117, 118, 119, 120, 121, 122, 123, 124, 125, 126, 127, 128, 129, 130, 131, 132, 133, 134, 135, 136, 137, 138, 139, 140, 141, 142, 143, 144, 145, 146, 147, 148, 149, 150, 151, 152, 153, 154, 155, 156, 157, 158, 159, 160] rfl (by decide +kernel)
set_option maxRecDepth 20000 in
theorem gX9_play_X9_run : GoodIn wsX9_play (wsV RX9 263 RX9 yX9_run wsX9_run) := goodIn_app (goodIn_r _ [7, 8, 9, 5] rfl (by decide +kernel)) ggX9_play_X9_run
theorem dX9_play_0 : decode cX9_play 0 = .ok (.iload_n 1, 1) := by decide +kernel
theorem dX9_play_1 : decode cX9_play 1 = .ok (.iconst 0, 1) := by decide +kernel
theorem dX9_play_2 : decode cX9_play 2 = .ok (.iconst 3, 1) := by decide +kernel
theorem dX9_play_3 : decode cX9_play 3 = .ok (.invokestatic 185, 3) := by decide +kernel
theorem dX9_play_6 : decode cX9_play 6 = .ok (.ifCond .ne 6, 3) := by decide +kernel
theorem dX9_play_9 : decode cX9_play 9 = .ok (.bipush (-2), 2) := by decide +kernel
theorem dX9_play_11 : decode cX9_play 11 = .ok (.ireturn, 1) := by decide +kernel
theorem dX9_play_12 : decode cX9_play 12 = .ok (.aload_n 0, 1) := by decide +kernel
theorem dX9_play_13 : decode cX9_play 13 = .ok (.iconst 0, 1) := by decide +kernel
theorem dX9_play_14 : decode cX9_play 14 = .ok (.iload_n 1, 1) := by decide +kernel
theorem dX9_play_15 : decode cX9_play 15 = .ok (.invokevirtual 263, 3) := by decide +kernel
theorem dX9_play_18 : decode cX9_play 18 = .ok (.aload_n 0, 1) := by decide +kernel
theorem dX9_play_19 : decode cX9_play 19 = .ok (.iload_n 1, 1) := by decide +kernel
theorem dX9_play_20 : decode cX9_play 20 = .ok (.putfield 113, 3) := by decide +kernel
theorem dX9_play_23 : decode cX9_play 23 = .ok (.aload_n 0, 1) := by decide +kernel
theorem dX9_play_24 : decode cX9_play 24 = .ok (.getfield 92, 3) := by decide +kernel
theorem dX9_play_27 : decode cX9_play 27 = .ok (.iconst 0, 1) := by decide +kernel
theorem dX9_play_28 : decode cX9_play 28 = .ok (.iaload, 1) := by decide +kernel
theorem dX9_play_29 : decode cX9_play 29 = .ok (.ireturn, 1) := by decide +kernel
set_option maxRecDepth 20000 in
theorem ggX9_told_X9_isChange : GoodIn wsX9_told wsX9_isChange := goodIn_r _ [13, 14, 15, 16, 12, 17, 18, 19, 20, 21, 22, 23, 24, 25, 26, 27, 28, 29, 30, 31, 32, 33, 34, 35, 36, 37, 38, 39, 40, 41, 42, 43, 44, 45, 46, 47, 48, 49, 50, 51, 52, 53, 54, 55, 56, 57, 58, 59, 60, 61] rfl (by decide +kernel)
set_option maxRecDepth 20000 in
theorem gX9_told_X9_isChange : GoodIn wsX9_told (wsV RX9 196 RX9 yX9_isChange wsX9_isChange) := goodIn_app (goodIn_r _ [9, 10, 11, 12] rfl (by decide +kernel)) ggX9_told_X9_isChange
theorem dX9_told_0 : decode cX9_told 0 = .ok (.aload_n 0, 1) := by decide +kernel
theorem dX9_told_1 : decode cX9_told 1 = .ok (.getfield 113, 3) := by decide +kernel
theorem dX9_told_4 : decode cX9_told 4 = .ok (.iconst (-1), 1) := by decide +kernel
theorem dX9_told_5 : decode cX9_told 5 = .ok (.if_icmp .eq 11, 3) := by decide +kernel
theorem dX9_told_8 : decode cX9_told 8 = .ok (.aload_n 0, 1) := by decide +kernel
theorem dX9_told_9 : decode cX9_told 9 = .ok (.iload_n 1, 1) := by decide +kernel
theorem dX9_told_10 : decode cX9_told 10 = .ok (.invokevirtual 196, 3) := by decide +kernel
theorem dX9_told_13 : decode cX9_told 13 = .ok (.ifCond .ne 6, 3) := by decide +kernel
theorem dX9_told_16 : decode cX9_told 16 = .ok (.bipush (-9), 2) := by decide +kernel
theorem dX9_told_18 : decode cX9_told 18 = .ok (.ireturn, 1) := by decide +kernel
theorem dX9_told_19 : decode cX9_told 19 = .ok (.iload_n 2, 1) := by decide +kernel
theorem dX9_told_20 : decode cX9_told 20 = .ok (.tableswitch 93 0 6 #[44, 51, 58, 65, 72, 79, 86], 44) := by decide +kernel
theorem dX9_told_64 : decode cX9_told 64 = .ok (.aload_n 0, 1) := by decide +kernel
theorem dX9_told_65 : decode cX9_told 65 = .ok (.getfield 45, 3) := by decide +kernel
theorem dX9_told_68 : decode cX9_told 68 = .ok (.iload_n 1, 1) := by decide +kernel
theorem dX9_told_69 : decode cX9_told 69 = .ok (.iaload, 1) := by decide +kernel
theorem dX9_told_70 : decode cX9_told 70 = .ok (.ireturn, 1) := by decide +kernel
theorem dX9_told_71 : decode cX9_told 71 = .ok (.aload_n 0, 1) := by decide +kernel
theorem dX9_told_72 : decode cX9_told 72 = .ok (.getfield 54, 3) := by decide +kernel
theorem dX9_told_75 : decode cX9_told 75 = .ok (.iload_n 1, 1) := by decide +kernel
theorem dX9_told_76 : decode cX9_told 76 = .ok (.iaload, 1) := by decide +kernel
theorem dX9_told_77 : decode cX9_told 77 = .ok (.ireturn, 1) := by decide +kernel
theorem dX9_told_78 : decode cX9_told 78 = .ok (.aload_n 0, 1) := by decide +kernel
theorem dX9_told_79 : decode cX9_told 79 = .ok (.getfield 60, 3) := by decide +kernel
theorem dX9_told_82 : decode cX9_told 82 = .ok (.iload_n 1, 1) := by decide +kernel
theorem dX9_told_83 : decode cX9_told 83 = .ok (.iaload, 1) := by decide +kernel
theorem dX9_told_84 : decode cX9_told 84 = .ok (.ireturn, 1) := by decide +kernel
theorem dX9_told_85 : decode cX9_told 85 = .ok (.aload_n 0, 1) := by decide +kernel
theorem dX9_told_86 : decode cX9_told 86 = .ok (.getfield 63, 3) := by decide +kernel
theorem dX9_told_89 : decode cX9_told 89 = .ok (.iload_n 1, 1) := by decide +kernel
theorem dX9_told_90 : decode cX9_told 90 = .ok (.iaload, 1) := by decide +kernel
theorem dX9_told_91 : decode cX9_told 91 = .ok (.ireturn, 1) := by decide +kernel
theorem dX9_told_92 : decode cX9_told 92 = .ok (.aload_n 0, 1) := by decide +kernel
theorem dX9_told_93 : decode cX9_told 93 = .ok (.getfield 66, 3) := by decide +kernel
theorem dX9_told_96 : decode cX9_told 96 = .ok (.iload_n 1, 1) := by decide +kernel
theorem dX9_told_97 : decode cX9_told 97 = .ok (.iaload, 1) := by decide +kernel
theorem dX9_told_98 : decode cX9_told 98 = .ok (.ireturn, 1) := by decide +kernel
theorem dX9_told_99 : decode cX9_told 99 = .ok (.aload_n 0, 1) := by decide +kernel
theorem dX9_told_100 : decode cX9_told 100 = .ok (.getfield 69, 3) := by decide +kernel
theorem dX9_told_103 : decode cX9_told 103 = .ok (.iload_n 1, 1) := by decide +kernel
theorem dX9_told_104 : decode cX9_told 104 = .ok (.iaload, 1) := by decide +kernel
theorem dX9_told_105 : decode cX9_told 105 = .ok (.ireturn, 1) := by decide +kernel
theorem dX9_told_106 : decode cX9_told 106 = .ok (.aload_n 0, 1) := by decide +kernel
theorem dX9_told_107 : decode cX9_told 107 = .ok (.getfield 72, 3) := by decide +kernel
theorem dX9_told_110 : decode cX9_told 110 = .ok (.iload_n 1, 1) := by decide +kernel
theorem dX9_told_111 : decode cX9_told 111 = .ok (.iaload, 1) := by decide +kernel
theorem dX9_told_112 : decode cX9_told 112 = .ok (.ireturn, 1) := by decide +kernel
theorem dX9_told_113 : decode cX9_told 113 = .ok (.bipush (-9), 2) := by decide +kernel
theorem dX9_told_115 : decode cX9_told 115 = .ok (.ireturn, 1) := by decide +kernel
set_option maxRecDepth 20000 in
theorem ggX9_isRelease_X9_in : GoodIn wsX9_isRelease wsX9_in := goodIn_r _ [6] rfl (by decide +kernel)
set_option maxRecDepth 20000 in
theorem gX9_isRelease_X9_in : GoodIn wsX9_isRelease (va_wsS RX9 185 yX9_in wsX9_in) := goodIn_app (goodIn_r _ [3, 4, 5] rfl (by decide +kernel)) ggX9_isRelease_X9_in
theorem dX9_isRelease_0 : decode cX9_isRelease 0 = .ok (.aload_n 0, 1) := by decide +kernel
theorem dX9_isRelease_1 : decode cX9_isRelease 1 = .ok (.getfield 113, 3) := by decide +kernel
theorem dX9_isRelease_4 : decode cX9_isRelease 4 = .ok (.iconst (-1), 1) := by decide +kernel
theorem dX9_isRelease_5 : decode cX9_isRelease 5 = .ok (.if_icmp .eq 23, 3) := by decide +kernel
theorem dX9_isRelease_8 : decode cX9_isRelease 8 = .ok (.iload_n 1, 1) := by decide +kernel
theorem dX9_isRelease_9 : decode cX9_isRelease 9 = .ok (.iconst 0, 1) := by decide +kernel
theorem dX9_isRelease_10 : decode cX9_isRelease 10 = .ok (.aload_n 0, 1) := by decide +kernel
theorem dX9_isRelease_11 : decode cX9_isRelease 11 = .ok (.getfield 92, 3) := by decide +kernel
theorem dX9_isRelease_14 : decode cX9_isRelease 14 = .ok (.iconst 0, 1) := by decide +kernel
theorem dX9_isRelease_15 : decode cX9_isRelease 15 = .ok (.iaload, 1) := by decide +kernel
theorem dX9_isRelease_16 : decode cX9_isRelease 16 = .ok (.iconst 1, 1) := by decide +kernel
theorem dX9_isRelease_17 : decode cX9_isRelease 17 = .ok (.isub, 1) := by decide +kernel
theorem dX9_isRelease_18 : decode cX9_isRelease 18 = .ok (.invokestatic 185, 3) := by decide +kernel
theorem dX9_isRelease_21 : decode cX9_isRelease 21 = .ok (.ifCond .eq 7, 3) := by decide +kernel
theorem dX9_isRelease_24 : decode cX9_isRelease 24 = .ok (.iconst 1, 1) := by decide +kernel
theorem dX9_isRelease_25 : decode cX9_isRelease 25 = .ok (.goto 4, 3) := by decide +kernel
theorem dX9_isRelease_28 : decode cX9_isRelease 28 = .ok (.iconst 0, 1) := by decide +kernel
theorem dX9_isRelease_29 : decode cX9_isRelease 29 = .ok (.ireturn, 1) := by decide +kernel
set_option maxRecDepth 20000 in
theorem ggX9_release_X9_isRelease : GoodIn wsX9_release wsX9_isRelease := goodIn_r _ [10, 11, 12, 13, 14, 9, 15, 19, 20, 21, 22, 23, 24, 25, 26, 27, 28, 29, 30, 31, 32, 33, 34, 35, 36, 37, 38, 39, 40, 41, 42, 43, 44, 45, 46, 47, 48, 49, 50, 51, 52, 53, 54, 55, 56, 57, 58, 59, 60, 61, 62] rfl (by decide +kernel)
set_option maxRecDepth 20000 in
theorem gX9_release_X9_isRelease : GoodIn wsX9_release (wsV RX9 266 RX9 yX9_isRelease wsX9_isRelease) := goodIn_app (goodIn_r _ [6, 7, 8, 9] rfl (by decide +kernel)) ggX9_release_X9_isRelease
set_option maxRecDepth 20000 in
theorem ggX9_release_X9_isIn : GoodIn wsX9_release wsX9_isIn := goodIn_r _ [18] rfl (by decide +kernel)
set_option maxRecDepth 20000 in
theorem gX9_release_X9_isIn : GoodIn wsX9_release (va_wsS RX9 199 yX9_isIn wsX9_isIn) := goodIn_app (goodIn_r _ [16, 17, 9] rfl (by decide +kernel)) ggX9_release_X9_isIn
theorem dX9_release_0 : decode cX9_release 0 = .ok (.aload_n 0, 1) := by decide +kernel
theorem dX9_release_1 : decode cX9_release 1 = .ok (.iload_n 1, 1) := by decide +kernel
theorem dX9_release_2 : decode cX9_release 2 = .ok (.invokevirtual 266, 3) := by decide +kernel
theorem dX9_release_5 : decode cX9_release 5 = .ok (.ifCond .ne 6, 3) := by decide +kernel
theorem dX9_release_8 : decode cX9_release 8 = .ok (.bipush (-9), 2) := by decide +kernel
theorem dX9_release_10 : decode cX9_release 10 = .ok (.ireturn, 1) := by decide +kernel
theorem dX9_release_11 : decode cX9_release 11 = .ok (.iconst 0, 1) := by decide +kernel
theorem dX9_release_12 : decode cX9_release 12 = .ok (.istore_n 3, 1) := by decide +kernel
theorem dX9_release_13 : decode cX9_release 13 = .ok (.iconst 0, 1) := by decide +kernel
theorem dX9_release_14 : decode cX9_release 14 = .ok (.istore 4, 2) := by decide +kernel
theorem dX9_release_16 : decode cX9_release 16 = .ok (.iload 4, 2) := by decide +kernel
theorem dX9_release_18 : decode cX9_release 18 = .ok (.aload_n 0, 1) := by decide +kernel
theorem dX9_release_19 : decode cX9_release 19 = .ok (.getfield 192, 3) := by decide +kernel
theorem dX9_release_22 : decode cX9_release 22 = .ok (.if_icmp .ge 31, 3) := by decide +kernel
theorem dX9_release_25 : decode cX9_release 25 = .ok (.iload_n 3, 1) := by decide +kernel
theorem dX9_release_26 : decode cX9_release 26 = .ok (.aload_n 0, 1) := by decide +kernel
theorem dX9_release_27 : decode cX9_release 27 = .ok (.getfield 101, 3) := by decide +kernel
theorem dX9_release_30 : decode cX9_release 30 = .ok (.iload_n 1, 1) := by decide +kernel
theorem dX9_release_31 : decode cX9_release 31 = .ok (.laload, 1) := by decide +kernel
theorem dX9_release_32 : decode cX9_release 32 = .ok (.iload 4, 2) := by decide +kernel
theorem dX9_release_34 : decode cX9_release 34 = .ok (.invokestatic 199, 3) := by decide +kernel
theorem dX9_release_37 : decode cX9_release 37 = .ok (.ifCond .eq 7, 3) := by decide +kernel
theorem dX9_release_40 : decode cX9_release 40 = .ok (.iconst 1, 1) := by decide +kernel
theorem dX9_release_41 : decode cX9_release 41 = .ok (.goto 4, 3) := by decide +kernel
theorem dX9_release_44 : decode cX9_release 44 = .ok (.iconst 0, 1) := by decide +kernel
theorem dX9_release_45 : decode cX9_release 45 = .ok (.iadd, 1) := by decide +kernel
theorem dX9_release_46 : decode cX9_release 46 = .ok (.istore_n 3, 1) := by decide +kernel
theorem dX9_release_47 : decode cX9_release 47 = .ok (.iinc 4 1, 3) := by decide +kernel
theorem dX9_release_50 : decode cX9_release 50 = .ok (.goto (-34), 3) := by decide +kernel
theorem dX9_release_53 : decode cX9_release 53 = .ok (.iload_n 2, 1) := by decide +kernel
theorem dX9_release_54 : decode cX9_release 54 = .ok (.ifCond .ne 12, 3) := by decide +kernel
theorem dX9_release_57 : decode cX9_release 57 = .ok (.aload_n 0, 1) := by decide +kernel
theorem dX9_release_58 : decode cX9_release 58 = .ok (.getfield 95, 3) := by decide +kernel
theorem dX9_release_61 : decode cX9_release 61 = .ok (.iload_n 1, 1) := by decide +kernel
theorem dX9_release_62 : decode cX9_release 62 = .ok (.iaload, 1) := by decide +kernel
theorem dX9_release_63 : decode cX9_release 63 = .ok (.goto 50, 3) := by decide +kernel
theorem dX9_release_66 : decode cX9_release 66 = .ok (.iload_n 2, 1) := by decide +kernel
theorem dX9_release_67 : decode cX9_release 67 = .ok (.iconst 1, 1) := by decide +kernel
theorem dX9_release_68 : decode cX9_release 68 = .ok (.if_icmp .ne 20, 3) := by decide +kernel
theorem dX9_release_71 : decode cX9_release 71 = .ok (.aload_n 0, 1) := by decide +kernel
theorem dX9_release_72 : decode cX9_release 72 = .ok (.getfield 98, 3) := by decide +kernel
theorem dX9_release_75 : decode cX9_release 75 = .ok (.iload_n 1, 1) := by decide +kernel
theorem dX9_release_76 : decode cX9_release 76 = .ok (.baload, 1) := by decide +kernel
theorem dX9_release_77 : decode cX9_release 77 = .ok (.ifCond .eq 7, 3) := by decide +kernel
theorem dX9_release_80 : decode cX9_release 80 = .ok (.iconst 1, 1) := by decide +kernel
theorem dX9_release_81 : decode cX9_release 81 = .ok (.goto 32, 3) := by decide +kernel
theorem dX9_release_84 : decode cX9_release 84 = .ok (.iconst 0, 1) := by decide +kernel
theorem dX9_release_85 : decode cX9_release 85 = .ok (.goto 28, 3) := by decide +kernel
theorem dX9_release_88 : decode cX9_release 88 = .ok (.iload_n 2, 1) := by decide +kernel
theorem dX9_release_89 : decode cX9_release 89 = .ok (.iconst 2, 1) := by decide +kernel
theorem dX9_release_90 : decode cX9_release 90 = .ok (.if_icmp .ne 7, 3) := by decide +kernel
theorem dX9_release_93 : decode cX9_release 93 = .ok (.iload_n 3, 1) := by decide +kernel
theorem dX9_release_94 : decode cX9_release 94 = .ok (.goto 19, 3) := by decide +kernel
theorem dX9_release_97 : decode cX9_release 97 = .ok (.iload_n 2, 1) := by decide +kernel
theorem dX9_release_98 : decode cX9_release 98 = .ok (.iconst 3, 1) := by decide +kernel
theorem dX9_release_99 : decode cX9_release 99 = .ok (.if_icmp .ne 12, 3) := by decide +kernel
theorem dX9_release_102 : decode cX9_release 102 = .ok (.aload_n 0, 1) := by decide +kernel
theorem dX9_release_103 : decode cX9_release 103 = .ok (.getfield 104, 3) := by decide +kernel
theorem dX9_release_106 : decode cX9_release 106 = .ok (.iload_n 1, 1) := by decide +kernel
theorem dX9_release_107 : decode cX9_release 107 = .ok (.iaload, 1) := by decide +kernel
theorem dX9_release_108 : decode cX9_release 108 = .ok (.goto 5, 3) := by decide +kernel
theorem dX9_release_111 : decode cX9_release 111 = .ok (.bipush (-9), 2) := by decide +kernel
theorem dX9_release_113 : decode cX9_release 113 = .ok (.ireturn, 1) := by decide +kernel
set_option maxRecDepth 20000 in
theorem ggX9_has_X9_isRelease : GoodIn wsX9_has wsX9_isRelease := goodIn_r _ [7, 8, 9, 10, 11, 6, 12, 13, 14, 15, 16, 17, 18, 19, 20, 21, 22, 23, 24, 25, 26, 27, 28, 29, 30, 31, 32, 33, 34, 35, 36, 37, 38, 39, 40, 41, 42, 43, 44, 45, 46, 47, 48, 49, 50, 51, 52, 53, 54, 55, 56] rfl (by decide +kernel)
set_option maxRecDepth 20000 in
theorem gX9_has_X9_isRelease : GoodIn wsX9_has (wsV RX9 266 RX9 yX9_isRelease wsX9_isRelease) := goodIn_app (goodIn_r _ [3, 4, 5, 6] rfl (by decide +kernel)) ggX9_has_X9_isRelease
theorem dX9_has_0 : decode cX9_has 0 = .ok (.aload_n 0, 1) := by decide +kernel
theorem dX9_has_1 : decode cX9_has 1 = .ok (.iload_n 1, 1) := by decide +kernel
theorem dX9_has_2 : decode cX9_has 2 = .ok (.invokevirtual 266, 3) := by decide +kernel
theorem dX9_has_5 : decode cX9_has 5 = .ok (.ifCond .eq 12, 3) := by decide +kernel
theorem dX9_has_8 : decode cX9_has 8 = .ok (.aload_n 0, 1) := by decide +kernel
theorem dX9_has_9 : decode cX9_has 9 = .ok (.getfield 101, 3) := by decide +kernel
theorem dX9_has_12 : decode cX9_has 12 = .ok (.iload_n 1, 1) := by decide +kernel
theorem dX9_has_13 : decode cX9_has 13 = .ok (.laload, 1) := by decide +kernel
theorem dX9_has_14 : decode cX9_has 14 = .ok (.goto 6, 3) := by decide +kernel
theorem dX9_has_17 : decode cX9_has 17 = .ok (.ldc2_w 269, 3) := by decide +kernel
theorem dX9_has_20 : decode cX9_has 20 = .ok (.lreturn, 1) := by decide +kernel
theorem dX9_sumOf_0 : decode cX9_sumOf 0 = .ok (.iconst 0, 1) := by decide +kernel
theorem dX9_sumOf_1 : decode cX9_sumOf 1 = .ok (.istore_n 3, 1) := by decide +kernel
theorem dX9_sumOf_2 : decode cX9_sumOf 2 = .ok (.iconst 0, 1) := by decide +kernel
theorem dX9_sumOf_3 : decode cX9_sumOf 3 = .ok (.istore 4, 2) := by decide +kernel
theorem dX9_sumOf_5 : decode cX9_sumOf 5 = .ok (.iload 4, 2) := by decide +kernel
theorem dX9_sumOf_7 : decode cX9_sumOf 7 = .ok (.aload_n 0, 1) := by decide +kernel
theorem dX9_sumOf_8 : decode cX9_sumOf 8 = .ok (.getfield 192, 3) := by decide +kernel
theorem dX9_sumOf_11 : decode cX9_sumOf 11 = .ok (.if_icmp .ge 217, 3) := by decide +kernel
theorem dX9_sumOf_14 : decode cX9_sumOf 14 = .ok (.bipush 60, 2) := by decide +kernel
theorem dX9_sumOf_16 : decode cX9_sumOf 16 = .ok (.iload_n 1, 1) := by decide +kernel
theorem dX9_sumOf_17 : decode cX9_sumOf 17 = .ok (.imul, 1) := by decide +kernel
theorem dX9_sumOf_18 : decode cX9_sumOf 18 = .ok (.iload 4, 2) := by decide +kernel
theorem dX9_sumOf_20 : decode cX9_sumOf 20 = .ok (.iadd, 1) := by decide +kernel
theorem dX9_sumOf_21 : decode cX9_sumOf 21 = .ok (.istore 5, 2) := by decide +kernel
theorem dX9_sumOf_23 : decode cX9_sumOf 23 = .ok (.aload_n 0, 1) := by decide +kernel
theorem dX9_sumOf_24 : decode cX9_sumOf 24 = .ok (.getfield 60, 3) := by decide +kernel
theorem dX9_sumOf_27 : decode cX9_sumOf 27 = .ok (.iload 5, 2) := by decide +kernel
theorem dX9_sumOf_29 : decode cX9_sumOf 29 = .ok (.iaload, 1) := by decide +kernel
theorem dX9_sumOf_30 : decode cX9_sumOf 30 = .ok (.iconst (-1), 1) := by decide +kernel
theorem dX9_sumOf_31 : decode cX9_sumOf 31 = .ok (.if_icmp .ne 7, 3) := by decide +kernel
theorem dX9_sumOf_34 : decode cX9_sumOf 34 = .ok (.iconst 0, 1) := by decide +kernel
theorem dX9_sumOf_35 : decode cX9_sumOf 35 = .ok (.goto 18, 3) := by decide +kernel
theorem dX9_sumOf_38 : decode cX9_sumOf 38 = .ok (.aload_n 0, 1) := by decide +kernel
theorem dX9_sumOf_39 : decode cX9_sumOf 39 = .ok (.getfield 60, 3) := by decide +kernel
theorem dX9_sumOf_42 : decode cX9_sumOf 42 = .ok (.iload 5, 2) := by decide +kernel
theorem dX9_sumOf_44 : decode cX9_sumOf 44 = .ok (.iaload, 1) := by decide +kernel
theorem dX9_sumOf_45 : decode cX9_sumOf 45 = .ok (.aload_n 0, 1) := by decide +kernel
theorem dX9_sumOf_46 : decode cX9_sumOf 46 = .ok (.getfield 45, 3) := by decide +kernel
theorem dX9_sumOf_49 : decode cX9_sumOf 49 = .ok (.iload 5, 2) := by decide +kernel
theorem dX9_sumOf_51 : decode cX9_sumOf 51 = .ok (.iaload, 1) := by decide +kernel
theorem dX9_sumOf_52 : decode cX9_sumOf 52 = .ok (.isub, 1) := by decide +kernel
theorem dX9_sumOf_53 : decode cX9_sumOf 53 = .ok (.istore 6, 2) := by decide +kernel
theorem dX9_sumOf_55 : decode cX9_sumOf 55 = .ok (.iload_n 2, 1) := by decide +kernel
theorem dX9_sumOf_56 : decode cX9_sumOf 56 = .ok (.ifCond .ne 11, 3) := by decide +kernel
theorem dX9_sumOf_59 : decode cX9_sumOf 59 = .ok (.iload_n 3, 1) := by decide +kernel
theorem dX9_sumOf_60 : decode cX9_sumOf 60 = .ok (.iload 6, 2) := by decide +kernel
theorem dX9_sumOf_62 : decode cX9_sumOf 62 = .ok (.iadd, 1) := by decide +kernel
theorem dX9_sumOf_63 : decode cX9_sumOf 63 = .ok (.istore_n 3, 1) := by decide +kernel
theorem dX9_sumOf_64 : decode cX9_sumOf 64 = .ok (.goto 158, 3) := by decide +kernel
theorem dX9_sumOf_67 : decode cX9_sumOf 67 = .ok (.iload_n 2, 1) := by decide +kernel
theorem dX9_sumOf_68 : decode cX9_sumOf 68 = .ok (.iconst 1, 1) := by decide +kernel
theorem dX9_sumOf_69 : decode cX9_sumOf 69 = .ok (.if_icmp .ne 19, 3) := by decide +kernel
theorem dX9_sumOf_72 : decode cX9_sumOf 72 = .ok (.iload 6, 2) := by decide +kernel
theorem dX9_sumOf_74 : decode cX9_sumOf 74 = .ok (.iload_n 3, 1) := by decide +kernel
theorem dX9_sumOf_75 : decode cX9_sumOf 75 = .ok (.if_icmp .le 8, 3) := by decide +kernel
theorem dX9_sumOf_78 : decode cX9_sumOf 78 = .ok (.iload 6, 2) := by decide +kernel
theorem dX9_sumOf_80 : decode cX9_sumOf 80 = .ok (.goto 4, 3) := by decide +kernel
theorem dX9_sumOf_83 : decode cX9_sumOf 83 = .ok (.iload_n 3, 1) := by decide +kernel
theorem dX9_sumOf_84 : decode cX9_sumOf 84 = .ok (.istore_n 3, 1) := by decide +kernel
theorem dX9_sumOf_85 : decode cX9_sumOf 85 = .ok (.goto 137, 3) := by decide +kernel
theorem dX9_sumOf_88 : decode cX9_sumOf 88 = .ok (.iload_n 2, 1) := by decide +kernel
theorem dX9_sumOf_89 : decode cX9_sumOf 89 = .ok (.iconst 2, 1) := by decide +kernel
theorem dX9_sumOf_90 : decode cX9_sumOf 90 = .ok (.if_icmp .ne 36, 3) := by decide +kernel
theorem dX9_sumOf_93 : decode cX9_sumOf 93 = .ok (.iload_n 3, 1) := by decide +kernel
theorem dX9_sumOf_94 : decode cX9_sumOf 94 = .ok (.aload_n 0, 1) := by decide +kernel
theorem dX9_sumOf_95 : decode cX9_sumOf 95 = .ok (.getfield 45, 3) := by decide +kernel
theorem dX9_sumOf_98 : decode cX9_sumOf 98 = .ok (.iload 5, 2) := by decide +kernel
theorem dX9_sumOf_100 : decode cX9_sumOf 100 = .ok (.iaload, 1) := by decide +kernel
theorem dX9_sumOf_101 : decode cX9_sumOf 101 = .ok (.iconst (-1), 1) := by decide +kernel
theorem dX9_sumOf_102 : decode cX9_sumOf 102 = .ok (.if_icmp .eq 18, 3) := by decide +kernel
theorem dX9_sumOf_105 : decode cX9_sumOf 105 = .ok (.aload_n 0, 1) := by decide +kernel
theorem dX9_sumOf_106 : decode cX9_sumOf 106 = .ok (.getfield 60, 3) := by decide +kernel
theorem dX9_sumOf_109 : decode cX9_sumOf 109 = .ok (.iload 5, 2) := by decide +kernel
theorem dX9_sumOf_111 : decode cX9_sumOf 111 = .ok (.iaload, 1) := by decide +kernel
theorem dX9_sumOf_112 : decode cX9_sumOf 112 = .ok (.iconst (-1), 1) := by decide +kernel
theorem dX9_sumOf_113 : decode cX9_sumOf 113 = .ok (.if_icmp .ne 7, 3) := by decide +kernel
theorem dX9_sumOf_116 : decode cX9_sumOf 116 = .ok (.iconst 1, 1) := by decide +kernel
theorem dX9_sumOf_117 : decode cX9_sumOf 117 = .ok (.goto 4, 3) := by decide +kernel
theorem dX9_sumOf_120 : decode cX9_sumOf 120 = .ok (.iconst 0, 1) := by decide +kernel
theorem dX9_sumOf_121 : decode cX9_sumOf 121 = .ok (.iadd, 1) := by decide +kernel
theorem dX9_sumOf_122 : decode cX9_sumOf 122 = .ok (.istore_n 3, 1) := by decide +kernel
theorem dX9_sumOf_123 : decode cX9_sumOf 123 = .ok (.goto 99, 3) := by decide +kernel
theorem dX9_sumOf_126 : decode cX9_sumOf 126 = .ok (.iload_n 2, 1) := by decide +kernel
theorem dX9_sumOf_127 : decode cX9_sumOf 127 = .ok (.iconst 3, 1) := by decide +kernel
theorem dX9_sumOf_128 : decode cX9_sumOf 128 = .ok (.if_icmp .ne 25, 3) := by decide +kernel
theorem dX9_sumOf_131 : decode cX9_sumOf 131 = .ok (.iload_n 3, 1) := by decide +kernel
theorem dX9_sumOf_132 : decode cX9_sumOf 132 = .ok (.aload_n 0, 1) := by decide +kernel
theorem dX9_sumOf_133 : decode cX9_sumOf 133 = .ok (.getfield 63, 3) := by decide +kernel
theorem dX9_sumOf_136 : decode cX9_sumOf 136 = .ok (.iload 5, 2) := by decide +kernel
theorem dX9_sumOf_138 : decode cX9_sumOf 138 = .ok (.iaload, 1) := by decide +kernel
theorem dX9_sumOf_139 : decode cX9_sumOf 139 = .ok (.iconst (-1), 1) := by decide +kernel
theorem dX9_sumOf_140 : decode cX9_sumOf 140 = .ok (.if_icmp .eq 7, 3) := by decide +kernel
theorem dX9_sumOf_143 : decode cX9_sumOf 143 = .ok (.iconst 1, 1) := by decide +kernel
theorem dX9_sumOf_144 : decode cX9_sumOf 144 = .ok (.goto 4, 3) := by decide +kernel
theorem dX9_sumOf_147 : decode cX9_sumOf 147 = .ok (.iconst 0, 1) := by decide +kernel
theorem dX9_sumOf_148 : decode cX9_sumOf 148 = .ok (.iadd, 1) := by decide +kernel
theorem dX9_sumOf_149 : decode cX9_sumOf 149 = .ok (.istore_n 3, 1) := by decide +kernel
theorem dX9_sumOf_150 : decode cX9_sumOf 150 = .ok (.goto 72, 3) := by decide +kernel
theorem dX9_sumOf_153 : decode cX9_sumOf 153 = .ok (.iload_n 2, 1) := by decide +kernel
theorem dX9_sumOf_154 : decode cX9_sumOf 154 = .ok (.iconst 4, 1) := by decide +kernel
theorem dX9_sumOf_155 : decode cX9_sumOf 155 = .ok (.if_icmp .ne 16, 3) := by decide +kernel
theorem dX9_sumOf_158 : decode cX9_sumOf 158 = .ok (.iload_n 3, 1) := by decide +kernel
theorem dX9_sumOf_159 : decode cX9_sumOf 159 = .ok (.aload_n 0, 1) := by decide +kernel
theorem dX9_sumOf_160 : decode cX9_sumOf 160 = .ok (.getfield 66, 3) := by decide +kernel
theorem dX9_sumOf_163 : decode cX9_sumOf 163 = .ok (.iload 5, 2) := by decide +kernel
theorem dX9_sumOf_165 : decode cX9_sumOf 165 = .ok (.iaload, 1) := by decide +kernel
theorem dX9_sumOf_166 : decode cX9_sumOf 166 = .ok (.iadd, 1) := by decide +kernel
theorem dX9_sumOf_167 : decode cX9_sumOf 167 = .ok (.istore_n 3, 1) := by decide +kernel
theorem dX9_sumOf_168 : decode cX9_sumOf 168 = .ok (.goto 54, 3) := by decide +kernel
theorem dX9_sumOf_171 : decode cX9_sumOf 171 = .ok (.iload_n 2, 1) := by decide +kernel
theorem dX9_sumOf_172 : decode cX9_sumOf 172 = .ok (.iconst 5, 1) := by decide +kernel
theorem dX9_sumOf_173 : decode cX9_sumOf 173 = .ok (.if_icmp .ne 39, 3) := by decide +kernel
theorem dX9_sumOf_176 : decode cX9_sumOf 176 = .ok (.iload_n 3, 1) := by decide +kernel
theorem dX9_sumOf_177 : decode cX9_sumOf 177 = .ok (.aload_n 0, 1) := by decide +kernel
theorem dX9_sumOf_178 : decode cX9_sumOf 178 = .ok (.getfield 69, 3) := by decide +kernel
theorem dX9_sumOf_181 : decode cX9_sumOf 181 = .ok (.iload 5, 2) := by decide +kernel
theorem dX9_sumOf_183 : decode cX9_sumOf 183 = .ok (.iaload, 1) := by decide +kernel
theorem dX9_sumOf_184 : decode cX9_sumOf 184 = .ok (.aload_n 0, 1) := by decide +kernel
theorem dX9_sumOf_185 : decode cX9_sumOf 185 = .ok (.getfield 45, 3) := by decide +kernel
theorem dX9_sumOf_188 : decode cX9_sumOf 188 = .ok (.iload 5, 2) := by decide +kernel
theorem dX9_sumOf_190 : decode cX9_sumOf 190 = .ok (.iaload, 1) := by decide +kernel
theorem dX9_sumOf_191 : decode cX9_sumOf 191 = .ok (.iconst (-1), 1) := by decide +kernel
theorem dX9_sumOf_192 : decode cX9_sumOf 192 = .ok (.if_icmp .ne 7, 3) := by decide +kernel
theorem dX9_sumOf_195 : decode cX9_sumOf 195 = .ok (.iconst 0, 1) := by decide +kernel
theorem dX9_sumOf_196 : decode cX9_sumOf 196 = .ok (.goto 10, 3) := by decide +kernel
theorem dX9_sumOf_199 : decode cX9_sumOf 199 = .ok (.aload_n 0, 1) := by decide +kernel
theorem dX9_sumOf_200 : decode cX9_sumOf 200 = .ok (.getfield 27, 3) := by decide +kernel
theorem dX9_sumOf_203 : decode cX9_sumOf 203 = .ok (.iload 4, 2) := by decide +kernel
theorem dX9_sumOf_205 : decode cX9_sumOf 205 = .ok (.iaload, 1) := by decide +kernel
theorem dX9_sumOf_206 : decode cX9_sumOf 206 = .ok (.iadd, 1) := by decide +kernel
theorem dX9_sumOf_207 : decode cX9_sumOf 207 = .ok (.iadd, 1) := by decide +kernel
theorem dX9_sumOf_208 : decode cX9_sumOf 208 = .ok (.istore_n 3, 1) := by decide +kernel
theorem dX9_sumOf_209 : decode cX9_sumOf 209 = .ok (.goto 13, 3) := by decide +kernel
theorem dX9_sumOf_212 : decode cX9_sumOf 212 = .ok (.iload_n 3, 1) := by decide +kernel
theorem dX9_sumOf_213 : decode cX9_sumOf 213 = .ok (.aload_n 0, 1) := by decide +kernel
theorem dX9_sumOf_214 : decode cX9_sumOf 214 = .ok (.getfield 72, 3) := by decide +kernel
theorem dX9_sumOf_217 : decode cX9_sumOf 217 = .ok (.iload 5, 2) := by decide +kernel
theorem dX9_sumOf_219 : decode cX9_sumOf 219 = .ok (.iaload, 1) := by decide +kernel
theorem dX9_sumOf_220 : decode cX9_sumOf 220 = .ok (.iadd, 1) := by decide +kernel
theorem dX9_sumOf_221 : decode cX9_sumOf 221 = .ok (.istore_n 3, 1) := by decide +kernel
theorem dX9_sumOf_222 : decode cX9_sumOf 222 = .ok (.iinc 4 1, 3) := by decide +kernel
theorem dX9_sumOf_225 : decode cX9_sumOf 225 = .ok (.goto (-220), 3) := by decide +kernel
theorem dX9_sumOf_228 : decode cX9_sumOf 228 = .ok (.iload_n 3, 1) := by decide +kernel
theorem dX9_sumOf_229 : decode cX9_sumOf 229 = .ok (.ireturn, 1) := by decide +kernel
set_option maxRecDepth 20000 in
theorem ggX9_sum_X9_in : GoodIn wsX9_sum wsX9_in := goodIn_r _ [6] rfl (by decide +kernel)
set_option maxRecDepth 20000 in
theorem gX9_sum_X9_in : GoodIn wsX9_sum (va_wsS RX9 185 yX9_in wsX9_in) := goodIn_app (goodIn_r _ [3, 4, 5] rfl (by decide +kernel)) ggX9_sum_X9_in
set_option maxRecDepth 20000 in
theorem ggX9_sum_X9_sumOf : GoodIn wsX9_sum wsX9_sumOf := goodIn_r _ [10, 11, 12, 13, 14, 15, 16, 17, 18, 19, 20, 21, 22, 23, 24, 25, 26, 27, 28, 29, 30, 31, 32, 33, 34, 35, 36, 37, 38, 39, 40, 41, 42, 43, 44, 45, 46, 47, 48, 49, 50, 51, 52, 53, 54, 55, 56, 57, 58, 59, 60, 61, 62] rfl (by decide +kernel)
set_option maxRecDepth 20000 in
theorem gX9_sum_X9_sumOf : GoodIn wsX9_sum (wsV RX9 271 RX9 yX9_sumOf wsX9_sumOf) := goodIn_app (goodIn_r _ [7, 8, 9, 5] rfl (by decide +kernel)) ggX9_sum_X9_sumOf
theorem dX9_sum_0 : decode cX9_sum 0 = .ok (.aload_n 0, 1) := by decide +kernel
theorem dX9_sum_1 : decode cX9_sum 1 = .ok (.getfield 113, 3) := by decide +kernel
theorem dX9_sum_4 : decode cX9_sum 4 = .ok (.iconst (-1), 1) := by decide +kernel
theorem dX9_sum_5 : decode cX9_sum 5 = .ok (.if_icmp .eq 13, 3) := by decide +kernel
theorem dX9_sum_8 : decode cX9_sum 8 = .ok (.iload_n 1, 1) := by decide +kernel
theorem dX9_sum_9 : decode cX9_sum 9 = .ok (.iconst 0, 1) := by decide +kernel
theorem dX9_sum_10 : decode cX9_sum 10 = .ok (.bipush 7, 2) := by decide +kernel
theorem dX9_sum_12 : decode cX9_sum 12 = .ok (.invokestatic 185, 3) := by decide +kernel
theorem dX9_sum_15 : decode cX9_sum 15 = .ok (.ifCond .ne 6, 3) := by decide +kernel
theorem dX9_sum_18 : decode cX9_sum 18 = .ok (.bipush (-9), 2) := by decide +kernel
theorem dX9_sum_20 : decode cX9_sum 20 = .ok (.ireturn, 1) := by decide +kernel
theorem dX9_sum_21 : decode cX9_sum 21 = .ok (.iload_n 1, 1) := by decide +kernel
theorem dX9_sum_22 : decode cX9_sum 22 = .ok (.bipush 7, 2) := by decide +kernel
theorem dX9_sum_24 : decode cX9_sum 24 = .ok (.if_icmp .ne 12, 3) := by decide +kernel
theorem dX9_sum_27 : decode cX9_sum 27 = .ok (.aload_n 0, 1) := by decide +kernel
theorem dX9_sum_28 : decode cX9_sum 28 = .ok (.getfield 89, 3) := by decide +kernel
theorem dX9_sum_31 : decode cX9_sum 31 = .ok (.iconst 0, 1) := by decide +kernel
