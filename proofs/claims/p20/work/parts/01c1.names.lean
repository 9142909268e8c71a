theorem dX4_mergeOne_4 : decode cX4_mergeOne 4 = .ok (.getfield 213, 3) := by decide +kernel
theorem dX4_mergeOne_7 : decode cX4_mergeOne 7 = .ok (.iload_n 1, 1) := by decide +kernel
theorem dX4_mergeOne_8 : decode cX4_mergeOne 8 = .ok (.invokestatic 152, 3) := by decide +kernel
theorem dX4_mergeOne_11 : decode cX4_mergeOne 11 = .ok (.istore_n 3, 1) := by decide +kernel
theorem dX4_mergeOne_12 : decode cX4_mergeOne 12 = .ok (.aload_n 0, 1) := by decide +kernel
theorem dX4_mergeOne_13 : decode cX4_mergeOne 13 = .ok (.iload_n 1, 1) := by decide +kernel
theorem dX4_mergeOne_14 : decode cX4_mergeOne 14 = .ok (.iconst 1, 1) := by decide +kernel
theorem dX4_mergeOne_15 : decode cX4_mergeOne 15 = .ok (.iload_n 2, 1) := by decide +kernel
theorem dX4_mergeOne_16 : decode cX4_mergeOne 16 = .ok (.invokevirtual 186, 3) := by decide +kernel
theorem dX4_mergeOne_19 : decode cX4_mergeOne 19 = .ok (.aload_n 0, 1) := by decide +kernel
theorem dX4_mergeOne_20 : decode cX4_mergeOne 20 = .ok (.getfield 27, 3) := by decide +kernel
theorem dX4_mergeOne_23 : decode cX4_mergeOne 23 = .ok (.iload_n 1, 1) := by decide +kernel
theorem dX4_mergeOne_24 : decode cX4_mergeOne 24 = .ok (.invokevirtual 216, 3) := by decide +kernel
theorem dX4_mergeOne_27 : decode cX4_mergeOne 27 = .ok (.aload_n 0, 1) := by decide +kernel
theorem dX4_mergeOne_28 : decode cX4_mergeOne 28 = .ok (.dup, 1) := by decide +kernel
theorem dX4_mergeOne_29 : decode cX4_mergeOne 29 = .ok (.getfield 57, 3) := by decide +kernel
theorem dX4_mergeOne_32 : decode cX4_mergeOne 32 = .ok (.iload_n 1, 1) := by decide +kernel
theorem dX4_mergeOne_33 : decode cX4_mergeOne 33 = .ok (.invokestatic 166, 3) := by decide +kernel
theorem dX4_mergeOne_36 : decode cX4_mergeOne 36 = .ok (.lor, 1) := by decide +kernel
theorem dX4_mergeOne_37 : decode cX4_mergeOne 37 = .ok (.putfield 57, 3) := by decide +kernel
theorem dX4_mergeOne_40 : decode cX4_mergeOne 40 = .ok (.aload_n 0, 1) := by decide +kernel
theorem dX4_mergeOne_41 : decode cX4_mergeOne 41 = .ok (.getfield 70, 3) := by decide +kernel
theorem dX4_mergeOne_44 : decode cX4_mergeOne 44 = .ok (.ifCond .eq 42, 3) := by decide +kernel
theorem dX4_mergeOne_47 : decode cX4_mergeOne 47 = .ok (.aload_n 0, 1) := by decide +kernel
theorem dX4_mergeOne_48 : decode cX4_mergeOne 48 = .ok (.getfield 9, 3) := by decide +kernel
theorem dX4_mergeOne_51 : decode cX4_mergeOne 51 = .ok (.bipush 7, 2) := by decide +kernel
theorem dX4_mergeOne_53 : decode cX4_mergeOne 53 = .ok (.iaload, 1) := by decide +kernel
theorem dX4_mergeOne_54 : decode cX4_mergeOne 54 = .ok (.iconst 2, 1) := by decide +kernel
theorem dX4_mergeOne_55 : decode cX4_mergeOne 55 = .ok (.if_icmp .eq 18, 3) := by decide +kernel
theorem dX4_mergeOne_58 : decode cX4_mergeOne 58 = .ok (.iload_n 3, 1) := by decide +kernel
theorem dX4_mergeOne_59 : decode cX4_mergeOne 59 = .ok (.ifCond .eq 27, 3) := by decide +kernel
theorem dX4_mergeOne_62 : decode cX4_mergeOne 62 = .ok (.aload_n 0, 1) := by decide +kernel
theorem dX4_mergeOne_63 : decode cX4_mergeOne 63 = .ok (.getfield 9, 3) := by decide +kernel
theorem dX4_mergeOne_66 : decode cX4_mergeOne 66 = .ok (.bipush 7, 2) := by decide +kernel
theorem dX4_mergeOne_68 : decode cX4_mergeOne 68 = .ok (.iaload, 1) := by decide +kernel
theorem dX4_mergeOne_69 : decode cX4_mergeOne 69 = .ok (.iconst 1, 1) := by decide +kernel
theorem dX4_mergeOne_70 : decode cX4_mergeOne 70 = .ok (.if_icmp .ne 16, 3) := by decide +kernel
theorem dX4_mergeOne_73 : decode cX4_mergeOne 73 = .ok (.aload_n 0, 1) := by decide +kernel
theorem dX4_mergeOne_74 : decode cX4_mergeOne 74 = .ok (.dup, 1) := by decide +kernel
theorem dX4_mergeOne_75 : decode cX4_mergeOne 75 = .ok (.getfield 67, 3) := by decide +kernel
theorem dX4_mergeOne_78 : decode cX4_mergeOne 78 = .ok (.iload_n 1, 1) := by decide +kernel
theorem dX4_mergeOne_79 : decode cX4_mergeOne 79 = .ok (.invokestatic 166, 3) := by decide +kernel
theorem dX4_mergeOne_82 : decode cX4_mergeOne 82 = .ok (.lor, 1) := by decide +kernel
theorem dX4_mergeOne_83 : decode cX4_mergeOne 83 = .ok (.putfield 67, 3) := by decide +kernel
theorem dX4_mergeOne_86 : decode cX4_mergeOne 86 = .ok (.iload_n 3, 1) := by decide +kernel
theorem dX4_mergeOne_87 : decode cX4_mergeOne 87 = .ok (.ifCond .eq 31, 3) := by decide +kernel
theorem dX4_mergeOne_90 : decode cX4_mergeOne 90 = .ok (.aload_n 0, 1) := by decide +kernel
theorem dX4_mergeOne_91 : decode cX4_mergeOne 91 = .ok (.getfield 9, 3) := by decide +kernel
theorem dX4_mergeOne_94 : decode cX4_mergeOne 94 = .ok (.bipush 6, 2) := by decide +kernel
theorem dX4_mergeOne_96 : decode cX4_mergeOne 96 = .ok (.iaload, 1) := by decide +kernel
theorem dX4_mergeOne_97 : decode cX4_mergeOne 97 = .ok (.iconst (-1), 1) := by decide +kernel
theorem dX4_mergeOne_98 : decode cX4_mergeOne 98 = .ok (.if_icmp .eq 20, 3) := by decide +kernel
theorem dX4_mergeOne_101 : decode cX4_mergeOne 101 = .ok (.aload_n 0, 1) := by decide +kernel
theorem dX4_mergeOne_102 : decode cX4_mergeOne 102 = .ok (.getfield 41, 3) := by decide +kernel
theorem dX4_mergeOne_105 : decode cX4_mergeOne 105 = .ok (.iload_n 2, 1) := by decide +kernel
theorem dX4_mergeOne_106 : decode cX4_mergeOne 106 = .ok (.aload_n 0, 1) := by decide +kernel
theorem dX4_mergeOne_107 : decode cX4_mergeOne 107 = .ok (.getfield 9, 3) := by decide +kernel
theorem dX4_mergeOne_110 : decode cX4_mergeOne 110 = .ok (.bipush 6, 2) := by decide +kernel
theorem dX4_mergeOne_112 : decode cX4_mergeOne 112 = .ok (.iaload, 1) := by decide +kernel
theorem dX4_mergeOne_113 : decode cX4_mergeOne 113 = .ok (.iadd, 1) := by decide +kernel
theorem dX4_mergeOne_114 : decode cX4_mergeOne 114 = .ok (.iload_n 1, 1) := by decide +kernel
theorem dX4_mergeOne_115 : decode cX4_mergeOne 115 = .ok (.invokevirtual 192, 3) := by decide +kernel
theorem dX4_mergeOne_118 : decode cX4_mergeOne 118 = .ok (.return_, 1) := by decide +kernel
theorem dX4_mark_0 : decode cX4_mark 0 = .ok (.aload_n 0, 1) := by decide +kernel
theorem dX4_mark_1 : decode cX4_mark 1 = .ok (.getfield 15, 3) := by decide +kernel
theorem dX4_mark_4 : decode cX4_mark 4 = .ok (.iload_n 2, 1) := by decide +kernel
theorem dX4_mark_5 : decode cX4_mark 5 = .ok (.bipush 60, 2) := by decide +kernel
theorem dX4_mark_7 : decode cX4_mark 7 = .ok (.imul, 1) := by decide +kernel
theorem dX4_mark_8 : decode cX4_mark 8 = .ok (.iload_n 1, 1) := by decide +kernel
theorem dX4_mark_9 : decode cX4_mark 9 = .ok (.iadd, 1) := by decide +kernel
theorem dX4_mark_10 : decode cX4_mark 10 = .ok (.iload_n 3, 1) := by decide +kernel
theorem dX4_mark_11 : decode cX4_mark 11 = .ok (.iastore, 1) := by decide +kernel
theorem dX4_mark_12 : decode cX4_mark 12 = .ok (.return_, 1) := by decide +kernel
theorem dX4_raise_0 : decode cX4_raise 0 = .ok (.aload_n 0, 1) := by decide +kernel
theorem dX4_raise_1 : decode cX4_raise 1 = .ok (.getfield 18, 3) := by decide +kernel
theorem dX4_raise_4 : decode cX4_raise 4 = .ok (.iload_n 2, 1) := by decide +kernel
theorem dX4_raise_5 : decode cX4_raise 5 = .ok (.iconst 4, 1) := by decide +kernel
theorem dX4_raise_6 : decode cX4_raise 6 = .ok (.isub, 1) := by decide +kernel
theorem dX4_raise_7 : decode cX4_raise 7 = .ok (.bipush 60, 2) := by decide +kernel
theorem dX4_raise_9 : decode cX4_raise 9 = .ok (.imul, 1) := by decide +kernel
theorem dX4_raise_10 : decode cX4_raise 10 = .ok (.iload_n 1, 1) := by decide +kernel
theorem dX4_raise_11 : decode cX4_raise 11 = .ok (.iadd, 1) := by decide +kernel
theorem dX4_raise_12 : decode cX4_raise 12 = .ok (.dup2, 1) := by decide +kernel
theorem dX4_raise_13 : decode cX4_raise 13 = .ok (.iaload, 1) := by decide +kernel
theorem dX4_raise_14 : decode cX4_raise 14 = .ok (.iload_n 3, 1) := by decide +kernel
theorem dX4_raise_15 : decode cX4_raise 15 = .ok (.iadd, 1) := by decide +kernel
theorem dX4_raise_16 : decode cX4_raise 16 = .ok (.iastore, 1) := by decide +kernel
theorem dX4_raise_17 : decode cX4_raise 17 = .ok (.return_, 1) := by decide +kernel
theorem dX4_kept_0 : decode cX4_kept 0 = .ok (.iload_n 2, 1) := by decide +kernel
theorem dX4_kept_1 : decode cX4_kept 1 = .ok (.iconst 4, 1) := by decide +kernel
theorem dX4_kept_2 : decode cX4_kept 2 = .ok (.if_icmp .ge 15, 3) := by decide +kernel
theorem dX4_kept_5 : decode cX4_kept 5 = .ok (.aload_n 0, 1) := by decide +kernel
theorem dX4_kept_6 : decode cX4_kept 6 = .ok (.getfield 15, 3) := by decide +kernel
theorem dX4_kept_9 : decode cX4_kept 9 = .ok (.iload_n 2, 1) := by decide +kernel
theorem dX4_kept_10 : decode cX4_kept 10 = .ok (.bipush 60, 2) := by decide +kernel
theorem dX4_kept_12 : decode cX4_kept 12 = .ok (.imul, 1) := by decide +kernel
theorem dX4_kept_13 : decode cX4_kept 13 = .ok (.iload_n 1, 1) := by decide +kernel
theorem dX4_kept_14 : decode cX4_kept 14 = .ok (.iadd, 1) := by decide +kernel
theorem dX4_kept_15 : decode cX4_kept 15 = .ok (.iaload, 1) := by decide +kernel
theorem dX4_kept_16 : decode cX4_kept 16 = .ok (.ireturn, 1) := by decide +kernel
theorem dX4_kept_17 : decode cX4_kept 17 = .ok (.aload_n 0, 1) := by decide +kernel
theorem dX4_kept_18 : decode cX4_kept 18 = .ok (.getfield 18, 3) := by decide +kernel
theorem dX4_kept_21 : decode cX4_kept 21 = .ok (.iload_n 2, 1) := by decide +kernel
theorem dX4_kept_22 : decode cX4_kept 22 = .ok (.iconst 4, 1) := by decide +kernel
theorem dX4_kept_23 : decode cX4_kept 23 = .ok (.isub, 1) := by decide +kernel
theorem dX4_kept_24 : decode cX4_kept 24 = .ok (.bipush 60, 2) := by decide +kernel
theorem dX4_kept_26 : decode cX4_kept 26 = .ok (.imul, 1) := by decide +kernel
theorem dX4_kept_27 : decode cX4_kept 27 = .ok (.iload_n 1, 1) := by decide +kernel
theorem dX4_kept_28 : decode cX4_kept 28 = .ok (.iadd, 1) := by decide +kernel
theorem dX4_kept_29 : decode cX4_kept 29 = .ok (.iaload, 1) := by decide +kernel
theorem dX4_kept_30 : decode cX4_kept 30 = .ok (.ireturn, 1) := by decide +kernel
set_option maxRecDepth 20000 in
theorem ggX4_total_X4_waits : GoodIn wsX4_total wsX4_waits := goodIn_r _ [8, 9, 10, 11, 12, 13, 7, 14, 2, 15, 16, 17, 18, 19, 20, 21, 22, 23, 52, 53, 54, 55, 56, 57, 58, 59, 60, 61, 62, 63, 64, 65, 66, 67, 68, 69, 70, 71, 72, 73, 74, 75, 76, 77, 78, 79, 80, 81, 82, 83] rfl (by decide +kernel)
set_option maxRecDepth 20000 in
theorem gX4_total_X4_waits : GoodIn wsX4_total (wsV RX4 240 RX4 yX4_waits wsX4_waits) := goodIn_app (goodIn_r _ [4, 5, 6, 7] rfl (by decide +kernel)) ggX4_total_X4_waits
set_option maxRecDepth 20000 in
theorem ggX4_total_X4_longestWait : GoodIn wsX4_total wsX4_longestWait := goodIn_r _ [27, 9, 10, 28, 29, 30, 31, 11, 12, 13, 7, 14, 2, 15, 16, 17, 18, 19, 20, 21, 22, 23, 52, 53, 54, 55, 56, 57, 58, 59, 60, 61, 62, 63, 64, 65, 66, 67, 68, 69, 70, 71, 72, 73, 74, 75, 76, 77, 78, 79, 80, 81, 82, 83] rfl (by decide +kernel)
set_option maxRecDepth 20000 in
theorem gX4_total_X4_longestWait : GoodIn wsX4_total (wsV RX4 244 RX4 yX4_longestWait wsX4_longestWait) := goodIn_app (goodIn_r _ [24, 25, 26, 7] rfl (by decide +kernel)) ggX4_total_X4_longestWait
set_option maxRecDepth 20000 in
theorem ggX4_total_J13_bitCount_95d88 : GoodIn wsX4_total wsJ13_bitCount_95d88 := goodIn_r _ [35, 36, 37, 38] rfl (by decide +kernel)
set_option maxRecDepth 20000 in
theorem gX4_total_J13_bitCount_95d88 : GoodIn wsX4_total (va_wsS RX4 247 yJ13_bitCount_95d88 wsJ13_bitCount_95d88) := goodIn_app (goodIn_r _ [32, 33, 34] rfl (by decide +kernel)) ggX4_total_J13_bitCount_95d88
set_option maxRecDepth 20000 in
theorem ggX4_total_X4_metBreaks : GoodIn wsX4_total wsX4_metBreaks := goodIn_r _ [42, 9, 10, 18, 19, 20, 7, 21, 22, 23, 52, 53, 54, 55, 56, 57, 58, 59, 60, 61, 62, 63, 64, 65, 66, 67, 68, 69, 70, 71, 72, 73, 74, 75, 76, 77, 78, 79, 80, 81, 82, 83] rfl (by decide +kernel)
set_option maxRecDepth 20000 in
theorem gX4_total_X4_metBreaks : GoodIn wsX4_total (wsV RX4 252 RX4 yX4_metBreaks wsX4_metBreaks) := goodIn_app (goodIn_r _ [39, 40, 41, 7] rfl (by decide +kernel)) ggX4_total_X4_metBreaks
set_option maxRecDepth 20000 in
theorem ggX4_total_X4_tallied : GoodIn wsX4_total wsX4_tallied := goodIn_r _ [46, 9, 10, 18, 19, 20, 7, 21, 22, 23, 52, 53, 54, 55, 56, 57, 58, 59, 60, 61, 62, 63, 64, 65, 66, 67, 68, 69, 70, 71, 72, 73, 74, 75, 76, 77, 78, 79, 80, 81, 82, 83] rfl (by decide +kernel)
set_option maxRecDepth 20000 in
theorem gX4_total_X4_tallied : GoodIn wsX4_total (wsV RX4 255 RX4 yX4_tallied wsX4_tallied) := goodIn_app (goodIn_r _ [43, 44, 45, 7] rfl (by decide +kernel)) ggX4_total_X4_tallied
set_option maxRecDepth 20000 in
theorem ggX4_total_X4_hours : GoodIn wsX4_total wsX4_hours := goodIn_r _ [50, 9, 10, 51, 43, 44, 45, 7, 46, 18, 19, 20, 21, 22, 23, 52, 53, 54, 55, 56, 57, 58, 59, 60, 61, 62, 63, 64, 65, 66, 67, 68, 69, 70, 71, 72, 73, 74, 75, 76, 77, 78, 79, 80, 81, 82, 83] rfl (by decide +kernel)
set_option maxRecDepth 20000 in
theorem gX4_total_X4_hours : GoodIn wsX4_total (wsV RX4 258 RX4 yX4_hours wsX4_hours) := goodIn_app (goodIn_r _ [47, 48, 49, 7] rfl (by decide +kernel)) ggX4_total_X4_hours
theorem dX4_total_0 : decode cX4_total 0 = .ok (.iload_n 1, 1) := by decide +kernel
theorem dX4_total_1 : decode cX4_total 1 = .ok (.tableswitch 98 0 7 #[47, 52, 57, 70, 75, 81, 86, 93], 47) := by decide +kernel
theorem dX4_total_48 : decode cX4_total 48 = .ok (.aload_n 0, 1) := by decide +kernel
theorem dX4_total_49 : decode cX4_total 49 = .ok (.invokevirtual 240, 3) := by decide +kernel
theorem dX4_total_52 : decode cX4_total 52 = .ok (.ireturn, 1) := by decide +kernel
theorem dX4_total_53 : decode cX4_total 53 = .ok (.aload_n 0, 1) := by decide +kernel
theorem dX4_total_54 : decode cX4_total 54 = .ok (.invokevirtual 244, 3) := by decide +kernel
theorem dX4_total_57 : decode cX4_total 57 = .ok (.ireturn, 1) := by decide +kernel
theorem dX4_total_58 : decode cX4_total 58 = .ok (.aload_n 0, 1) := by decide +kernel
theorem dX4_total_59 : decode cX4_total 59 = .ok (.getfield 78, 3) := by decide +kernel
theorem dX4_total_62 : decode cX4_total 62 = .ok (.aload_n 0, 1) := by decide +kernel
theorem dX4_total_63 : decode cX4_total 63 = .ok (.getfield 64, 3) := by decide +kernel
theorem dX4_total_66 : decode cX4_total 66 = .ok (.invokestatic 247, 3) := by decide +kernel
theorem dX4_total_69 : decode cX4_total 69 = .ok (.isub, 1) := by decide +kernel
theorem dX4_total_70 : decode cX4_total 70 = .ok (.ireturn, 1) := by decide +kernel
theorem dX4_total_71 : decode cX4_total 71 = .ok (.aload_n 0, 1) := by decide +kernel
theorem dX4_total_72 : decode cX4_total 72 = .ok (.invokevirtual 252, 3) := by decide +kernel
theorem dX4_total_75 : decode cX4_total 75 = .ok (.ireturn, 1) := by decide +kernel
theorem dX4_total_76 : decode cX4_total 76 = .ok (.aload_n 0, 1) := by decide +kernel
theorem dX4_total_77 : decode cX4_total 77 = .ok (.iconst 4, 1) := by decide +kernel
theorem dX4_total_78 : decode cX4_total 78 = .ok (.invokevirtual 255, 3) := by decide +kernel
theorem dX4_total_81 : decode cX4_total 81 = .ok (.ireturn, 1) := by decide +kernel
theorem dX4_total_82 : decode cX4_total 82 = .ok (.aload_n 0, 1) := by decide +kernel
theorem dX4_total_83 : decode cX4_total 83 = .ok (.invokevirtual 258, 3) := by decide +kernel
theorem dX4_total_86 : decode cX4_total 86 = .ok (.ireturn, 1) := by decide +kernel
theorem dX4_total_87 : decode cX4_total 87 = .ok (.aload_n 0, 1) := by decide +kernel
theorem dX4_total_88 : decode cX4_total 88 = .ok (.bipush 6, 2) := by decide +kernel
theorem dX4_total_90 : decode cX4_total 90 = .ok (.invokevirtual 255, 3) := by decide +kernel
theorem dX4_total_93 : decode cX4_total 93 = .ok (.ireturn, 1) := by decide +kernel
theorem dX4_total_94 : decode cX4_total 94 = .ok (.aload_n 0, 1) := by decide +kernel
theorem dX4_total_95 : decode cX4_total 95 = .ok (.getfield 81, 3) := by decide +kernel
theorem dX4_total_98 : decode cX4_total 98 = .ok (.ireturn, 1) := by decide +kernel
theorem dX4_total_99 : decode cX4_total 99 = .ok (.bipush (-9), 2) := by decide +kernel
theorem dX4_total_101 : decode cX4_total 101 = .ok (.ireturn, 1) := by decide +kernel
set_option maxRecDepth 20000 in
theorem ggX4_waitOf_X8_isIn : GoodIn wsX4_waitOf wsX8_isIn := goodIn_r _ [4] rfl (by decide +kernel)
set_option maxRecDepth 20000 in
theorem gX4_waitOf_X8_isIn_n152 : GoodIn wsX4_waitOf (wsX8_isIn) := ggX4_waitOf_X8_isIn
set_option maxRecDepth 20000 in
theorem ggX4_waitOf_X4_kept : GoodIn wsX4_waitOf wsX4_kept := goodIn_r _ [9, 10, 11, 12, 13, 14, 15, 16, 17, 18, 19, 20, 21, 22, 23, 24, 25, 26, 27, 28, 29, 30, 31] rfl (by decide +kernel)
set_option maxRecDepth 20000 in
theorem gX4_waitOf_X4_kept : GoodIn wsX4_waitOf (wsV RX4 177 RX4 yX4_kept wsX4_kept) := goodIn_app (goodIn_r _ [5, 6, 7, 8] rfl (by decide +kernel)) ggX4_waitOf_X4_kept
theorem dX4_waitOf_0 : decode cX4_waitOf 0 = .ok (.aload_n 0, 1) := by decide +kernel
theorem dX4_waitOf_1 : decode cX4_waitOf 1 = .ok (.getfield 64, 3) := by decide +kernel
theorem dX4_waitOf_4 : decode cX4_waitOf 4 = .ok (.iload_n 1, 1) := by decide +kernel
theorem dX4_waitOf_5 : decode cX4_waitOf 5 = .ok (.invokestatic 152, 3) := by decide +kernel
theorem dX4_waitOf_8 : decode cX4_waitOf 8 = .ok (.ifCond .eq 19, 3) := by decide +kernel
theorem dX4_waitOf_11 : decode cX4_waitOf 11 = .ok (.aload_n 0, 1) := by decide +kernel
theorem dX4_waitOf_12 : decode cX4_waitOf 12 = .ok (.iload_n 1, 1) := by decide +kernel
theorem dX4_waitOf_13 : decode cX4_waitOf 13 = .ok (.iconst 2, 1) := by decide +kernel
theorem dX4_waitOf_14 : decode cX4_waitOf 14 = .ok (.invokevirtual 177, 3) := by decide +kernel
theorem dX4_waitOf_17 : decode cX4_waitOf 17 = .ok (.aload_n 0, 1) := by decide +kernel
theorem dX4_waitOf_18 : decode cX4_waitOf 18 = .ok (.iload_n 1, 1) := by decide +kernel
theorem dX4_waitOf_19 : decode cX4_waitOf 19 = .ok (.iconst 0, 1) := by decide +kernel
theorem dX4_waitOf_20 : decode cX4_waitOf 20 = .ok (.invokevirtual 177, 3) := by decide +kernel
theorem dX4_waitOf_23 : decode cX4_waitOf 23 = .ok (.isub, 1) := by decide +kernel
theorem dX4_waitOf_24 : decode cX4_waitOf 24 = .ok (.goto 4, 3) := by decide +kernel
theorem dX4_waitOf_27 : decode cX4_waitOf 27 = .ok (.iconst 0, 1) := by decide +kernel
theorem dX4_waitOf_28 : decode cX4_waitOf 28 = .ok (.ireturn, 1) := by decide +kernel
set_option maxRecDepth 20000 in
theorem ggX4_waits_X4_waitOf : GoodIn wsX4_waits wsX4_waitOf := goodIn_r _ [7, 8, 9, 10, 11, 12, 13, 14, 6, 15, 16, 17, 18, 19, 20, 21, 22, 23, 24, 25, 26, 27, 28, 29, 30, 31, 32, 33, 34, 35, 36, 37] rfl (by decide +kernel)
set_option maxRecDepth 20000 in
theorem gX4_waits_X4_waitOf : GoodIn wsX4_waits (wsV RX4 261 RX4 yX4_waitOf wsX4_waitOf) := goodIn_app (goodIn_r _ [3, 4, 5, 6] rfl (by decide +kernel)) ggX4_waits_X4_waitOf
theorem dX4_waits_0 : decode cX4_waits 0 = .ok (.iconst 0, 1) := by decide +kernel
theorem dX4_waits_1 : decode cX4_waits 1 = .ok (.istore_n 1, 1) := by decide +kernel
theorem dX4_waits_2 : decode cX4_waits 2 = .ok (.iconst 0, 1) := by decide +kernel
theorem dX4_waits_3 : decode cX4_waits 3 = .ok (.istore_n 2, 1) := by decide +kernel
theorem dX4_waits_4 : decode cX4_waits 4 = .ok (.iload_n 2, 1) := by decide +kernel
theorem dX4_waits_5 : decode cX4_waits 5 = .ok (.aload_n 0, 1) := by decide +kernel
theorem dX4_waits_6 : decode cX4_waits 6 = .ok (.getfield 84, 3) := by decide +kernel
theorem dX4_waits_9 : decode cX4_waits 9 = .ok (.getfield 149, 3) := by decide +kernel
theorem dX4_waits_12 : decode cX4_waits 12 = .ok (.if_icmp .ge 17, 3) := by decide +kernel
theorem dX4_waits_15 : decode cX4_waits 15 = .ok (.iload_n 1, 1) := by decide +kernel
theorem dX4_waits_16 : decode cX4_waits 16 = .ok (.aload_n 0, 1) := by decide +kernel
theorem dX4_waits_17 : decode cX4_waits 17 = .ok (.iload_n 2, 1) := by decide +kernel
theorem dX4_waits_18 : decode cX4_waits 18 = .ok (.invokevirtual 261, 3) := by decide +kernel
theorem dX4_waits_21 : decode cX4_waits 21 = .ok (.iadd, 1) := by decide +kernel
theorem dX4_waits_22 : decode cX4_waits 22 = .ok (.istore_n 1, 1) := by decide +kernel
theorem dX4_waits_23 : decode cX4_waits 23 = .ok (.iinc 2 1, 3) := by decide +kernel
theorem dX4_waits_26 : decode cX4_waits 26 = .ok (.goto (-22), 3) := by decide +kernel
theorem dX4_waits_29 : decode cX4_waits 29 = .ok (.iload_n 1, 1) := by decide +kernel
theorem dX4_waits_30 : decode cX4_waits 30 = .ok (.ireturn, 1) := by decide +kernel
set_option maxRecDepth 20000 in
theorem ggX4_longestWait_X4_waitOf : GoodIn wsX4_longestWait wsX4_waitOf := goodIn_r _ [11, 12, 13, 14, 15, 16, 17, 18, 10, 19, 20, 21, 22, 23, 24, 25, 26, 27, 28, 29, 30, 31, 32, 33, 34, 35, 36, 37, 38, 39, 40, 41] rfl (by decide +kernel)
set_option maxRecDepth 20000 in
theorem gX4_longestWait_X4_waitOf : GoodIn wsX4_longestWait (wsV RX4 261 RX4 yX4_waitOf wsX4_waitOf) := goodIn_app (goodIn_r _ [7, 8, 9, 10] rfl (by decide +kernel)) ggX4_longestWait_X4_waitOf
theorem dX4_longestWait_0 : decode cX4_longestWait 0 = .ok (.iconst 0, 1) := by decide +kernel
theorem dX4_longestWait_1 : decode cX4_longestWait 1 = .ok (.istore_n 1, 1) := by decide +kernel
theorem dX4_longestWait_2 : decode cX4_longestWait 2 = .ok (.iconst 0, 1) := by decide +kernel
theorem dX4_longestWait_3 : decode cX4_longestWait 3 = .ok (.istore_n 2, 1) := by decide +kernel
theorem dX4_longestWait_4 : decode cX4_longestWait 4 = .ok (.iload_n 2, 1) := by decide +kernel
theorem dX4_longestWait_5 : decode cX4_longestWait 5 = .ok (.aload_n 0, 1) := by decide +kernel
theorem dX4_longestWait_6 : decode cX4_longestWait 6 = .ok (.getfield 84, 3) := by decide +kernel
theorem dX4_longestWait_9 : decode cX4_longestWait 9 = .ok (.getfield 149, 3) := by decide +kernel
theorem dX4_longestWait_12 : decode cX4_longestWait 12 = .ok (.if_icmp .ge 19, 3) := by decide +kernel
theorem dX4_longestWait_15 : decode cX4_longestWait 15 = .ok (.iload_n 1, 1) := by decide +kernel
theorem dX4_longestWait_16 : decode cX4_longestWait 16 = .ok (.aload_n 0, 1) := by decide +kernel
theorem dX4_longestWait_17 : decode cX4_longestWait 17 = .ok (.iload_n 2, 1) := by decide +kernel
theorem dX4_longestWait_18 : decode cX4_longestWait 18 = .ok (.invokevirtual 261, 3) := by decide +kernel
theorem dX4_longestWait_21 : decode cX4_longestWait 21 = .ok (.invokestatic 143, 3) := by decide +kernel
theorem dX4_longestWait_24 : decode cX4_longestWait 24 = .ok (.istore_n 1, 1) := by decide +kernel
theorem dX4_longestWait_25 : decode cX4_longestWait 25 = .ok (.iinc 2 1, 3) := by decide +kernel
theorem dX4_longestWait_28 : decode cX4_longestWait 28 = .ok (.goto (-24), 3) := by decide +kernel
theorem dX4_longestWait_31 : decode cX4_longestWait 31 = .ok (.iload_n 1, 1) := by decide +kernel
theorem dX4_longestWait_32 : decode cX4_longestWait 32 = .ok (.ireturn, 1) := by decide +kernel
set_option maxRecDepth 20000 in
theorem ggX4_metBreaks_X4_kept : GoodIn wsX4_metBreaks wsX4_kept := goodIn_r _ [7, 8, 9, 10, 11, 12, 13, 14, 15, 16, 17, 18, 19, 20, 21, 22, 23, 24, 25, 26, 27, 28, 29] rfl (by decide +kernel)
set_option maxRecDepth 20000 in
theorem gX4_metBreaks_X4_kept : GoodIn wsX4_metBreaks (wsV RX4 177 RX4 yX4_kept wsX4_kept) := goodIn_app (goodIn_r _ [3, 4, 5, 6] rfl (by decide +kernel)) ggX4_metBreaks_X4_kept
theorem dX4_metBreaks_0 : decode cX4_metBreaks 0 = .ok (.iconst 0, 1) := by decide +kernel
theorem dX4_metBreaks_1 : decode cX4_metBreaks 1 = .ok (.istore_n 1, 1) := by decide +kernel
theorem dX4_metBreaks_2 : decode cX4_metBreaks 2 = .ok (.iconst 0, 1) := by decide +kernel
theorem dX4_metBreaks_3 : decode cX4_metBreaks 3 = .ok (.istore_n 2, 1) := by decide +kernel
theorem dX4_metBreaks_4 : decode cX4_metBreaks 4 = .ok (.iload_n 2, 1) := by decide +kernel
theorem dX4_metBreaks_5 : decode cX4_metBreaks 5 = .ok (.aload_n 0, 1) := by decide +kernel
theorem dX4_metBreaks_6 : decode cX4_metBreaks 6 = .ok (.getfield 84, 3) := by decide +kernel
theorem dX4_metBreaks_9 : decode cX4_metBreaks 9 = .ok (.getfield 149, 3) := by decide +kernel
theorem dX4_metBreaks_12 : decode cX4_metBreaks 12 = .ok (.if_icmp .ge 27, 3) := by decide +kernel
theorem dX4_metBreaks_15 : decode cX4_metBreaks 15 = .ok (.iload_n 1, 1) := by decide +kernel
theorem dX4_metBreaks_16 : decode cX4_metBreaks 16 = .ok (.aload_n 0, 1) := by decide +kernel
theorem dX4_metBreaks_17 : decode cX4_metBreaks 17 = .ok (.iload_n 2, 1) := by decide +kernel
theorem dX4_metBreaks_18 : decode cX4_metBreaks 18 = .ok (.iconst 3, 1) := by decide +kernel
theorem dX4_metBreaks_19 : decode cX4_metBreaks 19 = .ok (.invokevirtual 177, 3) := by decide +kernel
theorem dX4_metBreaks_22 : decode cX4_metBreaks 22 = .ok (.iconst (-1), 1) := by decide +kernel
theorem dX4_metBreaks_23 : decode cX4_metBreaks 23 = .ok (.if_icmp .ne 7, 3) := by decide +kernel
theorem dX4_metBreaks_26 : decode cX4_metBreaks 26 = .ok (.iconst 0, 1) := by decide +kernel
theorem dX4_metBreaks_27 : decode cX4_metBreaks 27 = .ok (.goto 4, 3) := by decide +kernel
theorem dX4_metBreaks_30 : decode cX4_metBreaks 30 = .ok (.iconst 1, 1) := by decide +kernel
theorem dX4_metBreaks_31 : decode cX4_metBreaks 31 = .ok (.iadd, 1) := by decide +kernel
theorem dX4_metBreaks_32 : decode cX4_metBreaks 32 = .ok (.istore_n 1, 1) := by decide +kernel
theorem dX4_metBreaks_33 : decode cX4_metBreaks 33 = .ok (.iinc 2 1, 3) := by decide +kernel
theorem dX4_metBreaks_36 : decode cX4_metBreaks 36 = .ok (.goto (-32), 3) := by decide +kernel
theorem dX4_metBreaks_39 : decode cX4_metBreaks 39 = .ok (.iload_n 1, 1) := by decide +kernel
theorem dX4_metBreaks_40 : decode cX4_metBreaks 40 = .ok (.ireturn, 1) := by decide +kernel
set_option maxRecDepth 20000 in
theorem ggX4_tallied_X4_kept : GoodIn wsX4_tallied wsX4_kept := goodIn_r _ [7, 8, 9, 10, 11, 12, 13, 14, 15, 16, 17, 18, 19, 20, 21, 22, 23, 24, 25, 26, 27, 28, 29] rfl (by decide +kernel)
set_option maxRecDepth 20000 in
theorem gX4_tallied_X4_kept : GoodIn wsX4_tallied (wsV RX4 177 RX4 yX4_kept wsX4_kept) := goodIn_app (goodIn_r _ [3, 4, 5, 6] rfl (by decide +kernel)) ggX4_tallied_X4_kept
theorem dX4_tallied_0 : decode cX4_tallied 0 = .ok (.iconst 0, 1) := by decide +kernel
theorem dX4_tallied_1 : decode cX4_tallied 1 = .ok (.istore_n 2, 1) := by decide +kernel
theorem dX4_tallied_2 : decode cX4_tallied 2 = .ok (.iconst 0, 1) := by decide +kernel
theorem dX4_tallied_3 : decode cX4_tallied 3 = .ok (.istore_n 3, 1) := by decide +kernel
theorem dX4_tallied_4 : decode cX4_tallied 4 = .ok (.iload_n 3, 1) := by decide +kernel
theorem dX4_tallied_5 : decode cX4_tallied 5 = .ok (.aload_n 0, 1) := by decide +kernel
theorem dX4_tallied_6 : decode cX4_tallied 6 = .ok (.getfield 84, 3) := by decide +kernel
theorem dX4_tallied_9 : decode cX4_tallied 9 = .ok (.getfield 149, 3) := by decide +kernel
theorem dX4_tallied_12 : decode cX4_tallied 12 = .ok (.if_icmp .ge 18, 3) := by decide +kernel
theorem dX4_tallied_15 : decode cX4_tallied 15 = .ok (.iload_n 2, 1) := by decide +kernel
theorem dX4_tallied_16 : decode cX4_tallied 16 = .ok (.aload_n 0, 1) := by decide +kernel
theorem dX4_tallied_17 : decode cX4_tallied 17 = .ok (.iload_n 3, 1) := by decide +kernel
theorem dX4_tallied_18 : decode cX4_tallied 18 = .ok (.iload_n 1, 1) := by decide +kernel
theorem dX4_tallied_19 : decode cX4_tallied 19 = .ok (.invokevirtual 177, 3) := by decide +kernel
theorem dX4_tallied_22 : decode cX4_tallied 22 = .ok (.iadd, 1) := by decide +kernel
theorem dX4_tallied_23 : decode cX4_tallied 23 = .ok (.istore_n 2, 1) := by decide +kernel
theorem dX4_tallied_24 : decode cX4_tallied 24 = .ok (.iinc 3 1, 3) := by decide +kernel
theorem dX4_tallied_27 : decode cX4_tallied 27 = .ok (.goto (-23), 3) := by decide +kernel
theorem dX4_tallied_30 : decode cX4_tallied 30 = .ok (.iload_n 2, 1) := by decide +kernel
theorem dX4_tallied_31 : decode cX4_tallied 31 = .ok (.ireturn, 1) := by decide +kernel
set_option maxRecDepth 20000 in
theorem ggX4_hours_X4_tallied : GoodIn wsX4_hours wsX4_tallied := goodIn_r _ [8, 1, 2, 9, 10, 11, 7, 12, 13, 14, 15, 16, 17, 18, 19, 20, 21, 22, 23, 24, 25, 26, 27, 28, 29, 30, 31, 32, 33, 34, 35, 36, 37, 38, 39, 40, 41, 42, 43, 44, 45, 46] rfl (by decide +kernel)
set_option maxRecDepth 20000 in
theorem gX4_hours_X4_tallied : GoodIn wsX4_hours (wsV RX4 255 RX4 yX4_tallied wsX4_tallied) := goodIn_app (goodIn_r _ [4, 5, 6, 7] rfl (by decide +kernel)) ggX4_hours_X4_tallied
set_option maxRecDepth 20000 in
theorem ggX4_hours_X4_kept : GoodIn wsX4_hours wsX4_kept := goodIn_r _ [12, 13, 14, 15, 16, 17, 18, 19, 20, 21, 22, 23, 24, 25, 26, 27, 28, 29, 30, 31, 32, 33, 34] rfl (by decide +kernel)
set_option maxRecDepth 20000 in
theorem gX4_hours_X4_kept : GoodIn wsX4_hours (wsV RX4 177 RX4 yX4_kept wsX4_kept) := goodIn_app (goodIn_r _ [9, 10, 11, 7] rfl (by decide +kernel)) ggX4_hours_X4_kept
theorem dX4_hours_0 : decode cX4_hours 0 = .ok (.aload_n 0, 1) := by decide +kernel
theorem dX4_hours_1 : decode cX4_hours 1 = .ok (.iconst 5, 1) := by decide +kernel
theorem dX4_hours_2 : decode cX4_hours 2 = .ok (.invokevirtual 255, 3) := by decide +kernel
theorem dX4_hours_5 : decode cX4_hours 5 = .ok (.istore_n 1, 1) := by decide +kernel
theorem dX4_hours_6 : decode cX4_hours 6 = .ok (.iconst 0, 1) := by decide +kernel
theorem dX4_hours_7 : decode cX4_hours 7 = .ok (.istore_n 2, 1) := by decide +kernel
theorem dX4_hours_8 : decode cX4_hours 8 = .ok (.iload_n 2, 1) := by decide +kernel
theorem dX4_hours_9 : decode cX4_hours 9 = .ok (.aload_n 0, 1) := by decide +kernel
theorem dX4_hours_10 : decode cX4_hours 10 = .ok (.getfield 84, 3) := by decide +kernel
theorem dX4_hours_13 : decode cX4_hours 13 = .ok (.getfield 149, 3) := by decide +kernel
theorem dX4_hours_16 : decode cX4_hours 16 = .ok (.if_icmp .ge 35, 3) := by decide +kernel
theorem dX4_hours_19 : decode cX4_hours 19 = .ok (.iload_n 1, 1) := by decide +kernel
theorem dX4_hours_20 : decode cX4_hours 20 = .ok (.aload_n 0, 1) := by decide +kernel
theorem dX4_hours_21 : decode cX4_hours 21 = .ok (.iload_n 2, 1) := by decide +kernel
theorem dX4_hours_22 : decode cX4_hours 22 = .ok (.iconst 0, 1) := by decide +kernel
theorem dX4_hours_23 : decode cX4_hours 23 = .ok (.invokevirtual 177, 3) := by decide +kernel
theorem dX4_hours_26 : decode cX4_hours 26 = .ok (.iconst (-1), 1) := by decide +kernel
theorem dX4_hours_27 : decode cX4_hours 27 = .ok (.if_icmp .ne 7, 3) := by decide +kernel
theorem dX4_hours_30 : decode cX4_hours 30 = .ok (.iconst 0, 1) := by decide +kernel
theorem dX4_hours_31 : decode cX4_hours 31 = .ok (.goto 12, 3) := by decide +kernel
theorem dX4_hours_34 : decode cX4_hours 34 = .ok (.aload_n 0, 1) := by decide +kernel
theorem dX4_hours_35 : decode cX4_hours 35 = .ok (.getfield 84, 3) := by decide +kernel
theorem dX4_hours_38 : decode cX4_hours 38 = .ok (.getfield 199, 3) := by decide +kernel
theorem dX4_hours_41 : decode cX4_hours 41 = .ok (.iload_n 2, 1) := by decide +kernel
theorem dX4_hours_42 : decode cX4_hours 42 = .ok (.iaload, 1) := by decide +kernel
theorem dX4_hours_43 : decode cX4_hours 43 = .ok (.iadd, 1) := by decide +kernel
theorem dX4_hours_44 : decode cX4_hours 44 = .ok (.istore_n 1, 1) := by decide +kernel
theorem dX4_hours_45 : decode cX4_hours 45 = .ok (.iinc 2 1, 3) := by decide +kernel
theorem dX4_hours_48 : decode cX4_hours 48 = .ok (.goto (-40), 3) := by decide +kernel
theorem dX4_hours_51 : decode cX4_hours 51 = .ok (.iload_n 1, 1) := by decide +kernel
theorem dX4_hours_52 : decode cX4_hours 52 = .ok (.ireturn, 1) := by decide +kernel
theorem dX5_init_0 : decode cX5_init 0 = .ok (.aload_n 0, 1) := by decide +kernel
theorem dX5_init_1 : decode cX5_init 1 = .ok (.invokespecial 1, 3) := by decide +kernel
theorem dX5_init_4 : decode cX5_init 4 = .ok (.aload_n 0, 1) := by decide +kernel
theorem dX5_init_5 : decode cX5_init 5 = .ok (.iconst 1, 1) := by decide +kernel
theorem dX5_init_6 : decode cX5_init 6 = .ok (.putfield 7, 3) := by decide +kernel
theorem dX5_init_9 : decode cX5_init 9 = .ok (.aload_n 0, 1) := by decide +kernel
theorem dX5_init_10 : decode cX5_init 10 = .ok (.bipush 100, 2) := by decide +kernel
theorem dX5_init_12 : decode cX5_init 12 = .ok (.putfield 13, 3) := by decide +kernel
theorem dX5_init_15 : decode cX5_init 15 = .ok (.aload_n 0, 1) := by decide +kernel
theorem dX5_init_16 : decode cX5_init 16 = .ok (.iconst 2, 1) := by decide +kernel
theorem dX5_init_17 : decode cX5_init 17 = .ok (.putfield 16, 3) := by decide +kernel
theorem dX5_init_20 : decode cX5_init 20 = .ok (.aload_n 0, 1) := by decide +kernel
theorem dX5_init_21 : decode cX5_init 21 = .ok (.bipush 50, 2) := by decide +kernel
theorem dX5_init_23 : decode cX5_init 23 = .ok (.putfield 19, 3) := by decide +kernel
theorem dX5_init_26 : decode cX5_init 26 = .ok (.return_, 1) := by decide +kernel
set_option maxRecDepth 20000 in
theorem ggX5_of_X4_total : GoodIn wsX5_of wsX4_total := goodIn_r _ [9, 10, 11, 12, 13, 14, 15, 8, 16, 17, 18, 19, 20, 21, 22, 23, 24, 25, 26, 27, 28, 29, 30, 31, 32, 33, 34, 35, 36, 37, 38, 39, 40, 41, 42, 43, 44, 45, 46, 47, 48, 49, 50, 51, 52, 53, 54, 55, 56, 57, 58, 59, 64, 65, 66, 67, 68, 69, 70, 71, 72, 73, 74, 75, 76, 77, 78, 79, 80, 81, 82, 83, 84, 85, 86, 87, 88, 89, 90, 91, 92, 93, 94, 95] rfl (by decide +kernel)
set_option maxRecDepth 20000 in
theorem gX5_of_X4_total : GoodIn wsX5_of (wsV RX5 22 RX4 yX4_total wsX4_total) := goodIn_app (goodIn_r _ [5, 6, 7, 8] rfl (by decide +kernel)) ggX5_of_X4_total
theorem dX5_of_0 : decode cX5_of 0 = .ok (.aload_n 0, 1) := by decide +kernel
theorem dX5_of_1 : decode cX5_of 1 = .ok (.getfield 7, 3) := by decide +kernel
theorem dX5_of_4 : decode cX5_of 4 = .ok (.aload_n 1, 1) := by decide +kernel
theorem dX5_of_5 : decode cX5_of 5 = .ok (.iconst 0, 1) := by decide +kernel
theorem dX5_of_6 : decode cX5_of 6 = .ok (.invokevirtual 22, 3) := by decide +kernel
theorem dX5_of_9 : decode cX5_of 9 = .ok (.imul, 1) := by decide +kernel
theorem dX5_of_10 : decode cX5_of 10 = .ok (.aload_n 0, 1) := by decide +kernel
theorem dX5_of_11 : decode cX5_of 11 = .ok (.getfield 13, 3) := by decide +kernel
theorem dX5_of_14 : decode cX5_of 14 = .ok (.aload_n 1, 1) := by decide +kernel
theorem dX5_of_15 : decode cX5_of 15 = .ok (.iconst 3, 1) := by decide +kernel
theorem dX5_of_16 : decode cX5_of 16 = .ok (.invokevirtual 22, 3) := by decide +kernel
theorem dX5_of_19 : decode cX5_of 19 = .ok (.imul, 1) := by decide +kernel
theorem dX5_of_20 : decode cX5_of 20 = .ok (.iadd, 1) := by decide +kernel
theorem dX5_of_21 : decode cX5_of 21 = .ok (.aload_n 0, 1) := by decide +kernel
theorem dX5_of_22 : decode cX5_of 22 = .ok (.getfield 16, 3) := by decide +kernel
theorem dX5_of_25 : decode cX5_of 25 = .ok (.aload_n 1, 1) := by decide +kernel
theorem dX5_of_26 : decode cX5_of 26 = .ok (.iconst 5, 1) := by decide +kernel
theorem dX5_of_27 : decode cX5_of 27 = .ok (.invokevirtual 22, 3) := by decide +kernel
theorem dX5_of_30 : decode cX5_of 30 = .ok (.imul, 1) := by decide +kernel
theorem dX5_of_31 : decode cX5_of 31 = .ok (.iadd, 1) := by decide +kernel
theorem dX5_of_32 : decode cX5_of 32 = .ok (.aload_n 0, 1) := by decide +kernel
theorem dX5_of_33 : decode cX5_of 33 = .ok (.getfield 19, 3) := by decide +kernel
theorem dX5_of_36 : decode cX5_of 36 = .ok (.aload_n 1, 1) := by decide +kernel
theorem dX5_of_37 : decode cX5_of 37 = .ok (.iconst 2, 1) := by decide +kernel
theorem dX5_of_38 : decode cX5_of 38 = .ok (.invokevirtual 22, 3) := by decide +kernel
theorem dX5_of_41 : decode cX5_of 41 = .ok (.imul, 1) := by decide +kernel
theorem dX5_of_42 : decode cX5_of 42 = .ok (.iadd, 1) := by decide +kernel
theorem dX5_of_43 : decode cX5_of 43 = .ok (.ireturn, 1) := by decide +kernel
theorem dX6_init_0 : decode cX6_init 0 = .ok (.aload_n 0, 1) := by decide +kernel
theorem dX6_init_1 : decode cX6_init 1 = .ok (.invokespecial 3, 3) := by decide +kernel
theorem dX6_init_4 : decode cX6_init 4 = .ok (.aload_n 0, 1) := by decide +kernel
theorem dX6_init_5 : decode cX6_init 5 = .ok (.bipush 8, 2) := by decide +kernel
theorem dX6_init_7 : decode cX6_init 7 = .ok (.newarray .int, 2) := by decide +kernel
theorem dX6_init_9 : decode cX6_init 9 = .ok (.putfield 9, 3) := by decide +kernel
theorem dX6_init_12 : decode cX6_init 12 = .ok (.aload_n 0, 1) := by decide +kernel
theorem dX6_init_13 : decode cX6_init 13 = .ok (.iconst 0, 1) := by decide +kernel
theorem dX6_init_14 : decode cX6_init 14 = .ok (.putfield 15, 3) := by decide +kernel
theorem dX6_init_17 : decode cX6_init 17 = .ok (.aload_n 0, 1) := by decide +kernel
theorem dX6_init_18 : decode cX6_init 18 = .ok (.iconst (-1), 1) := by decide +kernel
theorem dX6_init_19 : decode cX6_init 19 = .ok (.putfield 19, 3) := by decide +kernel
theorem dX6_init_22 : decode cX6_init 22 = .ok (.return_, 1) := by decide +kernel
set_option maxRecDepth 20000 in
theorem ggX6_read_X7_pastBlanks : GoodIn wsX6_read wsX7_pastBlanks := goodIn_r _ [16, 17, 18, 134, 135] rfl (by decide +kernel)
set_option maxRecDepth 20000 in
theorem gX6_read_X7_pastBlanks : GoodIn wsX6_read (wsV RX6 40 RX7 yX7_pastBlanks wsX7_pastBlanks) := goodIn_app (goodIn_r _ [12, 13, 14, 15] rfl (by decide +kernel)) ggX6_read_X7_pastBlanks
set_option maxRecDepth 20000 in
theorem ggX6_read_X7_pastToken : GoodIn wsX6_read wsX7_pastToken := goodIn_r _ [22, 17, 23, 24, 25, 15, 26, 18, 27, 28, 29, 30, 134, 135] rfl (by decide +kernel)
set_option maxRecDepth 20000 in
theorem gX6_read_X7_pastToken : GoodIn wsX6_read (wsV RX6 49 RX7 yX7_pastToken wsX7_pastToken) := goodIn_app (goodIn_r _ [19, 20, 21, 15] rfl (by decide +kernel)) ggX6_read_X7_pastToken
set_option maxRecDepth 20000 in
theorem ggX6_read_X6_takeToken : GoodIn wsX6_read wsX6_takeToken := goodIn_r _ [35, 8, 36, 37, 38, 15, 39, 18, 40, 41, 42, 43, 44, 45, 46, 47, 48, 49, 50, 51, 52, 53, 54, 55, 56, 57, 58, 59, 60, 61, 62, 63, 64, 65, 66, 67, 68, 69, 70, 71, 72, 73, 74, 75, 76, 77, 78, 79, 80, 81, 82, 83, 84, 85, 86, 87, 88, 89, 90, 91, 34, 92, 9, 93, 94, 95, 96, 97, 6, 7, 98, 99, 100, 101, 27, 28, 29, 30, 102, 103, 104, 105, 1, 106, 107, 108, 109, 110, 111, 112, 113, 114, 115, 116, 117, 118, 119, 120, 121, 122, 10, 127, 128, 129, 130, 131, 132, 133, 134, 135] rfl (by decide +kernel)
set_option maxRecDepth 20000 in
theorem gX6_read_X6_takeToken : GoodIn wsX6_read (wsV RX6 52 RX6 yX6_takeToken wsX6_takeToken) := goodIn_app (goodIn_r _ [31, 32, 33, 34] rfl (by decide +kernel)) ggX6_read_X6_takeToken
set_option maxRecDepth 20000 in
theorem ggX6_read_X6_takeEnd : GoodIn wsX6_read wsX6_takeEnd := goodIn_r _ [126, 8, 1, 94, 95, 96, 34, 97, 6, 7, 127, 128, 129, 130, 131, 132, 133] rfl (by decide +kernel)
set_option maxRecDepth 20000 in
theorem gX6_read_X6_takeEnd : GoodIn wsX6_read (wsV RX6 56 RX6 yX6_takeEnd wsX6_takeEnd) := goodIn_app (goodIn_r _ [123, 124, 125, 34] rfl (by decide +kernel)) ggX6_read_X6_takeEnd
theorem dX6_read_0 : decode cX6_read 0 = .ok (.getstatic 22, 3) := by decide +kernel
theorem dX6_read_3 : decode cX6_read 3 = .ok (.iconst 0, 1) := by decide +kernel
theorem dX6_read_4 : decode cX6_read 4 = .ok (.aload_n 0, 1) := by decide +kernel
theorem dX6_read_5 : decode cX6_read 5 = .ok (.getfield 9, 3) := by decide +kernel
theorem dX6_read_8 : decode cX6_read 8 = .ok (.iconst 0, 1) := by decide +kernel
theorem dX6_read_9 : decode cX6_read 9 = .ok (.bipush 8, 2) := by decide +kernel
theorem dX6_read_11 : decode cX6_read 11 = .ok (.invokestatic 25, 3) := by decide +kernel
theorem dX6_read_14 : decode cX6_read 14 = .ok (.aload_n 0, 1) := by decide +kernel
theorem dX6_read_15 : decode cX6_read 15 = .ok (.iconst 0, 1) := by decide +kernel
theorem dX6_read_16 : decode cX6_read 16 = .ok (.putfield 15, 3) := by decide +kernel
theorem dX6_read_19 : decode cX6_read 19 = .ok (.aload_n 0, 1) := by decide +kernel
theorem dX6_read_20 : decode cX6_read 20 = .ok (.iconst (-1), 1) := by decide +kernel
theorem dX6_read_21 : decode cX6_read 21 = .ok (.putfield 19, 3) := by decide +kernel
theorem dX6_read_24 : decode cX6_read 24 = .ok (.aload_n 0, 1) := by decide +kernel
theorem dX6_read_25 : decode cX6_read 25 = .ok (.iconst 0, 1) := by decide +kernel
theorem dX6_read_26 : decode cX6_read 26 = .ok (.putfield 31, 3) := by decide +kernel
theorem dX6_read_29 : decode cX6_read 29 = .ok (.aload_n 0, 1) := by decide +kernel
theorem dX6_read_30 : decode cX6_read 30 = .ok (.iconst 0, 1) := by decide +kernel
theorem dX6_read_31 : decode cX6_read 31 = .ok (.putfield 34, 3) := by decide +kernel
theorem dX6_read_34 : decode cX6_read 34 = .ok (.aload_n 0, 1) := by decide +kernel
theorem dX6_read_35 : decode cX6_read 35 = .ok (.iconst 0, 1) := by decide +kernel
theorem dX6_read_36 : decode cX6_read 36 = .ok (.putfield 37, 3) := by decide +kernel
theorem dX6_read_39 : decode cX6_read 39 = .ok (.aload_n 1, 1) := by decide +kernel
theorem dX6_read_40 : decode cX6_read 40 = .ok (.iconst 0, 1) := by decide +kernel
theorem dX6_read_41 : decode cX6_read 41 = .ok (.invokevirtual 40, 3) := by decide +kernel
theorem dX6_read_44 : decode cX6_read 44 = .ok (.istore_n 2, 1) := by decide +kernel
theorem dX6_read_45 : decode cX6_read 45 = .ok (.iconst 0, 1) := by decide +kernel
theorem dX6_read_46 : decode cX6_read 46 = .ok (.istore_n 3, 1) := by decide +kernel
theorem dX6_read_47 : decode cX6_read 47 = .ok (.iload_n 3, 1) := by decide +kernel
theorem dX6_read_48 : decode cX6_read 48 = .ok (.sipush 600, 3) := by decide +kernel
theorem dX6_read_51 : decode cX6_read 51 = .ok (.if_icmp .ge 46, 3) := by decide +kernel
theorem dX6_read_54 : decode cX6_read 54 = .ok (.iload_n 2, 1) := by decide +kernel
theorem dX6_read_55 : decode cX6_read 55 = .ok (.aload_n 1, 1) := by decide +kernel
theorem dX6_read_56 : decode cX6_read 56 = .ok (.getfield 46, 3) := by decide +kernel
theorem dX6_read_59 : decode cX6_read 59 = .ok (.if_icmp .ge 38, 3) := by decide +kernel
theorem dX6_read_62 : decode cX6_read 62 = .ok (.aload_n 0, 1) := by decide +kernel
theorem dX6_read_63 : decode cX6_read 63 = .ok (.getfield 15, 3) := by decide +kernel
theorem dX6_read_66 : decode cX6_read 66 = .ok (.ifCond .ne 31, 3) := by decide +kernel
theorem dX6_read_69 : decode cX6_read 69 = .ok (.aload_n 1, 1) := by decide +kernel
theorem dX6_read_70 : decode cX6_read 70 = .ok (.iload_n 2, 1) := by decide +kernel
theorem dX6_read_71 : decode cX6_read 71 = .ok (.invokevirtual 49, 3) := by decide +kernel
theorem dX6_read_74 : decode cX6_read 74 = .ok (.istore 4, 2) := by decide +kernel
theorem dX6_read_76 : decode cX6_read 76 = .ok (.aload_n 0, 1) := by decide +kernel
theorem dX6_read_77 : decode cX6_read 77 = .ok (.aload_n 1, 1) := by decide +kernel
theorem dX6_read_78 : decode cX6_read 78 = .ok (.iload_n 2, 1) := by decide +kernel
theorem dX6_read_79 : decode cX6_read 79 = .ok (.iload 4, 2) := by decide +kernel
theorem dX6_read_81 : decode cX6_read 81 = .ok (.invokevirtual 52, 3) := by decide +kernel
theorem dX6_read_84 : decode cX6_read 84 = .ok (.aload_n 1, 1) := by decide +kernel
theorem dX6_read_85 : decode cX6_read 85 = .ok (.iload 4, 2) := by decide +kernel
theorem dX6_read_87 : decode cX6_read 87 = .ok (.invokevirtual 40, 3) := by decide +kernel
theorem dX6_read_90 : decode cX6_read 90 = .ok (.istore_n 2, 1) := by decide +kernel
theorem dX6_read_91 : decode cX6_read 91 = .ok (.iinc 3 1, 3) := by decide +kernel
theorem dX6_read_94 : decode cX6_read 94 = .ok (.goto (-47), 3) := by decide +kernel
theorem dX6_read_97 : decode cX6_read 97 = .ok (.aload_n 0, 1) := by decide +kernel
theorem dX6_read_98 : decode cX6_read 98 = .ok (.getfield 15, 3) := by decide +kernel
theorem dX6_read_101 : decode cX6_read 101 = .ok (.ifCond .ne 11, 3) := by decide +kernel
theorem dX6_read_104 : decode cX6_read 104 = .ok (.aload_n 0, 1) := by decide +kernel
theorem dX6_read_105 : decode cX6_read 105 = .ok (.aload_n 1, 1) := by decide +kernel
theorem dX6_read_106 : decode cX6_read 106 = .ok (.getfield 46, 3) := by decide +kernel
theorem dX6_read_109 : decode cX6_read 109 = .ok (.invokevirtual 56, 3) := by decide +kernel
theorem dX6_read_112 : decode cX6_read 112 = .ok (.aload_n 0, 1) := by decide +kernel
theorem dX6_read_113 : decode cX6_read 113 = .ok (.getfield 15, 3) := by decide +kernel
theorem dX6_read_116 : decode cX6_read 116 = .ok (.ifCond .ne 10, 3) := by decide +kernel
theorem dX6_read_119 : decode cX6_read 119 = .ok (.aload_n 0, 1) := by decide +kernel
theorem dX6_read_120 : decode cX6_read 120 = .ok (.getfield 37, 3) := by decide +kernel
theorem dX6_read_123 : decode cX6_read 123 = .ok (.goto 4, 3) := by decide +kernel
theorem dX6_read_126 : decode cX6_read 126 = .ok (.iconst (-1), 1) := by decide +kernel
theorem dX6_read_127 : decode cX6_read 127 = .ok (.ireturn, 1) := by decide +kernel
set_option maxRecDepth 20000 in
theorem ggX6_takeToken_X7_wordAt : GoodIn wsX6_takeToken wsX7_wordAt := goodIn_r _ [6, 7, 8, 9, 10, 11, 12, 13, 14, 15, 16, 17, 18, 19, 20, 21, 22, 23, 24, 25, 26, 27, 28, 29, 30, 31, 32, 33, 34, 35, 36, 37, 38, 39, 40, 41, 42, 43, 44, 45, 46, 47, 48, 49, 50, 51, 52, 53, 54, 55, 56, 108, 109] rfl (by decide +kernel)
set_option maxRecDepth 20000 in
theorem gX6_takeToken_X7_wordAt : GoodIn wsX6_takeToken (wsV RX6 60 RX7 yX7_wordAt wsX7_wordAt) := goodIn_app (goodIn_r _ [2, 3, 4, 5] rfl (by decide +kernel)) ggX6_takeToken_X7_wordAt
set_option maxRecDepth 20000 in
theorem ggX6_takeToken_X6_takeLineWord : GoodIn wsX6_takeToken wsX6_takeLineWord := goodIn_r _ [61, 62, 63, 1, 64, 65, 66, 60, 67, 68, 69, 101, 102, 103, 104, 105, 106, 107] rfl (by decide +kernel)
set_option maxRecDepth 20000 in
theorem gX6_takeToken_X6_takeLineWord : GoodIn wsX6_takeToken (wsV RX6 64 RX6 yX6_takeLineWord wsX6_takeLineWord) := goodIn_app (goodIn_r _ [57, 58, 59, 60] rfl (by decide +kernel)) ggX6_takeToken_X6_takeLineWord
set_option maxRecDepth 20000 in
theorem ggX6_takeToken_X7_numberAt : GoodIn wsX6_takeToken wsX7_numberAt := goodIn_r _ [73, 7, 74, 75, 76, 5, 77, 108, 109] rfl (by decide +kernel)
set_option maxRecDepth 20000 in
theorem gX6_takeToken_X7_numberAt : GoodIn wsX6_takeToken (wsV RX6 68 RX7 yX7_numberAt wsX7_numberAt) := goodIn_app (goodIn_r _ [70, 71, 72, 5] rfl (by decide +kernel)) ggX6_takeToken_X7_numberAt
set_option maxRecDepth 20000 in
theorem ggX6_takeToken_X6_takeNumber : GoodIn wsX6_takeToken wsX6_takeNumber := goodIn_r _ [81, 63, 82, 1, 64, 65, 66, 60, 67, 68, 69, 83, 84, 85, 86, 87, 101, 102, 103, 104, 105, 106, 107] rfl (by decide +kernel)
set_option maxRecDepth 20000 in
theorem gX6_takeToken_X6_takeNumber : GoodIn wsX6_takeToken (wsV RX6 71 RX6 yX6_takeNumber wsX6_takeNumber) := goodIn_app (goodIn_r _ [78, 79, 80, 60] rfl (by decide +kernel)) ggX6_takeToken_X6_takeNumber
set_option maxRecDepth 20000 in
theorem ggX6_takeToken_X6_takePick : GoodIn wsX6_takeToken wsX6_takePick := goodIn_r _ [91, 82, 1, 64, 65, 66, 60, 67, 68, 69, 101, 102, 103, 104, 105, 106, 107] rfl (by decide +kernel)
set_option maxRecDepth 20000 in
theorem gX6_takeToken_X6_takePick : GoodIn wsX6_takeToken (wsV RX6 74 RX6 yX6_takePick wsX6_takePick) := goodIn_app (goodIn_r _ [88, 89, 90, 60] rfl (by decide +kernel)) ggX6_takeToken_X6_takePick
set_option maxRecDepth 20000 in
theorem ggX6_takeToken_X7_isSemicolon : GoodIn wsX6_takeToken wsX7_isSemicolon := goodIn_r _ [95, 7, 108, 109] rfl (by decide +kernel)
set_option maxRecDepth 20000 in
theorem gX6_takeToken_X7_isSemicolon : GoodIn wsX6_takeToken (wsV RX6 77 RX7 yX7_isSemicolon wsX7_isSemicolon) := goodIn_app (goodIn_r _ [92, 93, 94, 5] rfl (by decide +kernel)) ggX6_takeToken_X7_isSemicolon
set_option maxRecDepth 20000 in
theorem ggX6_takeToken_X6_takeSemicolon : GoodIn wsX6_takeToken wsX6_takeSemicolon := goodIn_r _ [99, 100, 1, 64, 65, 66, 60, 67, 68, 69, 101, 102, 103, 104, 105, 106, 107] rfl (by decide +kernel)
set_option maxRecDepth 20000 in
theorem gX6_takeToken_X6_takeSemicolon : GoodIn wsX6_takeToken (wsV RX6 81 RX6 yX6_takeSemicolon wsX6_takeSemicolon) := goodIn_app (goodIn_r _ [96, 97, 98, 60] rfl (by decide +kernel)) ggX6_takeToken_X6_takeSemicolon
theorem dX6_takeToken_0 : decode cX6_takeToken 0 = .ok (.aload_n 0, 1) := by decide +kernel
theorem dX6_takeToken_1 : decode cX6_takeToken 1 = .ok (.getfield 31, 3) := by decide +kernel
theorem dX6_takeToken_4 : decode cX6_takeToken 4 = .ok (.tableswitch 70 0 2 #[28, 42, 56], 28) := by decide +kernel
theorem dX6_takeToken_32 : decode cX6_takeToken 32 = .ok (.aload_n 0, 1) := by decide +kernel
theorem dX6_takeToken_33 : decode cX6_takeToken 33 = .ok (.aload_n 1, 1) := by decide +kernel
theorem dX6_takeToken_34 : decode cX6_takeToken 34 = .ok (.iload_n 2, 1) := by decide +kernel
theorem dX6_takeToken_35 : decode cX6_takeToken 35 = .ok (.iload_n 3, 1) := by decide +kernel
theorem dX6_takeToken_36 : decode cX6_takeToken 36 = .ok (.invokevirtual 60, 3) := by decide +kernel
theorem dX6_takeToken_39 : decode cX6_takeToken 39 = .ok (.iload_n 2, 1) := by decide +kernel
theorem dX6_takeToken_40 : decode cX6_takeToken 40 = .ok (.invokevirtual 64, 3) := by decide +kernel
theorem dX6_takeToken_43 : decode cX6_takeToken 43 = .ok (.goto 41, 3) := by decide +kernel
theorem dX6_takeToken_46 : decode cX6_takeToken 46 = .ok (.aload_n 0, 1) := by decide +kernel
theorem dX6_takeToken_47 : decode cX6_takeToken 47 = .ok (.aload_n 1, 1) := by decide +kernel
theorem dX6_takeToken_48 : decode cX6_takeToken 48 = .ok (.iload_n 2, 1) := by decide +kernel
theorem dX6_takeToken_49 : decode cX6_takeToken 49 = .ok (.iload_n 3, 1) := by decide +kernel
theorem dX6_takeToken_50 : decode cX6_takeToken 50 = .ok (.invokevirtual 68, 3) := by decide +kernel
theorem dX6_takeToken_53 : decode cX6_takeToken 53 = .ok (.iload_n 2, 1) := by decide +kernel
theorem dX6_takeToken_54 : decode cX6_takeToken 54 = .ok (.invokevirtual 71, 3) := by decide +kernel
theorem dX6_takeToken_57 : decode cX6_takeToken 57 = .ok (.goto 27, 3) := by decide +kernel
theorem dX6_takeToken_60 : decode cX6_takeToken 60 = .ok (.aload_n 0, 1) := by decide +kernel
theorem dX6_takeToken_61 : decode cX6_takeToken 61 = .ok (.aload_n 1, 1) := by decide +kernel
theorem dX6_takeToken_62 : decode cX6_takeToken 62 = .ok (.iload_n 2, 1) := by decide +kernel
theorem dX6_takeToken_63 : decode cX6_takeToken 63 = .ok (.iload_n 3, 1) := by decide +kernel
theorem dX6_takeToken_64 : decode cX6_takeToken 64 = .ok (.invokevirtual 60, 3) := by decide +kernel
theorem dX6_takeToken_67 : decode cX6_takeToken 67 = .ok (.iload_n 2, 1) := by decide +kernel
theorem dX6_takeToken_68 : decode cX6_takeToken 68 = .ok (.invokevirtual 74, 3) := by decide +kernel
theorem dX6_takeToken_71 : decode cX6_takeToken 71 = .ok (.goto 13, 3) := by decide +kernel
theorem dX6_takeToken_74 : decode cX6_takeToken 74 = .ok (.aload_n 0, 1) := by decide +kernel
theorem dX6_takeToken_75 : decode cX6_takeToken 75 = .ok (.aload_n 1, 1) := by decide +kernel
theorem dX6_takeToken_76 : decode cX6_takeToken 76 = .ok (.iload_n 2, 1) := by decide +kernel
theorem dX6_takeToken_77 : decode cX6_takeToken 77 = .ok (.invokevirtual 77, 3) := by decide +kernel
theorem dX6_takeToken_80 : decode cX6_takeToken 80 = .ok (.iload_n 2, 1) := by decide +kernel
theorem dX6_takeToken_81 : decode cX6_takeToken 81 = .ok (.invokevirtual 81, 3) := by decide +kernel
theorem dX6_takeToken_84 : decode cX6_takeToken 84 = .ok (.return_, 1) := by decide +kernel
set_option maxRecDepth 20000 in
theorem ggX6_takeLineWord_X6_blame : GoodIn wsX6_takeLineWord wsX6_blame := goodIn_r _ [8, 9, 10, 11, 12, 13, 14, 15, 16, 17] rfl (by decide +kernel)
set_option maxRecDepth 20000 in
theorem gX6_takeLineWord_X6_blame : GoodIn wsX6_takeLineWord (wsV RX6 85 RX6 yX6_blame wsX6_blame) := goodIn_app (goodIn_r _ [4, 5, 6, 7] rfl (by decide +kernel)) ggX6_takeLineWord_X6_blame
theorem dX6_takeLineWord_0 : decode cX6_takeLineWord 0 = .ok (.iload_n 1, 1) := by decide +kernel
theorem dX6_takeLineWord_1 : decode cX6_takeLineWord 1 = .ok (.ifCond .lt 9, 3) := by decide +kernel
theorem dX6_takeLineWord_4 : decode cX6_takeLineWord 4 = .ok (.iload_n 1, 1) := by decide +kernel
theorem dX6_takeLineWord_5 : decode cX6_takeLineWord 5 = .ok (.bipush 8, 2) := by decide +kernel
theorem dX6_takeLineWord_7 : decode cX6_takeLineWord 7 = .ok (.if_icmp .lt 12, 3) := by decide +kernel
theorem dX6_takeLineWord_10 : decode cX6_takeLineWord 10 = .ok (.aload_n 0, 1) := by decide +kernel
theorem dX6_takeLineWord_11 : decode cX6_takeLineWord 11 = .ok (.iconst 1, 1) := by decide +kernel
theorem dX6_takeLineWord_12 : decode cX6_takeLineWord 12 = .ok (.iload_n 2, 1) := by decide +kernel
theorem dX6_takeLineWord_13 : decode cX6_takeLineWord 13 = .ok (.invokevirtual 85, 3) := by decide +kernel
theorem dX6_takeLineWord_16 : decode cX6_takeLineWord 16 = .ok (.goto 55, 3) := by decide +kernel
theorem dX6_takeLineWord_19 : decode cX6_takeLineWord 19 = .ok (.aload_n 0, 1) := by decide +kernel
theorem dX6_takeLineWord_20 : decode cX6_takeLineWord 20 = .ok (.getfield 34, 3) := by decide +kernel
theorem dX6_takeLineWord_23 : decode cX6_takeLineWord 23 = .ok (.iload_n 1, 1) := by decide +kernel
theorem dX6_takeLineWord_24 : decode cX6_takeLineWord 24 = .ok (.iushr, 1) := by decide +kernel
theorem dX6_takeLineWord_25 : decode cX6_takeLineWord 25 = .ok (.iconst 1, 1) := by decide +kernel
theorem dX6_takeLineWord_26 : decode cX6_takeLineWord 26 = .ok (.iand, 1) := by decide +kernel
theorem dX6_takeLineWord_27 : decode cX6_takeLineWord 27 = .ok (.ifCond .eq 12, 3) := by decide +kernel
theorem dX6_takeLineWord_30 : decode cX6_takeLineWord 30 = .ok (.aload_n 0, 1) := by decide +kernel
theorem dX6_takeLineWord_31 : decode cX6_takeLineWord 31 = .ok (.iconst 3, 1) := by decide +kernel
theorem dX6_takeLineWord_32 : decode cX6_takeLineWord 32 = .ok (.iload_n 2, 1) := by decide +kernel
theorem dX6_takeLineWord_33 : decode cX6_takeLineWord 33 = .ok (.invokevirtual 85, 3) := by decide +kernel
theorem dX6_takeLineWord_36 : decode cX6_takeLineWord 36 = .ok (.goto 35, 3) := by decide +kernel
theorem dX6_takeLineWord_39 : decode cX6_takeLineWord 39 = .ok (.aload_n 0, 1) := by decide +kernel
theorem dX6_takeLineWord_40 : decode cX6_takeLineWord 40 = .ok (.dup, 1) := by decide +kernel
theorem dX6_takeLineWord_41 : decode cX6_takeLineWord 41 = .ok (.getfield 34, 3) := by decide +kernel
theorem dX6_takeLineWord_44 : decode cX6_takeLineWord 44 = .ok (.iconst 1, 1) := by decide +kernel
theorem dX6_takeLineWord_45 : decode cX6_takeLineWord 45 = .ok (.iload_n 1, 1) := by decide +kernel
theorem dX6_takeLineWord_46 : decode cX6_takeLineWord 46 = .ok (.ishl, 1) := by decide +kernel
theorem dX6_takeLineWord_47 : decode cX6_takeLineWord 47 = .ok (.ior, 1) := by decide +kernel
theorem dX6_takeLineWord_48 : decode cX6_takeLineWord 48 = .ok (.putfield 34, 3) := by decide +kernel
theorem dX6_takeLineWord_51 : decode cX6_takeLineWord 51 = .ok (.aload_n 0, 1) := by decide +kernel
theorem dX6_takeLineWord_52 : decode cX6_takeLineWord 52 = .ok (.iload_n 1, 1) := by decide +kernel
theorem dX6_takeLineWord_53 : decode cX6_takeLineWord 53 = .ok (.putfield 88, 3) := by decide +kernel
theorem dX6_takeLineWord_56 : decode cX6_takeLineWord 56 = .ok (.aload_n 0, 1) := by decide +kernel
theorem dX6_takeLineWord_57 : decode cX6_takeLineWord 57 = .ok (.iload_n 1, 1) := by decide +kernel
theorem dX6_takeLineWord_58 : decode cX6_takeLineWord 58 = .ok (.bipush 7, 2) := by decide +kernel
theorem dX6_takeLineWord_60 : decode cX6_takeLineWord 60 = .ok (.if_icmp .ne 7, 3) := by decide +kernel
theorem dX6_takeLineWord_63 : decode cX6_takeLineWord 63 = .ok (.iconst 2, 1) := by decide +kernel
theorem dX6_takeLineWord_64 : decode cX6_takeLineWord 64 = .ok (.goto 4, 3) := by decide +kernel
theorem dX6_takeLineWord_67 : decode cX6_takeLineWord 67 = .ok (.iconst 1, 1) := by decide +kernel
theorem dX6_takeLineWord_68 : decode cX6_takeLineWord 68 = .ok (.putfield 31, 3) := by decide +kernel
theorem dX6_takeLineWord_71 : decode cX6_takeLineWord 71 = .ok (.return_, 1) := by decide +kernel
set_option maxRecDepth 20000 in
theorem ggX6_takeNumber_X6_blame : GoodIn wsX6_takeNumber wsX6_blame := goodIn_r _ [8, 9, 10, 16, 17, 18, 19, 20, 21, 22] rfl (by decide +kernel)
set_option maxRecDepth 20000 in
theorem gX6_takeNumber_X6_blame : GoodIn wsX6_takeNumber (wsV RX6 85 RX6 yX6_blame wsX6_blame) := goodIn_app (goodIn_r _ [4, 5, 6, 7] rfl (by decide +kernel)) ggX6_takeNumber_X6_blame
set_option maxRecDepth 20000 in
theorem ggX6_takeNumber_X8_isWithinBounds : GoodIn wsX6_takeNumber wsX8_isWithinBounds := goodIn_r _ [13, 14, 15] rfl (by decide +kernel)
set_option maxRecDepth 20000 in
theorem gX6_takeNumber_X8_isWithinBounds_n91 : GoodIn wsX6_takeNumber (wsX8_isWithinBounds) := ggX6_takeNumber_X8_isWithinBounds
theorem dX6_takeNumber_0 : decode cX6_takeNumber 0 = .ok (.iload_n 1, 1) := by decide +kernel
theorem dX6_takeNumber_1 : decode cX6_takeNumber 1 = .ok (.iconst (-1), 1) := by decide +kernel
theorem dX6_takeNumber_2 : decode cX6_takeNumber 2 = .ok (.if_icmp .ne 12, 3) := by decide +kernel
theorem dX6_takeNumber_5 : decode cX6_takeNumber 5 = .ok (.aload_n 0, 1) := by decide +kernel
theorem dX6_takeNumber_6 : decode cX6_takeNumber 6 = .ok (.iconst 1, 1) := by decide +kernel
theorem dX6_takeNumber_7 : decode cX6_takeNumber 7 = .ok (.iload_n 2, 1) := by decide +kernel
theorem dX6_takeNumber_8 : decode cX6_takeNumber 8 = .ok (.invokevirtual 85, 3) := by decide +kernel
theorem dX6_takeNumber_11 : decode cX6_takeNumber 11 = .ok (.goto 38, 3) := by decide +kernel
theorem dX6_takeNumber_14 : decode cX6_takeNumber 14 = .ok (.aload_n 0, 1) := by decide +kernel
theorem dX6_takeNumber_15 : decode cX6_takeNumber 15 = .ok (.getfield 88, 3) := by decide +kernel
theorem dX6_takeNumber_18 : decode cX6_takeNumber 18 = .ok (.iload_n 1, 1) := by decide +kernel
theorem dX6_takeNumber_19 : decode cX6_takeNumber 19 = .ok (.invokestatic 91, 3) := by decide +kernel
theorem dX6_takeNumber_22 : decode cX6_takeNumber 22 = .ok (.ifCond .ne 12, 3) := by decide +kernel
theorem dX6_takeNumber_25 : decode cX6_takeNumber 25 = .ok (.aload_n 0, 1) := by decide +kernel
theorem dX6_takeNumber_26 : decode cX6_takeNumber 26 = .ok (.iconst 2, 1) := by decide +kernel
theorem dX6_takeNumber_27 : decode cX6_takeNumber 27 = .ok (.iload_n 2, 1) := by decide +kernel
theorem dX6_takeNumber_28 : decode cX6_takeNumber 28 = .ok (.invokevirtual 85, 3) := by decide +kernel
theorem dX6_takeNumber_31 : decode cX6_takeNumber 31 = .ok (.goto 18, 3) := by decide +kernel
theorem dX6_takeNumber_34 : decode cX6_takeNumber 34 = .ok (.aload_n 0, 1) := by decide +kernel
theorem dX6_takeNumber_35 : decode cX6_takeNumber 35 = .ok (.getfield 9, 3) := by decide +kernel
theorem dX6_takeNumber_38 : decode cX6_takeNumber 38 = .ok (.aload_n 0, 1) := by decide +kernel
theorem dX6_takeNumber_39 : decode cX6_takeNumber 39 = .ok (.getfield 88, 3) := by decide +kernel
theorem dX6_takeNumber_42 : decode cX6_takeNumber 42 = .ok (.iload_n 1, 1) := by decide +kernel
theorem dX6_takeNumber_43 : decode cX6_takeNumber 43 = .ok (.iastore, 1) := by decide +kernel
theorem dX6_takeNumber_44 : decode cX6_takeNumber 44 = .ok (.aload_n 0, 1) := by decide +kernel
theorem dX6_takeNumber_45 : decode cX6_takeNumber 45 = .ok (.iconst 3, 1) := by decide +kernel
theorem dX6_takeNumber_46 : decode cX6_takeNumber 46 = .ok (.putfield 31, 3) := by decide +kernel
theorem dX6_takeNumber_49 : decode cX6_takeNumber 49 = .ok (.return_, 1) := by decide +kernel
set_option maxRecDepth 20000 in
theorem ggX6_takePick_X6_blame : GoodIn wsX6_takePick wsX6_blame := goodIn_r _ [7, 8, 9, 10, 11, 12, 13, 14, 15, 16] rfl (by decide +kernel)
set_option maxRecDepth 20000 in
theorem gX6_takePick_X6_blame : GoodIn wsX6_takePick (wsV RX6 85 RX6 yX6_blame wsX6_blame) := goodIn_app (goodIn_r _ [3, 4, 5, 6] rfl (by decide +kernel)) ggX6_takePick_X6_blame
theorem dX6_takePick_0 : decode cX6_takePick 0 = .ok (.iload_n 1, 1) := by decide +kernel
theorem dX6_takePick_1 : decode cX6_takePick 1 = .ok (.bipush 8, 2) := by decide +kernel
theorem dX6_takePick_3 : decode cX6_takePick 3 = .ok (.if_icmp .ge 12, 3) := by decide +kernel
theorem dX6_takePick_6 : decode cX6_takePick 6 = .ok (.aload_n 0, 1) := by decide +kernel
theorem dX6_takePick_7 : decode cX6_takePick 7 = .ok (.iconst 1, 1) := by decide +kernel
theorem dX6_takePick_8 : decode cX6_takePick 8 = .ok (.iload_n 2, 1) := by decide +kernel
theorem dX6_takePick_9 : decode cX6_takePick 9 = .ok (.invokevirtual 85, 3) := by decide +kernel
theorem dX6_takePick_12 : decode cX6_takePick 12 = .ok (.goto 19, 3) := by decide +kernel
theorem dX6_takePick_15 : decode cX6_takePick 15 = .ok (.aload_n 0, 1) := by decide +kernel
theorem dX6_takePick_16 : decode cX6_takePick 16 = .ok (.getfield 9, 3) := by decide +kernel
theorem dX6_takePick_19 : decode cX6_takePick 19 = .ok (.bipush 7, 2) := by decide +kernel
theorem dX6_takePick_21 : decode cX6_takePick 21 = .ok (.iload_n 1, 1) := by decide +kernel
theorem dX6_takePick_22 : decode cX6_takePick 22 = .ok (.bipush 8, 2) := by decide +kernel
theorem dX6_takePick_24 : decode cX6_takePick 24 = .ok (.isub, 1) := by decide +kernel
theorem dX6_takePick_25 : decode cX6_takePick 25 = .ok (.iastore, 1) := by decide +kernel
theorem dX6_takePick_26 : decode cX6_takePick 26 = .ok (.aload_n 0, 1) := by decide +kernel
theorem dX6_takePick_27 : decode cX6_takePick 27 = .ok (.iconst 3, 1) := by decide +kernel
theorem dX6_takePick_28 : decode cX6_takePick 28 = .ok (.putfield 31, 3) := by decide +kernel
theorem dX6_takePick_31 : decode cX6_takePick 31 = .ok (.return_, 1) := by decide +kernel
set_option maxRecDepth 20000 in
theorem ggX6_takeSemicolon_X6_blame : GoodIn wsX6_takeSemicolon wsX6_blame := goodIn_r _ [7, 8, 9, 10, 11, 12, 13, 14, 15, 16] rfl (by decide +kernel)
set_option maxRecDepth 20000 in
theorem gX6_takeSemicolon_X6_blame : GoodIn wsX6_takeSemicolon (wsV RX6 85 RX6 yX6_blame wsX6_blame) := goodIn_app (goodIn_r _ [3, 4, 5, 6] rfl (by decide +kernel)) ggX6_takeSemicolon_X6_blame
theorem dX6_takeSemicolon_0 : decode cX6_takeSemicolon 0 = .ok (.iload_n 1, 1) := by decide +kernel
theorem dX6_takeSemicolon_1 : decode cX6_takeSemicolon 1 = .ok (.ifCond .eq 21, 3) := by decide +kernel
theorem dX6_takeSemicolon_4 : decode cX6_takeSemicolon 4 = .ok (.aload_n 0, 1) := by decide +kernel
theorem dX6_takeSemicolon_5 : decode cX6_takeSemicolon 5 = .ok (.dup, 1) := by decide +kernel
theorem dX6_takeSemicolon_6 : decode cX6_takeSemicolon 6 = .ok (.getfield 37, 3) := by decide +kernel
theorem dX6_takeSemicolon_9 : decode cX6_takeSemicolon 9 = .ok (.iconst 1, 1) := by decide +kernel
theorem dX6_takeSemicolon_10 : decode cX6_takeSemicolon 10 = .ok (.iadd, 1) := by decide +kernel
theorem dX6_takeSemicolon_11 : decode cX6_takeSemicolon 11 = .ok (.putfield 37, 3) := by decide +kernel
theorem dX6_takeSemicolon_14 : decode cX6_takeSemicolon 14 = .ok (.aload_n 0, 1) := by decide +kernel
theorem dX6_takeSemicolon_15 : decode cX6_takeSemicolon 15 = .ok (.iconst 0, 1) := by decide +kernel
theorem dX6_takeSemicolon_16 : decode cX6_takeSemicolon 16 = .ok (.putfield 31, 3) := by decide +kernel
theorem dX6_takeSemicolon_19 : decode cX6_takeSemicolon 19 = .ok (.goto 9, 3) := by decide +kernel
theorem dX6_takeSemicolon_22 : decode cX6_takeSemicolon 22 = .ok (.aload_n 0, 1) := by decide +kernel
theorem dX6_takeSemicolon_23 : decode cX6_takeSemicolon 23 = .ok (.iconst 1, 1) := by decide +kernel
theorem dX6_takeSemicolon_24 : decode cX6_takeSemicolon 24 = .ok (.iload_n 2, 1) := by decide +kernel
theorem dX6_takeSemicolon_25 : decode cX6_takeSemicolon 25 = .ok (.invokevirtual 85, 3) := by decide +kernel
theorem dX6_takeSemicolon_28 : decode cX6_takeSemicolon 28 = .ok (.return_, 1) := by decide +kernel
set_option maxRecDepth 20000 in
theorem ggX6_takeEnd_X6_blame : GoodIn wsX6_takeEnd wsX6_blame := goodIn_r _ [7, 8, 9, 10, 11, 12, 13, 14, 15, 16] rfl (by decide +kernel)
set_option maxRecDepth 20000 in
theorem gX6_takeEnd_X6_blame : GoodIn wsX6_takeEnd (wsV RX6 85 RX6 yX6_blame wsX6_blame) := goodIn_app (goodIn_r _ [3, 4, 5, 6] rfl (by decide +kernel)) ggX6_takeEnd_X6_blame
theorem dX6_takeEnd_0 : decode cX6_takeEnd 0 = .ok (.aload_n 0, 1) := by decide +kernel
theorem dX6_takeEnd_1 : decode cX6_takeEnd 1 = .ok (.getfield 31, 3) := by decide +kernel
theorem dX6_takeEnd_4 : decode cX6_takeEnd 4 = .ok (.ifCond .eq 12, 3) := by decide +kernel
theorem dX6_takeEnd_7 : decode cX6_takeEnd 7 = .ok (.aload_n 0, 1) := by decide +kernel
theorem dX6_takeEnd_8 : decode cX6_takeEnd 8 = .ok (.iconst 1, 1) := by decide +kernel
theorem dX6_takeEnd_9 : decode cX6_takeEnd 9 = .ok (.iload_n 1, 1) := by decide +kernel
theorem dX6_takeEnd_10 : decode cX6_takeEnd 10 = .ok (.invokevirtual 85, 3) := by decide +kernel
theorem dX6_takeEnd_13 : decode cX6_takeEnd 13 = .ok (.goto 24, 3) := by decide +kernel
theorem dX6_takeEnd_16 : decode cX6_takeEnd 16 = .ok (.aload_n 0, 1) := by decide +kernel
theorem dX6_takeEnd_17 : decode cX6_takeEnd 17 = .ok (.getfield 9, 3) := by decide +kernel
theorem dX6_takeEnd_20 : decode cX6_takeEnd 20 = .ok (.iconst 1, 1) := by decide +kernel
theorem dX6_takeEnd_21 : decode cX6_takeEnd 21 = .ok (.iaload, 1) := by decide +kernel
theorem dX6_takeEnd_22 : decode cX6_takeEnd 22 = .ok (.aload_n 0, 1) := by decide +kernel
theorem dX6_takeEnd_23 : decode cX6_takeEnd 23 = .ok (.getfield 9, 3) := by decide +kernel
theorem dX6_takeEnd_26 : decode cX6_takeEnd 26 = .ok (.iconst 0, 1) := by decide +kernel
theorem dX6_takeEnd_27 : decode cX6_takeEnd 27 = .ok (.iaload, 1) := by decide +kernel
theorem dX6_takeEnd_28 : decode cX6_takeEnd 28 = .ok (.if_icmp .lt 9, 3) := by decide +kernel
theorem dX6_takeEnd_31 : decode cX6_takeEnd 31 = .ok (.aload_n 0, 1) := by decide +kernel
theorem dX6_takeEnd_32 : decode cX6_takeEnd 32 = .ok (.iconst 4, 1) := by decide +kernel
theorem dX6_takeEnd_33 : decode cX6_takeEnd 33 = .ok (.iload_n 1, 1) := by decide +kernel
theorem dX6_takeEnd_34 : decode cX6_takeEnd 34 = .ok (.invokevirtual 85, 3) := by decide +kernel
theorem dX6_takeEnd_37 : decode cX6_takeEnd 37 = .ok (.return_, 1) := by decide +kernel
theorem dX6_blame_0 : decode cX6_blame 0 = .ok (.aload_n 0, 1) := by decide +kernel
theorem dX6_blame_1 : decode cX6_blame 1 = .ok (.iload_n 1, 1) := by decide +kernel
theorem dX6_blame_2 : decode cX6_blame 2 = .ok (.putfield 15, 3) := by decide +kernel
theorem dX6_blame_5 : decode cX6_blame 5 = .ok (.aload_n 0, 1) := by decide +kernel
theorem dX6_blame_6 : decode cX6_blame 6 = .ok (.iload_n 2, 1) := by decide +kernel
theorem dX6_blame_7 : decode cX6_blame 7 = .ok (.putfield 19, 3) := by decide +kernel
theorem dX6_blame_10 : decode cX6_blame 10 = .ok (.return_, 1) := by decide +kernel
theorem dX7_init_0 : decode cX7_init 0 = .ok (.aload_n 0, 1) := by decide +kernel
theorem dX7_init_1 : decode cX7_init 1 = .ok (.invokespecial 3, 3) := by decide +kernel
theorem dX7_init_4 : decode cX7_init 4 = .ok (.aload_n 0, 1) := by decide +kernel
theorem dX7_init_5 : decode cX7_init 5 = .ok (.sipush 600, 3) := by decide +kernel
theorem dX7_init_8 : decode cX7_init 8 = .ok (.newarray .byte, 2) := by decide +kernel
theorem dX7_init_10 : decode cX7_init 10 = .ok (.putfield 11, 3) := by decide +kernel
theorem dX7_init_13 : decode cX7_init 13 = .ok (.aload_n 0, 1) := by decide +kernel
theorem dX7_init_14 : decode cX7_init 14 = .ok (.iconst 0, 1) := by decide +kernel
theorem dX7_init_15 : decode cX7_init 15 = .ok (.putfield 15, 3) := by decide +kernel
theorem dX7_init_18 : decode cX7_init 18 = .ok (.return_, 1) := by decide +kernel
theorem dX7_append_0 : decode cX7_append 0 = .ok (.bipush 24, 2) := by decide +kernel
theorem dX7_append_2 : decode cX7_append 2 = .ok (.istore_n 2, 1) := by decide +kernel
theorem dX7_append_3 : decode cX7_append 3 = .ok (.iload_n 2, 1) := by decide +kernel
theorem dX7_append_4 : decode cX7_append 4 = .ok (.ifCond .lt 42, 3) := by decide +kernel
theorem dX7_append_7 : decode cX7_append 7 = .ok (.aload_n 0, 1) := by decide +kernel
theorem dX7_append_8 : decode cX7_append 8 = .ok (.getfield 15, 3) := by decide +kernel
theorem dX7_append_11 : decode cX7_append 11 = .ok (.sipush 600, 3) := by decide +kernel
theorem dX7_append_14 : decode cX7_append 14 = .ok (.if_icmp .ge 32, 3) := by decide +kernel
theorem dX7_append_17 : decode cX7_append 17 = .ok (.aload_n 0, 1) := by decide +kernel
theorem dX7_append_18 : decode cX7_append 18 = .ok (.getfield 11, 3) := by decide +kernel
theorem dX7_append_21 : decode cX7_append 21 = .ok (.aload_n 0, 1) := by decide +kernel
theorem dX7_append_22 : decode cX7_append 22 = .ok (.getfield 15, 3) := by decide +kernel
theorem dX7_append_25 : decode cX7_append 25 = .ok (.iload_n 1, 1) := by decide +kernel
theorem dX7_append_26 : decode cX7_append 26 = .ok (.iload_n 2, 1) := by decide +kernel
theorem dX7_append_27 : decode cX7_append 27 = .ok (.iushr, 1) := by decide +kernel
theorem dX7_append_28 : decode cX7_append 28 = .ok (.i2b, 1) := by decide +kernel
theorem dX7_append_29 : decode cX7_append 29 = .ok (.bastore, 1) := by decide +kernel
theorem dX7_append_30 : decode cX7_append 30 = .ok (.aload_n 0, 1) := by decide +kernel
theorem dX7_append_31 : decode cX7_append 31 = .ok (.dup, 1) := by decide +kernel
theorem dX7_append_32 : decode cX7_append 32 = .ok (.getfield 15, 3) := by decide +kernel
theorem dX7_append_35 : decode cX7_append 35 = .ok (.iconst 1, 1) := by decide +kernel
theorem dX7_append_36 : decode cX7_append 36 = .ok (.iadd, 1) := by decide +kernel
theorem dX7_append_37 : decode cX7_append 37 = .ok (.putfield 15, 3) := by decide +kernel
theorem dX7_append_40 : decode cX7_append 40 = .ok (.iinc 2 (-8), 3) := by decide +kernel
theorem dX7_append_43 : decode cX7_append 43 = .ok (.goto (-40), 3) := by decide +kernel
theorem dX7_append_46 : decode cX7_append 46 = .ok (.return_, 1) := by decide +kernel
theorem dX7_pastBlanks_0 : decode cX7_pastBlanks 0 = .ok (.iload_n 1, 1) := by decide +kernel
theorem dX7_pastBlanks_1 : decode cX7_pastBlanks 1 = .ok (.istore_n 2, 1) := by decide +kernel
theorem dX7_pastBlanks_2 : decode cX7_pastBlanks 2 = .ok (.iload_n 2, 1) := by decide +kernel
theorem dX7_pastBlanks_3 : decode cX7_pastBlanks 3 = .ok (.aload_n 0, 1) := by decide +kernel
theorem dX7_pastBlanks_4 : decode cX7_pastBlanks 4 = .ok (.getfield 15, 3) := by decide +kernel
theorem dX7_pastBlanks_7 : decode cX7_pastBlanks 7 = .ok (.if_icmp .ge 31, 3) := by decide +kernel
theorem dX7_pastBlanks_10 : decode cX7_pastBlanks 10 = .ok (.aload_n 0, 1) := by decide +kernel
theorem dX7_pastBlanks_11 : decode cX7_pastBlanks 11 = .ok (.getfield 11, 3) := by decide +kernel
theorem dX7_pastBlanks_14 : decode cX7_pastBlanks 14 = .ok (.iload_n 2, 1) := by decide +kernel
theorem dX7_pastBlanks_15 : decode cX7_pastBlanks 15 = .ok (.baload, 1) := by decide +kernel
theorem dX7_pastBlanks_16 : decode cX7_pastBlanks 16 = .ok (.bipush 32, 2) := by decide +kernel
theorem dX7_pastBlanks_18 : decode cX7_pastBlanks 18 = .ok (.if_icmp .eq 14, 3) := by decide +kernel
theorem dX7_pastBlanks_21 : decode cX7_pastBlanks 21 = .ok (.aload_n 0, 1) := by decide +kernel
theorem dX7_pastBlanks_22 : decode cX7_pastBlanks 22 = .ok (.getfield 11, 3) := by decide +kernel
theorem dX7_pastBlanks_25 : decode cX7_pastBlanks 25 = .ok (.iload_n 2, 1) := by decide +kernel
theorem dX7_pastBlanks_26 : decode cX7_pastBlanks 26 = .ok (.baload, 1) := by decide +kernel
theorem dX7_pastBlanks_27 : decode cX7_pastBlanks 27 = .ok (.bipush 10, 2) := by decide +kernel
theorem dX7_pastBlanks_29 : decode cX7_pastBlanks 29 = .ok (.if_icmp .ne 9, 3) := by decide +kernel
theorem dX7_pastBlanks_32 : decode cX7_pastBlanks 32 = .ok (.iinc 2 1, 3) := by decide +kernel
theorem dX7_pastBlanks_35 : decode cX7_pastBlanks 35 = .ok (.goto (-33), 3) := by decide +kernel
theorem dX7_pastBlanks_38 : decode cX7_pastBlanks 38 = .ok (.iload_n 2, 1) := by decide +kernel
theorem dX7_pastBlanks_39 : decode cX7_pastBlanks 39 = .ok (.ireturn, 1) := by decide +kernel
set_option maxRecDepth 20000 in
theorem ggX7_pastToken_X7_isLetter : GoodIn wsX7_pastToken wsX7_isLetter := goodIn_r _ [6, 7, 12, 13] rfl (by decide +kernel)
set_option maxRecDepth 20000 in
theorem gX7_pastToken_X7_isLetter : GoodIn wsX7_pastToken (wsV RX7 19 RX7 yX7_isLetter wsX7_isLetter) := goodIn_app (goodIn_r _ [2, 3, 4, 5] rfl (by decide +kernel)) ggX7_pastToken_X7_isLetter
set_option maxRecDepth 20000 in
theorem ggX7_pastToken_X7_isDigit : GoodIn wsX7_pastToken wsX7_isDigit := goodIn_r _ [11, 7, 12, 13] rfl (by decide +kernel)
set_option maxRecDepth 20000 in
theorem gX7_pastToken_X7_isDigit : GoodIn wsX7_pastToken (wsV RX7 23 RX7 yX7_isDigit wsX7_isDigit) := goodIn_app (goodIn_r _ [8, 9, 10, 5] rfl (by decide +kernel)) ggX7_pastToken_X7_isDigit
theorem dX7_pastToken_0 : decode cX7_pastToken 0 = .ok (.iload_n 1, 1) := by decide +kernel
theorem dX7_pastToken_1 : decode cX7_pastToken 1 = .ok (.iconst 1, 1) := by decide +kernel
theorem dX7_pastToken_2 : decode cX7_pastToken 2 = .ok (.iadd, 1) := by decide +kernel
theorem dX7_pastToken_3 : decode cX7_pastToken 3 = .ok (.istore_n 2, 1) := by decide +kernel
theorem dX7_pastToken_4 : decode cX7_pastToken 4 = .ok (.aload_n 0, 1) := by decide +kernel
theorem dX7_pastToken_5 : decode cX7_pastToken 5 = .ok (.iload_n 1, 1) := by decide +kernel
theorem dX7_pastToken_6 : decode cX7_pastToken 6 = .ok (.invokevirtual 19, 3) := by decide +kernel
theorem dX7_pastToken_9 : decode cX7_pastToken 9 = .ok (.ifCond .eq 25, 3) := by decide +kernel
theorem dX7_pastToken_12 : decode cX7_pastToken 12 = .ok (.iload_n 2, 1) := by decide +kernel
theorem dX7_pastToken_13 : decode cX7_pastToken 13 = .ok (.aload_n 0, 1) := by decide +kernel
theorem dX7_pastToken_14 : decode cX7_pastToken 14 = .ok (.getfield 15, 3) := by decide +kernel
theorem dX7_pastToken_17 : decode cX7_pastToken 17 = .ok (.if_icmp .ge 47, 3) := by decide +kernel
theorem dX7_pastToken_20 : decode cX7_pastToken 20 = .ok (.aload_n 0, 1) := by decide +kernel
theorem dX7_pastToken_21 : decode cX7_pastToken 21 = .ok (.iload_n 2, 1) := by decide +kernel
theorem dX7_pastToken_22 : decode cX7_pastToken 22 = .ok (.invokevirtual 19, 3) := by decide +kernel
theorem dX7_pastToken_25 : decode cX7_pastToken 25 = .ok (.ifCond .eq 39, 3) := by decide +kernel
theorem dX7_pastToken_28 : decode cX7_pastToken 28 = .ok (.iinc 2 1, 3) := by decide +kernel
theorem dX7_pastToken_31 : decode cX7_pastToken 31 = .ok (.goto (-19), 3) := by decide +kernel
theorem dX7_pastToken_34 : decode cX7_pastToken 34 = .ok (.aload_n 0, 1) := by decide +kernel
theorem dX7_pastToken_35 : decode cX7_pastToken 35 = .ok (.iload_n 1, 1) := by decide +kernel
theorem dX7_pastToken_36 : decode cX7_pastToken 36 = .ok (.invokevirtual 23, 3) := by decide +kernel
theorem dX7_pastToken_39 : decode cX7_pastToken 39 = .ok (.ifCond .eq 25, 3) := by decide +kernel
theorem dX7_pastToken_42 : decode cX7_pastToken 42 = .ok (.iload_n 2, 1) := by decide +kernel
theorem dX7_pastToken_43 : decode cX7_pastToken 43 = .ok (.aload_n 0, 1) := by decide +kernel
theorem dX7_pastToken_44 : decode cX7_pastToken 44 = .ok (.getfield 15, 3) := by decide +kernel
theorem dX7_pastToken_47 : decode cX7_pastToken 47 = .ok (.if_icmp .ge 17, 3) := by decide +kernel
theorem dX7_pastToken_50 : decode cX7_pastToken 50 = .ok (.aload_n 0, 1) := by decide +kernel
theorem dX7_pastToken_51 : decode cX7_pastToken 51 = .ok (.iload_n 2, 1) := by decide +kernel
theorem dX7_pastToken_52 : decode cX7_pastToken 52 = .ok (.invokevirtual 23, 3) := by decide +kernel
theorem dX7_pastToken_55 : decode cX7_pastToken 55 = .ok (.ifCond .eq 9, 3) := by decide +kernel
theorem dX7_pastToken_58 : decode cX7_pastToken 58 = .ok (.iinc 2 1, 3) := by decide +kernel
theorem dX7_pastToken_61 : decode cX7_pastToken 61 = .ok (.goto (-19), 3) := by decide +kernel
theorem dX7_pastToken_64 : decode cX7_pastToken 64 = .ok (.iload_n 2, 1) := by decide +kernel
theorem dX7_pastToken_65 : decode cX7_pastToken 65 = .ok (.ireturn, 1) := by decide +kernel
set_option maxRecDepth 20000 in
theorem ggX7_wordAt_J0_length_8abf5 : GoodIn wsX7_wordAt wsJ0_length_8abf5 := goodIn_r _ [6, 7, 8, 9, 10, 5, 11, 12, 13] rfl (by decide +kernel)
set_option maxRecDepth 20000 in
theorem gX7_wordAt_J0_length_8abf5 : GoodIn wsX7_wordAt (wsV RX7 28 RJ0 yJ0_length_8abf5 wsJ0_length_8abf5) := goodIn_app (goodIn_r _ [2, 3, 4, 5] rfl (by decide +kernel)) ggX7_wordAt_J0_length_8abf5
set_option maxRecDepth 20000 in
theorem ggX7_wordAt_J0_charAt_5068e : GoodIn wsX7_wordAt wsJ0_charAt_5068e := goodIn_r _ [17, 7, 18, 19, 20, 5, 21, 12, 13, 22, 23, 24, 25, 26, 27, 28, 29, 30, 31, 32, 33, 34, 35, 36, 37, 38, 39, 40, 41, 42, 43, 44, 45, 46, 47, 48, 49, 50] rfl (by decide +kernel)
set_option maxRecDepth 20000 in
theorem gX7_wordAt_J0_charAt_5068e : GoodIn wsX7_wordAt (wsV RX7 33 RJ0 yJ0_charAt_5068e wsJ0_charAt_5068e) := goodIn_app (goodIn_r _ [14, 15, 16, 5] rfl (by decide +kernel)) ggX7_wordAt_J0_charAt_5068e
theorem dX7_wordAt_0 : decode cX7_wordAt 0 = .ok (.iconst 0, 1) := by decide +kernel
theorem dX7_wordAt_1 : decode cX7_wordAt 1 = .ok (.istore_n 3, 1) := by decide +kernel
theorem dX7_wordAt_2 : decode cX7_wordAt 2 = .ok (.iload_n 1, 1) := by decide +kernel
theorem dX7_wordAt_3 : decode cX7_wordAt 3 = .ok (.istore 4, 2) := by decide +kernel
theorem dX7_wordAt_5 : decode cX7_wordAt 5 = .ok (.iconst 1, 1) := by decide +kernel
theorem dX7_wordAt_6 : decode cX7_wordAt 6 = .ok (.istore 5, 2) := by decide +kernel
theorem dX7_wordAt_8 : decode cX7_wordAt 8 = .ok (.iconst 0, 1) := by decide +kernel
theorem dX7_wordAt_9 : decode cX7_wordAt 9 = .ok (.istore 6, 2) := by decide +kernel
theorem dX7_wordAt_11 : decode cX7_wordAt 11 = .ok (.iload 6, 2) := by decide +kernel
theorem dX7_wordAt_13 : decode cX7_wordAt 13 = .ok (.ldc 26, 2) := by decide +kernel
theorem dX7_wordAt_15 : decode cX7_wordAt 15 = .ok (.invokevirtual 28, 3) := by decide +kernel
theorem dX7_wordAt_18 : decode cX7_wordAt 18 = .ok (.if_icmp .ge 83, 3) := by decide +kernel
theorem dX7_wordAt_21 : decode cX7_wordAt 21 = .ok (.ldc 26, 2) := by decide +kernel
theorem dX7_wordAt_23 : decode cX7_wordAt 23 = .ok (.iload 6, 2) := by decide +kernel
theorem dX7_wordAt_25 : decode cX7_wordAt 25 = .ok (.invokevirtual 33, 3) := by decide +kernel
theorem dX7_wordAt_28 : decode cX7_wordAt 28 = .ok (.istore 7, 2) := by decide +kernel
theorem dX7_wordAt_30 : decode cX7_wordAt 30 = .ok (.iload 7, 2) := by decide +kernel
theorem dX7_wordAt_32 : decode cX7_wordAt 32 = .ok (.bipush 32, 2) := by decide +kernel
theorem dX7_wordAt_34 : decode cX7_wordAt 34 = .ok (.if_icmp .eq 39, 3) := by decide +kernel
theorem dX7_wordAt_37 : decode cX7_wordAt 37 = .ok (.iload 5, 2) := by decide +kernel
theorem dX7_wordAt_39 : decode cX7_wordAt 39 = .ok (.ifCond .eq 25, 3) := by decide +kernel
theorem dX7_wordAt_42 : decode cX7_wordAt 42 = .ok (.iload 4, 2) := by decide +kernel
theorem dX7_wordAt_44 : decode cX7_wordAt 44 = .ok (.iload_n 2, 1) := by decide +kernel
theorem dX7_wordAt_45 : decode cX7_wordAt 45 = .ok (.if_icmp .ge 19, 3) := by decide +kernel
theorem dX7_wordAt_48 : decode cX7_wordAt 48 = .ok (.aload_n 0, 1) := by decide +kernel
theorem dX7_wordAt_49 : decode cX7_wordAt 49 = .ok (.getfield 11, 3) := by decide +kernel
theorem dX7_wordAt_52 : decode cX7_wordAt 52 = .ok (.iload 4, 2) := by decide +kernel
theorem dX7_wordAt_54 : decode cX7_wordAt 54 = .ok (.baload, 1) := by decide +kernel
theorem dX7_wordAt_55 : decode cX7_wordAt 55 = .ok (.iload 7, 2) := by decide +kernel
theorem dX7_wordAt_57 : decode cX7_wordAt 57 = .ok (.if_icmp .ne 7, 3) := by decide +kernel
theorem dX7_wordAt_60 : decode cX7_wordAt 60 = .ok (.iconst 1, 1) := by decide +kernel
theorem dX7_wordAt_61 : decode cX7_wordAt 61 = .ok (.goto 4, 3) := by decide +kernel
theorem dX7_wordAt_64 : decode cX7_wordAt 64 = .ok (.iconst 0, 1) := by decide +kernel
theorem dX7_wordAt_65 : decode cX7_wordAt 65 = .ok (.istore 5, 2) := by decide +kernel
theorem dX7_wordAt_67 : decode cX7_wordAt 67 = .ok (.iinc 4 1, 3) := by decide +kernel
theorem dX7_wordAt_70 : decode cX7_wordAt 70 = .ok (.goto 25, 3) := by decide +kernel
theorem dX7_wordAt_73 : decode cX7_wordAt 73 = .ok (.iload 5, 2) := by decide +kernel
theorem dX7_wordAt_75 : decode cX7_wordAt 75 = .ok (.ifCond .eq 11, 3) := by decide +kernel
theorem dX7_wordAt_78 : decode cX7_wordAt 78 = .ok (.iload 4, 2) := by decide +kernel
theorem dX7_wordAt_80 : decode cX7_wordAt 80 = .ok (.iload_n 2, 1) := by decide +kernel
theorem dX7_wordAt_81 : decode cX7_wordAt 81 = .ok (.if_icmp .ne 5, 3) := by decide +kernel
theorem dX7_wordAt_84 : decode cX7_wordAt 84 = .ok (.iload_n 3, 1) := by decide +kernel
theorem dX7_wordAt_85 : decode cX7_wordAt 85 = .ok (.ireturn, 1) := by decide +kernel
theorem dX7_wordAt_86 : decode cX7_wordAt 86 = .ok (.iinc 3 1, 3) := by decide +kernel
theorem dX7_wordAt_89 : decode cX7_wordAt 89 = .ok (.iload_n 1, 1) := by decide +kernel
theorem dX7_wordAt_90 : decode cX7_wordAt 90 = .ok (.istore 4, 2) := by decide +kernel
theorem dX7_wordAt_92 : decode cX7_wordAt 92 = .ok (.iconst 1, 1) := by decide +kernel
theorem dX7_wordAt_93 : decode cX7_wordAt 93 = .ok (.istore 5, 2) := by decide +kernel
theorem dX7_wordAt_95 : decode cX7_wordAt 95 = .ok (.iinc 6 1, 3) := by decide +kernel
theorem dX7_wordAt_98 : decode cX7_wordAt 98 = .ok (.goto (-87), 3) := by decide +kernel
theorem dX7_wordAt_101 : decode cX7_wordAt 101 = .ok (.iconst (-1), 1) := by decide +kernel
theorem dX7_wordAt_102 : decode cX7_wordAt 102 = .ok (.ireturn, 1) := by decide +kernel
set_option maxRecDepth 20000 in
theorem ggX7_numberAt_X7_isDigit : GoodIn wsX7_numberAt wsX7_isDigit := goodIn_r _ [6, 1, 7, 8] rfl (by decide +kernel)
set_option maxRecDepth 20000 in
theorem gX7_numberAt_X7_isDigit : GoodIn wsX7_numberAt (wsV RX7 23 RX7 yX7_isDigit wsX7_isDigit) := goodIn_app (goodIn_r _ [2, 3, 4, 5] rfl (by decide +kernel)) ggX7_numberAt_X7_isDigit
theorem dX7_numberAt_0 : decode cX7_numberAt 0 = .ok (.aload_n 0, 1) := by decide +kernel
theorem dX7_numberAt_1 : decode cX7_numberAt 1 = .ok (.iload_n 1, 1) := by decide +kernel
theorem dX7_numberAt_2 : decode cX7_numberAt 2 = .ok (.invokevirtual 23, 3) := by decide +kernel
theorem dX7_numberAt_5 : decode cX7_numberAt 5 = .ok (.ifCond .eq 10, 3) := by decide +kernel
theorem dX7_numberAt_8 : decode cX7_numberAt 8 = .ok (.iload_n 2, 1) := by decide +kernel
theorem dX7_numberAt_9 : decode cX7_numberAt 9 = .ok (.iload_n 1, 1) := by decide +kernel
theorem dX7_numberAt_10 : decode cX7_numberAt 10 = .ok (.isub, 1) := by decide +kernel
theorem dX7_numberAt_11 : decode cX7_numberAt 11 = .ok (.iconst 3, 1) := by decide +kernel
theorem dX7_numberAt_12 : decode cX7_numberAt 12 = .ok (.if_icmp .le 5, 3) := by decide +kernel
theorem dX7_numberAt_15 : decode cX7_numberAt 15 = .ok (.iconst (-1), 1) := by decide +kernel
theorem dX7_numberAt_16 : decode cX7_numberAt 16 = .ok (.ireturn, 1) := by decide +kernel
theorem dX7_numberAt_17 : decode cX7_numberAt 17 = .ok (.iconst 0, 1) := by decide +kernel
theorem dX7_numberAt_18 : decode cX7_numberAt 18 = .ok (.istore_n 3, 1) := by decide +kernel
theorem dX7_numberAt_19 : decode cX7_numberAt 19 = .ok (.iload_n 1, 1) := by decide +kernel
theorem dX7_numberAt_20 : decode cX7_numberAt 20 = .ok (.istore 4, 2) := by decide +kernel
theorem dX7_numberAt_22 : decode cX7_numberAt 22 = .ok (.iload 4, 2) := by decide +kernel
theorem dX7_numberAt_24 : decode cX7_numberAt 24 = .ok (.iload_n 2, 1) := by decide +kernel
theorem dX7_numberAt_25 : decode cX7_numberAt 25 = .ok (.if_icmp .ge 25, 3) := by decide +kernel
theorem dX7_numberAt_28 : decode cX7_numberAt 28 = .ok (.iload_n 3, 1) := by decide +kernel
theorem dX7_numberAt_29 : decode cX7_numberAt 29 = .ok (.bipush 10, 2) := by decide +kernel
theorem dX7_numberAt_31 : decode cX7_numberAt 31 = .ok (.imul, 1) := by decide +kernel
theorem dX7_numberAt_32 : decode cX7_numberAt 32 = .ok (.aload_n 0, 1) := by decide +kernel
theorem dX7_numberAt_33 : decode cX7_numberAt 33 = .ok (.getfield 11, 3) := by decide +kernel
theorem dX7_numberAt_36 : decode cX7_numberAt 36 = .ok (.iload 4, 2) := by decide +kernel
theorem dX7_numberAt_38 : decode cX7_numberAt 38 = .ok (.baload, 1) := by decide +kernel
theorem dX7_numberAt_39 : decode cX7_numberAt 39 = .ok (.iadd, 1) := by decide +kernel
theorem dX7_numberAt_40 : decode cX7_numberAt 40 = .ok (.bipush 48, 2) := by decide +kernel
theorem dX7_numberAt_42 : decode cX7_numberAt 42 = .ok (.isub, 1) := by decide +kernel
theorem dX7_numberAt_43 : decode cX7_numberAt 43 = .ok (.istore_n 3, 1) := by decide +kernel
theorem dX7_numberAt_44 : decode cX7_numberAt 44 = .ok (.iinc 4 1, 3) := by decide +kernel
theorem dX7_numberAt_47 : decode cX7_numberAt 47 = .ok (.goto (-25), 3) := by decide +kernel
theorem dX7_numberAt_50 : decode cX7_numberAt 50 = .ok (.iload_n 3, 1) := by decide +kernel
theorem dX7_numberAt_51 : decode cX7_numberAt 51 = .ok (.ireturn, 1) := by decide +kernel
theorem dX7_isSemicolon_0 : decode cX7_isSemicolon 0 = .ok (.aload_n 0, 1) := by decide +kernel
theorem dX7_isSemicolon_1 : decode cX7_isSemicolon 1 = .ok (.getfield 11, 3) := by decide +kernel
theorem dX7_isSemicolon_4 : decode cX7_isSemicolon 4 = .ok (.iload_n 1, 1) := by decide +kernel
theorem dX7_isSemicolon_5 : decode cX7_isSemicolon 5 = .ok (.baload, 1) := by decide +kernel
theorem dX7_isSemicolon_6 : decode cX7_isSemicolon 6 = .ok (.bipush 59, 2) := by decide +kernel
theorem dX7_isSemicolon_8 : decode cX7_isSemicolon 8 = .ok (.if_icmp .ne 7, 3) := by decide +kernel
theorem dX7_isSemicolon_11 : decode cX7_isSemicolon 11 = .ok (.iconst 1, 1) := by decide +kernel
theorem dX7_isSemicolon_12 : decode cX7_isSemicolon 12 = .ok (.goto 4, 3) := by decide +kernel
theorem dX7_isSemicolon_15 : decode cX7_isSemicolon 15 = .ok (.iconst 0, 1) := by decide +kernel
theorem dX7_isSemicolon_16 : decode cX7_isSemicolon 16 = .ok (.ireturn, 1) := by decide +kernel
theorem dX7_isLetter_0 : decode cX7_isLetter 0 = .ok (.aload_n 0, 1) := by decide +kernel
theorem dX7_isLetter_1 : decode cX7_isLetter 1 = .ok (.getfield 11, 3) := by decide +kernel
theorem dX7_isLetter_4 : decode cX7_isLetter 4 = .ok (.iload_n 1, 1) := by decide +kernel
theorem dX7_isLetter_5 : decode cX7_isLetter 5 = .ok (.baload, 1) := by decide +kernel
theorem dX7_isLetter_6 : decode cX7_isLetter 6 = .ok (.bipush 97, 2) := by decide +kernel
theorem dX7_isLetter_8 : decode cX7_isLetter 8 = .ok (.if_icmp .lt 18, 3) := by decide +kernel
theorem dX7_isLetter_11 : decode cX7_isLetter 11 = .ok (.aload_n 0, 1) := by decide +kernel
theorem dX7_isLetter_12 : decode cX7_isLetter 12 = .ok (.getfield 11, 3) := by decide +kernel
theorem dX7_isLetter_15 : decode cX7_isLetter 15 = .ok (.iload_n 1, 1) := by decide +kernel
theorem dX7_isLetter_16 : decode cX7_isLetter 16 = .ok (.baload, 1) := by decide +kernel
theorem dX7_isLetter_17 : decode cX7_isLetter 17 = .ok (.bipush 122, 2) := by decide +kernel
theorem dX7_isLetter_19 : decode cX7_isLetter 19 = .ok (.if_icmp .gt 7, 3) := by decide +kernel
theorem dX7_isLetter_22 : decode cX7_isLetter 22 = .ok (.iconst 1, 1) := by decide +kernel
theorem dX7_isLetter_23 : decode cX7_isLetter 23 = .ok (.goto 4, 3) := by decide +kernel
theorem dX7_isLetter_26 : decode cX7_isLetter 26 = .ok (.iconst 0, 1) := by decide +kernel
theorem dX7_isLetter_27 : decode cX7_isLetter 27 = .ok (.ireturn, 1) := by decide +kernel
theorem dX7_isDigit_0 : decode cX7_isDigit 0 = .ok (.aload_n 0, 1) := by decide +kernel
theorem dX7_isDigit_1 : decode cX7_isDigit 1 = .ok (.getfield 11, 3) := by decide +kernel
theorem dX7_isDigit_4 : decode cX7_isDigit 4 = .ok (.iload_n 1, 1) := by decide +kernel
theorem dX7_isDigit_5 : decode cX7_isDigit 5 = .ok (.baload, 1) := by decide +kernel
theorem dX7_isDigit_6 : decode cX7_isDigit 6 = .ok (.bipush 48, 2) := by decide +kernel
theorem dX7_isDigit_8 : decode cX7_isDigit 8 = .ok (.if_icmp .lt 18, 3) := by decide +kernel
theorem dX7_isDigit_11 : decode cX7_isDigit 11 = .ok (.aload_n 0, 1) := by decide +kernel
theorem dX7_isDigit_12 : decode cX7_isDigit 12 = .ok (.getfield 11, 3) := by decide +kernel
theorem dX7_isDigit_15 : decode cX7_isDigit 15 = .ok (.iload_n 1, 1) := by decide +kernel
theorem dX7_isDigit_16 : decode cX7_isDigit 16 = .ok (.baload, 1) := by decide +kernel
theorem dX7_isDigit_17 : decode cX7_isDigit 17 = .ok (.bipush 57, 2) := by decide +kernel
theorem dX7_isDigit_19 : decode cX7_isDigit 19 = .ok (.if_icmp .gt 7, 3) := by decide +kernel
theorem dX7_isDigit_22 : decode cX7_isDigit 22 = .ok (.iconst 1, 1) := by decide +kernel
theorem dX7_isDigit_23 : decode cX7_isDigit 23 = .ok (.goto 4, 3) := by decide +kernel
theorem dX7_isDigit_26 : decode cX7_isDigit 26 = .ok (.iconst 0, 1) := by decide +kernel
theorem dX7_isDigit_27 : decode cX7_isDigit 27 = .ok (.ireturn, 1) := by decide +kernel
set_option maxRecDepth 20000 in
theorem ggX8_init_X7_init : GoodIn wsX8_init wsX7_init := goodIn_r _ [35, 36, 2, 3, 37, 38, 39, 121, 122] rfl (by decide +kernel)
set_option maxRecDepth 20000 in
theorem gX8_init_X7_init_n9 : GoodIn wsX8_init (wsX7_init) := ggX8_init_X7_init
set_option maxRecDepth 20000 in
theorem ggX8_init_X6_init : GoodIn wsX8_init wsX6_init := goodIn_r _ [41, 42, 2, 3, 12, 43, 44, 45, 132, 133, 134, 135, 136, 137, 138] rfl (by decide +kernel)
set_option maxRecDepth 20000 in
theorem gX8_init_X6_init_n18 : GoodIn wsX8_init (wsX6_init) := ggX8_init_X6_init
set_option maxRecDepth 20000 in
theorem ggX8_init_X1_init : GoodIn wsX8_init wsX1_init := goodIn_r _ [47, 48, 2, 3, 49, 12, 50, 51, 52, 53, 54, 55, 56, 57, 58, 59, 60, 61, 62, 63, 64, 65, 66, 67, 68, 139, 140, 141, 142, 143, 144, 145, 146, 147, 148, 149, 150, 175] rfl (by decide +kernel)
set_option maxRecDepth 20000 in
theorem gX8_init_X1_init_n38 : GoodIn wsX8_init (wsX1_init) := ggX8_init_X1_init
set_option maxRecDepth 20000 in
theorem ggX8_init_X5_init : GoodIn wsX8_init wsX5_init := goodIn_r _ [70, 71, 2, 3, 72, 73, 74, 75, 151, 152, 153, 154] rfl (by decide +kernel)
set_option maxRecDepth 20000 in
theorem gX8_init_X5_init_n45 : GoodIn wsX8_init (wsX5_init) := ggX8_init_X5_init
set_option maxRecDepth 20000 in
theorem ggX8_init_X4_init : GoodIn wsX8_init wsX4_init := goodIn_r _ [78, 79, 2, 3, 12, 80, 81, 82, 83, 84, 85, 86, 87, 88, 62, 63, 89, 90, 91, 92, 93, 94, 95, 96, 97, 98, 99, 100, 101, 102, 103, 104, 105, 106, 107, 108, 109, 110, 111, 65, 66, 67, 58, 68, 112, 113, 114, 115, 116, 117, 118, 119, 120, 155, 156, 157, 158, 159, 160, 161, 162, 163, 164, 165, 166, 167, 168, 169, 170, 171, 172, 173, 174, 176, 177, 175, 178, 179, 180, 181, 182] rfl (by decide +kernel)
set_option maxRecDepth 20000 in
theorem gX8_init_X4_init : GoodIn wsX8_init (wsX4_init) := ggX8_init_X4_init
theorem dX8_init_0 : decode cX8_init 0 = .ok (.aload_n 0, 1) := by decide +kernel
theorem dX8_init_1 : decode cX8_init 1 = .ok (.invokespecial 1, 3) := by decide +kernel
theorem dX8_init_4 : decode cX8_init 4 = .ok (.aload_n 0, 1) := by decide +kernel
theorem dX8_init_5 : decode cX8_init 5 = .ok (.new 7, 3) := by decide +kernel
theorem dX8_init_8 : decode cX8_init 8 = .ok (.dup, 1) := by decide +kernel
theorem dX8_init_9 : decode cX8_init 9 = .ok (.invokespecial 9, 3) := by decide +kernel
theorem dX8_init_12 : decode cX8_init 12 = .ok (.putfield 10, 3) := by decide +kernel
theorem dX8_init_15 : decode cX8_init 15 = .ok (.aload_n 0, 1) := by decide +kernel
theorem dX8_init_16 : decode cX8_init 16 = .ok (.new 16, 3) := by decide +kernel
theorem dX8_init_19 : decode cX8_init 19 = .ok (.dup, 1) := by decide +kernel
theorem dX8_init_20 : decode cX8_init 20 = .ok (.invokespecial 18, 3) := by decide +kernel
theorem dX8_init_23 : decode cX8_init 23 = .ok (.putfield 19, 3) := by decide +kernel
theorem dX8_init_26 : decode cX8_init 26 = .ok (.aload_n 0, 1) := by decide +kernel
theorem dX8_init_27 : decode cX8_init 27 = .ok (.bipush 32, 2) := by decide +kernel
theorem dX8_init_29 : decode cX8_init 29 = .ok (.newarray .int, 2) := by decide +kernel
theorem dX8_init_31 : decode cX8_init 31 = .ok (.putfield 23, 3) := by decide +kernel
theorem dX8_init_34 : decode cX8_init 34 = .ok (.iconst 0, 1) := by decide +kernel
theorem dX8_init_35 : decode cX8_init 35 = .ok (.istore_n 1, 1) := by decide +kernel
theorem dX8_init_36 : decode cX8_init 36 = .ok (.iload_n 1, 1) := by decide +kernel
theorem dX8_init_37 : decode cX8_init 37 = .ok (.iconst 4, 1) := by decide +kernel
theorem dX8_init_38 : decode cX8_init 38 = .ok (.if_icmp .ge 26, 3) := by decide +kernel
theorem dX8_init_41 : decode cX8_init 41 = .ok (.getstatic 27, 3) := by decide +kernel
theorem dX8_init_44 : decode cX8_init 44 = .ok (.iconst 0, 1) := by decide +kernel
theorem dX8_init_45 : decode cX8_init 45 = .ok (.aload_n 0, 1) := by decide +kernel
theorem dX8_init_46 : decode cX8_init 46 = .ok (.getfield 23, 3) := by decide +kernel
theorem dX8_init_49 : decode cX8_init 49 = .ok (.iload_n 1, 1) := by decide +kernel
theorem dX8_init_50 : decode cX8_init 50 = .ok (.bipush 8, 2) := by decide +kernel
theorem dX8_init_52 : decode cX8_init 52 = .ok (.imul, 1) := by decide +kernel
theorem dX8_init_53 : decode cX8_init 53 = .ok (.bipush 8, 2) := by decide +kernel
theorem dX8_init_55 : decode cX8_init 55 = .ok (.invokestatic 30, 3) := by decide +kernel
theorem dX8_init_58 : decode cX8_init 58 = .ok (.iinc 1 1, 3) := by decide +kernel
theorem dX8_init_61 : decode cX8_init 61 = .ok (.goto (-25), 3) := by decide +kernel
theorem dX8_init_64 : decode cX8_init 64 = .ok (.aload_n 0, 1) := by decide +kernel
theorem dX8_init_65 : decode cX8_init 65 = .ok (.new 36, 3) := by decide +kernel
theorem dX8_init_68 : decode cX8_init 68 = .ok (.dup, 1) := by decide +kernel
theorem dX8_init_69 : decode cX8_init 69 = .ok (.invokespecial 38, 3) := by decide +kernel
theorem dX8_init_72 : decode cX8_init 72 = .ok (.putfield 39, 3) := by decide +kernel
theorem dX8_init_75 : decode cX8_init 75 = .ok (.aload_n 0, 1) := by decide +kernel
theorem dX8_init_76 : decode cX8_init 76 = .ok (.new 43, 3) := by decide +kernel
theorem dX8_init_79 : decode cX8_init 79 = .ok (.dup, 1) := by decide +kernel
theorem dX8_init_80 : decode cX8_init 80 = .ok (.invokespecial 45, 3) := by decide +kernel
theorem dX8_init_83 : decode cX8_init 83 = .ok (.putfield 46, 3) := by decide +kernel
theorem dX8_init_86 : decode cX8_init 86 = .ok (.aload_n 0, 1) := by decide +kernel
theorem dX8_init_87 : decode cX8_init 87 = .ok (.new 50, 3) := by decide +kernel
theorem dX8_init_90 : decode cX8_init 90 = .ok (.dup, 1) := by decide +kernel
theorem dX8_init_91 : decode cX8_init 91 = .ok (.aload_n 0, 1) := by decide +kernel
theorem dX8_init_92 : decode cX8_init 92 = .ok (.getfield 39, 3) := by decide +kernel
theorem dX8_init_95 : decode cX8_init 95 = .ok (.invokespecial 52, 3) := by decide +kernel
theorem dX8_init_98 : decode cX8_init 98 = .ok (.putfield 55, 3) := by decide +kernel
theorem dX8_init_101 : decode cX8_init 101 = .ok (.aload_n 0, 1) := by decide +kernel
theorem dX8_init_102 : decode cX8_init 102 = .ok (.new 50, 3) := by decide +kernel
theorem dX8_init_105 : decode cX8_init 105 = .ok (.dup, 1) := by decide +kernel
theorem dX8_init_106 : decode cX8_init 106 = .ok (.aload_n 0, 1) := by decide +kernel
theorem dX8_init_107 : decode cX8_init 107 = .ok (.getfield 39, 3) := by decide +kernel
theorem dX8_init_110 : decode cX8_init 110 = .ok (.invokespecial 52, 3) := by decide +kernel
theorem dX8_init_113 : decode cX8_init 113 = .ok (.putfield 59, 3) := by decide +kernel
theorem dX8_init_116 : decode cX8_init 116 = .ok (.aload_n 0, 1) := by decide +kernel
theorem dX8_init_117 : decode cX8_init 117 = .ok (.new 50, 3) := by decide +kernel
theorem dX8_init_120 : decode cX8_init 120 = .ok (.dup, 1) := by decide +kernel
theorem dX8_init_121 : decode cX8_init 121 = .ok (.aload_n 0, 1) := by decide +kernel
theorem dX8_init_122 : decode cX8_init 122 = .ok (.getfield 39, 3) := by decide +kernel
theorem dX8_init_125 : decode cX8_init 125 = .ok (.invokespecial 52, 3) := by decide +kernel
theorem dX8_init_128 : decode cX8_init 128 = .ok (.putfield 62, 3) := by decide +kernel
theorem dX8_init_131 : decode cX8_init 131 = .ok (.aload_n 0, 1) := by decide +kernel
theorem dX8_init_132 : decode cX8_init 132 = .ok (.iconst (-1), 1) := by decide +kernel
theorem dX8_init_133 : decode cX8_init 133 = .ok (.putfield 65, 3) := by decide +kernel
theorem dX8_init_136 : decode cX8_init 136 = .ok (.return_, 1) := by decide +kernel
set_option maxRecDepth 20000 in
theorem ggX8_feed_X7_append : GoodIn wsX8_feed wsX7_append := goodIn_r _ [7, 8, 9, 19, 20] rfl (by decide +kernel)
set_option maxRecDepth 20000 in
theorem gX8_feed_X7_append : GoodIn wsX8_feed (wsV RX8 72 RX7 yX7_append wsX7_append) := goodIn_app (goodIn_r _ [3, 4, 5, 6] rfl (by decide +kernel)) ggX8_feed_X7_append
theorem dX8_feed_0 : decode cX8_feed 0 = .ok (.aload_n 0, 1) := by decide +kernel
theorem dX8_feed_1 : decode cX8_feed 1 = .ok (.getfield 10, 3) := by decide +kernel
theorem dX8_feed_4 : decode cX8_feed 4 = .ok (.getfield 69, 3) := by decide +kernel
theorem dX8_feed_7 : decode cX8_feed 7 = .ok (.bipush 20, 2) := by decide +kernel
theorem dX8_feed_9 : decode cX8_feed 9 = .ok (.iadd, 1) := by decide +kernel
theorem dX8_feed_10 : decode cX8_feed 10 = .ok (.sipush 600, 3) := by decide +kernel
theorem dX8_feed_13 : decode cX8_feed 13 = .ok (.if_icmp .le 6, 3) := by decide +kernel
theorem dX8_feed_16 : decode cX8_feed 16 = .ok (.bipush (-3), 2) := by decide +kernel
theorem dX8_feed_18 : decode cX8_feed 18 = .ok (.ireturn, 1) := by decide +kernel
theorem dX8_feed_19 : decode cX8_feed 19 = .ok (.aload_n 0, 1) := by decide +kernel
theorem dX8_feed_20 : decode cX8_feed 20 = .ok (.getfield 10, 3) := by decide +kernel
theorem dX8_feed_23 : decode cX8_feed 23 = .ok (.iload_n 1, 1) := by decide +kernel
theorem dX8_feed_24 : decode cX8_feed 24 = .ok (.invokevirtual 72, 3) := by decide +kernel
theorem dX8_feed_27 : decode cX8_feed 27 = .ok (.aload_n 0, 1) := by decide +kernel
theorem dX8_feed_28 : decode cX8_feed 28 = .ok (.getfield 10, 3) := by decide +kernel
theorem dX8_feed_31 : decode cX8_feed 31 = .ok (.iload_n 2, 1) := by decide +kernel
theorem dX8_feed_32 : decode cX8_feed 32 = .ok (.invokevirtual 72, 3) := by decide +kernel
theorem dX8_feed_35 : decode cX8_feed 35 = .ok (.aload_n 0, 1) := by decide +kernel
theorem dX8_feed_36 : decode cX8_feed 36 = .ok (.getfield 10, 3) := by decide +kernel
theorem dX8_feed_39 : decode cX8_feed 39 = .ok (.iload_n 3, 1) := by decide +kernel
theorem dX8_feed_40 : decode cX8_feed 40 = .ok (.invokevirtual 72, 3) := by decide +kernel
theorem dX8_feed_43 : decode cX8_feed 43 = .ok (.aload_n 0, 1) := by decide +kernel
theorem dX8_feed_44 : decode cX8_feed 44 = .ok (.getfield 10, 3) := by decide +kernel
theorem dX8_feed_47 : decode cX8_feed 47 = .ok (.iload 4, 2) := by decide +kernel
theorem dX8_feed_49 : decode cX8_feed 49 = .ok (.invokevirtual 72, 3) := by decide +kernel
theorem dX8_feed_52 : decode cX8_feed 52 = .ok (.aload_n 0, 1) := by decide +kernel
theorem dX8_feed_53 : decode cX8_feed 53 = .ok (.getfield 10, 3) := by decide +kernel
theorem dX8_feed_56 : decode cX8_feed 56 = .ok (.iload 5, 2) := by decide +kernel
theorem dX8_feed_58 : decode cX8_feed 58 = .ok (.invokevirtual 72, 3) := by decide +kernel
theorem dX8_feed_61 : decode cX8_feed 61 = .ok (.aload_n 0, 1) := by decide +kernel
theorem dX8_feed_62 : decode cX8_feed 62 = .ok (.getfield 10, 3) := by decide +kernel
theorem dX8_feed_65 : decode cX8_feed 65 = .ok (.getfield 69, 3) := by decide +kernel
theorem dX8_feed_68 : decode cX8_feed 68 = .ok (.ireturn, 1) := by decide +kernel
theorem dX8_end_0 : decode cX8_end 0 = .ok (.iload_n 1, 1) := by decide +kernel
theorem dX8_end_1 : decode cX8_end 1 = .ok (.ifCond .lt 14, 3) := by decide +kernel
theorem dX8_end_4 : decode cX8_end 4 = .ok (.iload_n 1, 1) := by decide +kernel
theorem dX8_end_5 : decode cX8_end 5 = .ok (.aload_n 0, 1) := by decide +kernel
theorem dX8_end_6 : decode cX8_end 6 = .ok (.getfield 10, 3) := by decide +kernel
theorem dX8_end_9 : decode cX8_end 9 = .ok (.getfield 69, 3) := by decide +kernel
theorem dX8_end_12 : decode cX8_end 12 = .ok (.if_icmp .le 5, 3) := by decide +kernel
theorem dX8_end_15 : decode cX8_end 15 = .ok (.iconst (-1), 1) := by decide +kernel
theorem dX8_end_16 : decode cX8_end 16 = .ok (.ireturn, 1) := by decide +kernel
theorem dX8_end_17 : decode cX8_end 17 = .ok (.aload_n 0, 1) := by decide +kernel
theorem dX8_end_18 : decode cX8_end 18 = .ok (.getfield 10, 3) := by decide +kernel
theorem dX8_end_21 : decode cX8_end 21 = .ok (.iload_n 1, 1) := by decide +kernel
theorem dX8_end_22 : decode cX8_end 22 = .ok (.putfield 69, 3) := by decide +kernel
theorem dX8_end_25 : decode cX8_end 25 = .ok (.iload_n 1, 1) := by decide +kernel
theorem dX8_end_26 : decode cX8_end 26 = .ok (.ireturn, 1) := by decide +kernel
set_option maxRecDepth 20000 in
theorem ggX8_way_X8_isWay : GoodIn wsX8_way wsX8_isWay := goodIn_r _ [14] rfl (by decide +kernel)
set_option maxRecDepth 20000 in
theorem gX8_way_X8_isWay : GoodIn wsX8_way (va_wsS RX8 76 yX8_isWay wsX8_isWay) := goodIn_app (goodIn_r _ [11, 12, 13] rfl (by decide +kernel)) ggX8_way_X8_isWay
set_option maxRecDepth 20000 in
theorem ggX8_way_X6_read : GoodIn wsX8_way wsX6_read := goodIn_r _ [19, 20, 21, 7, 8, 9, 22, 23, 24, 25, 26, 27, 28, 29, 30, 31, 32, 33, 34, 35, 36, 37, 38, 39, 40, 41, 42, 43, 44, 45, 46, 47, 48, 49, 18, 50, 51, 52, 53, 54, 55, 56, 57, 58, 59, 60, 61, 62, 63, 64, 65, 66, 67, 68, 69, 70, 71, 72, 73, 74, 75, 76, 77, 78, 79, 80, 81, 82, 83, 84, 85, 86, 87, 88, 89, 90, 91, 92, 93, 94, 95, 96, 97, 98, 99, 100, 101, 102, 103, 104, 105, 106, 107, 108, 109, 110, 111, 112, 113, 114, 115, 116, 117, 118, 119, 120, 121, 13, 122, 123, 124, 125, 126, 127, 128, 129, 130, 131, 132, 133, 134, 135, 136, 137, 138, 139, 140, 152, 153, 154, 155, 156, 157, 158, 150, 151] rfl (by decide +kernel)
set_option maxRecDepth 20000 in
theorem gX8_way_X6_read : GoodIn wsX8_way (wsV RX8 80 RX6 yX6_read wsX6_read) := goodIn_app (goodIn_r _ [15, 16, 17, 18] rfl (by decide +kernel)) ggX8_way_X6_read
theorem dX8_way_0 : decode cX8_way 0 = .ok (.iload_n 1, 1) := by decide +kernel
theorem dX8_way_1 : decode cX8_way 1 = .ok (.invokestatic 76, 3) := by decide +kernel
theorem dX8_way_4 : decode cX8_way 4 = .ok (.ifCond .ne 14, 3) := by decide +kernel
theorem dX8_way_7 : decode cX8_way 7 = .ok (.aload_n 0, 1) := by decide +kernel
theorem dX8_way_8 : decode cX8_way 8 = .ok (.getfield 10, 3) := by decide +kernel
theorem dX8_way_11 : decode cX8_way 11 = .ok (.iconst 0, 1) := by decide +kernel
theorem dX8_way_12 : decode cX8_way 12 = .ok (.putfield 69, 3) := by decide +kernel
theorem dX8_way_15 : decode cX8_way 15 = .ok (.bipush (-2), 2) := by decide +kernel
theorem dX8_way_17 : decode cX8_way 17 = .ok (.ireturn, 1) := by decide +kernel
theorem dX8_way_18 : decode cX8_way 18 = .ok (.aload_n 0, 1) := by decide +kernel
theorem dX8_way_19 : decode cX8_way 19 = .ok (.getfield 19, 3) := by decide +kernel
theorem dX8_way_22 : decode cX8_way 22 = .ok (.aload_n 0, 1) := by decide +kernel
theorem dX8_way_23 : decode cX8_way 23 = .ok (.getfield 10, 3) := by decide +kernel
theorem dX8_way_26 : decode cX8_way 26 = .ok (.invokevirtual 80, 3) := by decide +kernel
theorem dX8_way_29 : decode cX8_way 29 = .ok (.istore_n 2, 1) := by decide +kernel
theorem dX8_way_30 : decode cX8_way 30 = .ok (.aload_n 0, 1) := by decide +kernel
theorem dX8_way_31 : decode cX8_way 31 = .ok (.getfield 10, 3) := by decide +kernel
theorem dX8_way_34 : decode cX8_way 34 = .ok (.iconst 0, 1) := by decide +kernel
theorem dX8_way_35 : decode cX8_way 35 = .ok (.putfield 69, 3) := by decide +kernel
theorem dX8_way_38 : decode cX8_way 38 = .ok (.iload_n 2, 1) := by decide +kernel
theorem dX8_way_39 : decode cX8_way 39 = .ok (.iconst (-1), 1) := by decide +kernel
theorem dX8_way_40 : decode cX8_way 40 = .ok (.if_icmp .eq 29, 3) := by decide +kernel
theorem dX8_way_43 : decode cX8_way 43 = .ok (.aload_n 0, 1) := by decide +kernel
theorem dX8_way_44 : decode cX8_way 44 = .ok (.getfield 19, 3) := by decide +kernel
theorem dX8_way_47 : decode cX8_way 47 = .ok (.getfield 84, 3) := by decide +kernel
theorem dX8_way_50 : decode cX8_way 50 = .ok (.iconst 0, 1) := by decide +kernel
theorem dX8_way_51 : decode cX8_way 51 = .ok (.aload_n 0, 1) := by decide +kernel
theorem dX8_way_52 : decode cX8_way 52 = .ok (.getfield 23, 3) := by decide +kernel
theorem dX8_way_55 : decode cX8_way 55 = .ok (.iload_n 1, 1) := by decide +kernel
theorem dX8_way_56 : decode cX8_way 56 = .ok (.bipush 8, 2) := by decide +kernel
theorem dX8_way_58 : decode cX8_way 58 = .ok (.imul, 1) := by decide +kernel
theorem dX8_way_59 : decode cX8_way 59 = .ok (.bipush 8, 2) := by decide +kernel
theorem dX8_way_61 : decode cX8_way 61 = .ok (.invokestatic 30, 3) := by decide +kernel
theorem dX8_way_64 : decode cX8_way 64 = .ok (.aload_n 0, 1) := by decide +kernel
theorem dX8_way_65 : decode cX8_way 65 = .ok (.iconst (-1), 1) := by decide +kernel
theorem dX8_way_66 : decode cX8_way 66 = .ok (.putfield 65, 3) := by decide +kernel
theorem dX8_way_69 : decode cX8_way 69 = .ok (.iload_n 2, 1) := by decide +kernel
theorem dX8_way_70 : decode cX8_way 70 = .ok (.ireturn, 1) := by decide +kernel
theorem dX8_fault_0 : decode cX8_fault 0 = .ok (.iload_n 1, 1) := by decide +kernel
theorem dX8_fault_1 : decode cX8_fault 1 = .ok (.lookupswitch 43 #[(0, 27), (1, 35)], 27) := by decide +kernel
theorem dX8_fault_28 : decode cX8_fault 28 = .ok (.aload_n 0, 1) := by decide +kernel
theorem dX8_fault_29 : decode cX8_fault 29 = .ok (.getfield 19, 3) := by decide +kernel
theorem dX8_fault_32 : decode cX8_fault 32 = .ok (.getfield 87, 3) := by decide +kernel
theorem dX8_fault_35 : decode cX8_fault 35 = .ok (.ireturn, 1) := by decide +kernel
theorem dX8_fault_36 : decode cX8_fault 36 = .ok (.aload_n 0, 1) := by decide +kernel
theorem dX8_fault_37 : decode cX8_fault 37 = .ok (.getfield 19, 3) := by decide +kernel
theorem dX8_fault_40 : decode cX8_fault 40 = .ok (.getfield 90, 3) := by decide +kernel
theorem dX8_fault_43 : decode cX8_fault 43 = .ok (.ireturn, 1) := by decide +kernel
theorem dX8_fault_44 : decode cX8_fault 44 = .ok (.iconst (-1), 1) := by decide +kernel
theorem dX8_fault_45 : decode cX8_fault 45 = .ok (.ireturn, 1) := by decide +kernel
set_option maxRecDepth 20000 in
theorem ggX8_rule_X8_isWay : GoodIn wsX8_rule wsX8_isWay := goodIn_r _ [5] rfl (by decide +kernel)
set_option maxRecDepth 20000 in
theorem gX8_rule_X8_isWay : GoodIn wsX8_rule (va_wsS RX8 76 yX8_isWay wsX8_isWay) := goodIn_app (goodIn_r _ [2, 3, 4] rfl (by decide +kernel)) ggX8_rule_X8_isWay
theorem dX8_rule_0 : decode cX8_rule 0 = .ok (.iload_n 1, 1) := by decide +kernel
theorem dX8_rule_1 : decode cX8_rule 1 = .ok (.invokestatic 76, 3) := by decide +kernel
theorem dX8_rule_4 : decode cX8_rule 4 = .ok (.ifCond .eq 13, 3) := by decide +kernel
theorem dX8_rule_7 : decode cX8_rule 7 = .ok (.iload_n 2, 1) := by decide +kernel
theorem dX8_rule_8 : decode cX8_rule 8 = .ok (.ifCond .lt 9, 3) := by decide +kernel
theorem dX8_rule_11 : decode cX8_rule 11 = .ok (.iload_n 2, 1) := by decide +kernel
theorem dX8_rule_12 : decode cX8_rule 12 = .ok (.bipush 8, 2) := by decide +kernel
theorem dX8_rule_14 : decode cX8_rule 14 = .ok (.if_icmp .lt 6, 3) := by decide +kernel
theorem dX8_rule_17 : decode cX8_rule 17 = .ok (.bipush (-9), 2) := by decide +kernel
theorem dX8_rule_19 : decode cX8_rule 19 = .ok (.ireturn, 1) := by decide +kernel
theorem dX8_rule_20 : decode cX8_rule 20 = .ok (.aload_n 0, 1) := by decide +kernel
theorem dX8_rule_21 : decode cX8_rule 21 = .ok (.getfield 23, 3) := by decide +kernel
theorem dX8_rule_24 : decode cX8_rule 24 = .ok (.iload_n 1, 1) := by decide +kernel
theorem dX8_rule_25 : decode cX8_rule 25 = .ok (.bipush 8, 2) := by decide +kernel
theorem dX8_rule_27 : decode cX8_rule 27 = .ok (.imul, 1) := by decide +kernel
theorem dX8_rule_28 : decode cX8_rule 28 = .ok (.iload_n 2, 1) := by decide +kernel
theorem dX8_rule_29 : decode cX8_rule 29 = .ok (.iadd, 1) := by decide +kernel
theorem dX8_rule_30 : decode cX8_rule 30 = .ok (.iaload, 1) := by decide +kernel
theorem dX8_rule_31 : decode cX8_rule 31 = .ok (.ireturn, 1) := by decide +kernel
set_option maxRecDepth 20000 in
theorem ggX8_change_X1_add : GoodIn wsX8_change wsX1_add := goodIn_r _ [7, 8, 9, 10, 11, 12, 13, 14, 15, 16, 17, 18, 19, 20, 21, 22, 32, 33, 34, 35, 36, 37, 38, 39, 40, 41, 42, 43, 44] rfl (by decide +kernel)
set_option maxRecDepth 20000 in
theorem gX8_change_X1_add : GoodIn wsX8_change (wsV RX8 93 RX1 yX1_add wsX1_add) := goodIn_app (goodIn_r _ [3, 4, 5, 6] rfl (by decide +kernel)) ggX8_change_X1_add
theorem dX8_change_0 : decode cX8_change 0 = .ok (.aload_n 0, 1) := by decide +kernel
theorem dX8_change_1 : decode cX8_change 1 = .ok (.getfield 39, 3) := by decide +kernel
theorem dX8_change_4 : decode cX8_change 4 = .ok (.iload_n 1, 1) := by decide +kernel
theorem dX8_change_5 : decode cX8_change 5 = .ok (.iload_n 2, 1) := by decide +kernel
theorem dX8_change_6 : decode cX8_change 6 = .ok (.iload_n 3, 1) := by decide +kernel
theorem dX8_change_7 : decode cX8_change 7 = .ok (.iload 4, 2) := by decide +kernel
theorem dX8_change_9 : decode cX8_change 9 = .ok (.invokevirtual 93, 3) := by decide +kernel
theorem dX8_change_12 : decode cX8_change 12 = .ok (.istore 5, 2) := by decide +kernel
theorem dX8_change_14 : decode cX8_change 14 = .ok (.iload 5, 2) := by decide +kernel
theorem dX8_change_16 : decode cX8_change 16 = .ok (.ifCond .lt 8, 3) := by decide +kernel
theorem dX8_change_19 : decode cX8_change 19 = .ok (.aload_n 0, 1) := by decide +kernel
theorem dX8_change_20 : decode cX8_change 20 = .ok (.iconst (-1), 1) := by decide +kernel
theorem dX8_change_21 : decode cX8_change 21 = .ok (.putfield 65, 3) := by decide +kernel
theorem dX8_change_24 : decode cX8_change 24 = .ok (.iload 5, 2) := by decide +kernel
theorem dX8_change_26 : decode cX8_change 26 = .ok (.ireturn, 1) := by decide +kernel
set_option maxRecDepth 20000 in
theorem ggX8_hang_X1_isLesser : GoodIn wsX8_hang wsX1_isLesser := goodIn_r _ [9, 10, 11, 12, 8, 13, 14, 37, 38, 39, 40, 41, 42, 43, 44, 45, 46, 47, 48] rfl (by decide +kernel)
set_option maxRecDepth 20000 in
theorem gX8_hang_X1_isLesser : GoodIn wsX8_hang (wsV RX8 97 RX1 yX1_isLesser wsX1_isLesser) := goodIn_app (goodIn_r _ [5, 6, 7, 8] rfl (by decide +kernel)) ggX8_hang_X1_isLesser
set_option maxRecDepth 20000 in
theorem ggX8_hang_X8_isIn : GoodIn wsX8_hang wsX8_isIn := goodIn_r _ [18] rfl (by decide +kernel)
set_option maxRecDepth 20000 in
theorem gX8_hang_X8_isIn : GoodIn wsX8_hang (va_wsS RX8 105 yX8_isIn wsX8_isIn) := goodIn_app (goodIn_r _ [15, 16, 17] rfl (by decide +kernel)) ggX8_hang_X8_isIn
set_option maxRecDepth 20000 in
theorem ggX8_hang_X1_addHang : GoodIn wsX8_hang wsX1_addHang := goodIn_r _ [22, 23, 24, 25, 26, 17, 27, 37, 38, 39, 40, 41, 42, 43, 44, 45, 46, 47, 48] rfl (by decide +kernel)
set_option maxRecDepth 20000 in
theorem gX8_hang_X1_addHang : GoodIn wsX8_hang (wsV RX8 112 RX1 yX1_addHang wsX1_addHang) := goodIn_app (goodIn_r _ [19, 20, 21, 8] rfl (by decide +kernel)) ggX8_hang_X1_addHang
theorem dX8_hang_0 : decode cX8_hang 0 = .ok (.aload_n 0, 1) := by decide +kernel
theorem dX8_hang_1 : decode cX8_hang 1 = .ok (.getfield 39, 3) := by decide +kernel
theorem dX8_hang_4 : decode cX8_hang 4 = .ok (.iload_n 2, 1) := by decide +kernel
theorem dX8_hang_5 : decode cX8_hang 5 = .ok (.iload_n 1, 1) := by decide +kernel
theorem dX8_hang_6 : decode cX8_hang 6 = .ok (.invokevirtual 97, 3) := by decide +kernel
theorem dX8_hang_9 : decode cX8_hang 9 = .ok (.ifCond .ne 6, 3) := by decide +kernel
theorem dX8_hang_12 : decode cX8_hang 12 = .ok (.bipush (-2), 2) := by decide +kernel
theorem dX8_hang_14 : decode cX8_hang 14 = .ok (.ireturn, 1) := by decide +kernel
theorem dX8_hang_15 : decode cX8_hang 15 = .ok (.aload_n 0, 1) := by decide +kernel
theorem dX8_hang_16 : decode cX8_hang 16 = .ok (.getfield 39, 3) := by decide +kernel
theorem dX8_hang_19 : decode cX8_hang 19 = .ok (.getfield 101, 3) := by decide +kernel
theorem dX8_hang_22 : decode cX8_hang 22 = .ok (.iload_n 1, 1) := by decide +kernel
theorem dX8_hang_23 : decode cX8_hang 23 = .ok (.laload, 1) := by decide +kernel
theorem dX8_hang_24 : decode cX8_hang 24 = .ok (.iload_n 2, 1) := by decide +kernel
theorem dX8_hang_25 : decode cX8_hang 25 = .ok (.invokestatic 105, 3) := by decide +kernel
theorem dX8_hang_28 : decode cX8_hang 28 = .ok (.ifCond .eq 13, 3) := by decide +kernel
theorem dX8_hang_31 : decode cX8_hang 31 = .ok (.aload_n 0, 1) := by decide +kernel
theorem dX8_hang_32 : decode cX8_hang 32 = .ok (.getfield 39, 3) := by decide +kernel
theorem dX8_hang_35 : decode cX8_hang 35 = .ok (.getfield 109, 3) := by decide +kernel
theorem dX8_hang_38 : decode cX8_hang 38 = .ok (.iload_n 1, 1) := by decide +kernel
theorem dX8_hang_39 : decode cX8_hang 39 = .ok (.iaload, 1) := by decide +kernel
theorem dX8_hang_40 : decode cX8_hang 40 = .ok (.ireturn, 1) := by decide +kernel
theorem dX8_hang_41 : decode cX8_hang 41 = .ok (.aload_n 0, 1) := by decide +kernel
theorem dX8_hang_42 : decode cX8_hang 42 = .ok (.getfield 39, 3) := by decide +kernel
theorem dX8_hang_45 : decode cX8_hang 45 = .ok (.iload_n 1, 1) := by decide +kernel
theorem dX8_hang_46 : decode cX8_hang 46 = .ok (.iload_n 2, 1) := by decide +kernel
theorem dX8_hang_47 : decode cX8_hang 47 = .ok (.invokevirtual 112, 3) := by decide +kernel
theorem dX8_hang_50 : decode cX8_hang 50 = .ok (.istore_n 3, 1) := by decide +kernel
theorem dX8_hang_51 : decode cX8_hang 51 = .ok (.iload_n 3, 1) := by decide +kernel
theorem dX8_hang_52 : decode cX8_hang 52 = .ok (.ifCond .lt 8, 3) := by decide +kernel
theorem dX8_hang_55 : decode cX8_hang 55 = .ok (.aload_n 0, 1) := by decide +kernel
theorem dX8_hang_56 : decode cX8_hang 56 = .ok (.iconst (-1), 1) := by decide +kernel
theorem dX8_hang_57 : decode cX8_hang 57 = .ok (.putfield 65, 3) := by decide +kernel
theorem dX8_hang_60 : decode cX8_hang 60 = .ok (.iload_n 3, 1) := by decide +kernel
theorem dX8_hang_61 : decode cX8_hang 61 = .ok (.ireturn, 1) := by decide +kernel
set_option maxRecDepth 20000 in
theorem ggX8_fix_X1_isLesser : GoodIn wsX8_fix wsX1_isLesser := goodIn_r _ [7, 8, 9, 10, 6, 11, 12, 42, 43, 44, 45, 46, 47, 48, 49, 50, 51, 52, 53] rfl (by decide +kernel)
set_option maxRecDepth 20000 in
theorem gX8_fix_X1_isLesser : GoodIn wsX8_fix (wsV RX8 97 RX1 yX1_isLesser wsX1_isLesser) := goodIn_app (goodIn_r _ [3, 4, 5, 6] rfl (by decide +kernel)) ggX8_fix_X1_isLesser
set_option maxRecDepth 20000 in
theorem ggX8_fix_X1_addFix : GoodIn wsX8_fix wsX1_addFix := goodIn_r _ [16, 17, 18, 19, 20, 21, 22, 23, 24, 25, 26, 27, 28, 29, 30, 31, 32, 42, 43, 44, 45, 46, 47, 48, 49, 50, 51, 52, 53, 54] rfl (by decide +kernel)
set_option maxRecDepth 20000 in
theorem gX8_fix_X1_addFix : GoodIn wsX8_fix (wsV RX8 116 RX1 yX1_addFix wsX1_addFix) := goodIn_app (goodIn_r _ [13, 14, 15, 6] rfl (by decide +kernel)) ggX8_fix_X1_addFix
theorem dX8_fix_0 : decode cX8_fix 0 = .ok (.aload_n 0, 1) := by decide +kernel
theorem dX8_fix_1 : decode cX8_fix 1 = .ok (.getfield 39, 3) := by decide +kernel
theorem dX8_fix_4 : decode cX8_fix 4 = .ok (.iload_n 2, 1) := by decide +kernel
theorem dX8_fix_5 : decode cX8_fix 5 = .ok (.iload_n 1, 1) := by decide +kernel
theorem dX8_fix_6 : decode cX8_fix 6 = .ok (.invokevirtual 97, 3) := by decide +kernel
theorem dX8_fix_9 : decode cX8_fix 9 = .ok (.ifCond .eq 15, 3) := by decide +kernel
theorem dX8_fix_12 : decode cX8_fix 12 = .ok (.aload_n 0, 1) := by decide +kernel
theorem dX8_fix_13 : decode cX8_fix 13 = .ok (.getfield 39, 3) := by decide +kernel
theorem dX8_fix_16 : decode cX8_fix 16 = .ok (.iload_n 1, 1) := by decide +kernel
theorem dX8_fix_17 : decode cX8_fix 17 = .ok (.iload_n 2, 1) := by decide +kernel
theorem dX8_fix_18 : decode cX8_fix 18 = .ok (.invokevirtual 116, 3) := by decide +kernel
theorem dX8_fix_21 : decode cX8_fix 21 = .ok (.ifCond .ne 6, 3) := by decide +kernel
theorem dX8_fix_24 : decode cX8_fix 24 = .ok (.bipush (-2), 2) := by decide +kernel
theorem dX8_fix_26 : decode cX8_fix 26 = .ok (.ireturn, 1) := by decide +kernel
theorem dX8_fix_27 : decode cX8_fix 27 = .ok (.aload_n 0, 1) := by decide +kernel
theorem dX8_fix_28 : decode cX8_fix 28 = .ok (.iconst (-1), 1) := by decide +kernel
theorem dX8_fix_29 : decode cX8_fix 29 = .ok (.putfield 65, 3) := by decide +kernel
theorem dX8_fix_32 : decode cX8_fix 32 = .ok (.iconst 1, 1) := by decide +kernel
theorem dX8_fix_33 : decode cX8_fix 33 = .ok (.ireturn, 1) := by decide +kernel
set_option maxRecDepth 20000 in
theorem ggX8_about_X1_isNumber : GoodIn wsX8_about wsX1_isNumber := goodIn_r _ [6, 7, 33, 34, 35, 36, 37, 38, 39, 40, 41, 42, 43, 44] rfl (by decide +kernel)
set_option maxRecDepth 20000 in
theorem gX8_about_X1_isNumber : GoodIn wsX8_about (wsV RX8 119 RX1 yX1_isNumber wsX1_isNumber) := goodIn_app (goodIn_r _ [2, 3, 4, 5] rfl (by decide +kernel)) ggX8_about_X1_isNumber
set_option maxRecDepth 20000 in
theorem ggX8_about_X1_tell : GoodIn wsX8_about wsX1_tell := goodIn_r _ [11, 12, 13, 14, 15, 16, 17, 18, 19, 20, 21, 5, 22, 23, 33, 34, 35, 36, 37, 38, 39, 40, 41, 42, 43, 44] rfl (by decide +kernel)
set_option maxRecDepth 20000 in
theorem gX8_about_X1_tell : GoodIn wsX8_about (wsV RX8 122 RX1 yX1_tell wsX1_tell) := goodIn_app (goodIn_r _ [8, 9, 10, 5] rfl (by decide +kernel)) ggX8_about_X1_tell
theorem dX8_about_0 : decode cX8_about 0 = .ok (.aload_n 0, 1) := by decide +kernel
theorem dX8_about_1 : decode cX8_about 1 = .ok (.getfield 39, 3) := by decide +kernel
theorem dX8_about_4 : decode cX8_about 4 = .ok (.iload_n 1, 1) := by decide +kernel
theorem dX8_about_5 : decode cX8_about 5 = .ok (.invokevirtual 119, 3) := by decide +kernel
theorem dX8_about_8 : decode cX8_about 8 = .ok (.ifCond .eq 15, 3) := by decide +kernel
theorem dX8_about_11 : decode cX8_about 11 = .ok (.aload_n 0, 1) := by decide +kernel
theorem dX8_about_12 : decode cX8_about 12 = .ok (.getfield 39, 3) := by decide +kernel
theorem dX8_about_15 : decode cX8_about 15 = .ok (.iload_n 1, 1) := by decide +kernel
theorem dX8_about_16 : decode cX8_about 16 = .ok (.iload_n 2, 1) := by decide +kernel
theorem dX8_about_17 : decode cX8_about 17 = .ok (.invokevirtual 122, 3) := by decide +kernel
theorem dX8_about_20 : decode cX8_about 20 = .ok (.goto 5, 3) := by decide +kernel
theorem dX8_about_23 : decode cX8_about 23 = .ok (.bipush (-9), 2) := by decide +kernel
theorem dX8_about_25 : decode cX8_about 25 = .ok (.ireturn, 1) := by decide +kernel
set_option maxRecDepth 20000 in
theorem ggX8_play_X8_isWay : GoodIn wsX8_play wsX8_isWay := goodIn_r _ [9] rfl (by decide +kernel)
set_option maxRecDepth 20000 in
theorem gX8_play_X8_isWay : GoodIn wsX8_play (va_wsS RX8 76 yX8_isWay wsX8_isWay) := goodIn_app (goodIn_r _ [6, 7, 8] rfl (by decide +kernel)) ggX8_play_X8_isWay
set_option maxRecDepth 20000 in
theorem ggX8_play_X4_take : GoodIn wsX8_play wsX4_take := goodIn_r _ [14, 15, 16, 17, 18, 19, 7, 8, 9, 190, 191, 192, 193, 194, 195, 196, 197, 198, 199, 200, 201, 202, 203, 204, 205, 206, 207, 208, 209] rfl (by decide +kernel)
set_option maxRecDepth 20000 in
theorem gX8_play_X4_take : GoodIn wsX8_play (wsV RX8 125 RX4 yX4_take wsX4_take) := goodIn_app (goodIn_r _ [10, 11, 12, 13] rfl (by decide +kernel)) ggX8_play_X4_take
set_option maxRecDepth 20000 in
theorem ggX8_play_X4_run : GoodIn wsX8_play wsX4_run := goodIn_r _ [23, 24, 25, 26, 13, 27, 28, 29, 30, 31, 32, 33, 34, 35, 36, 37, 38, 39, 40, 41, 42, 43, 15, 44, 45, 46, 47, 48, 49, 50, 51, 52, 53, 54, 55, 56, 57, 58, 59, 60, 61, 62, 63, 64, 65, 66, 67, 68, 69, 70, 71, 72, 73, 74, 75, 76, 77, 8, 78, 79, 80, 81, 82, 83, 84, 85, 86, 87, 88, 89, 90, 91, 92, 93, 94, 95, 96, 97, 98, 99, 100, 101, 102, 103, 104, 105, 106, 107, 108, 109, 110, 111, 112, 113, 114, 115, 116, 117, 118, 119, 120, 121, 122, 123, 124, 125, 126, 127, 128, 129, 130, 131, 132, 133, 134, 135, 136, 137, 138, 139, 140, 141, 142, 143, 144, 145, 146, 147, 148, 149, 150, 151, 152, 153, 154, 155, 156, 157, 158, 159, 160, 161, 162, 163, 164, 165, 166, 167, 168, 169, 170, 171, 172, 173, 174, 175, 176, 177, 178, 179, 180, 190, 191, 192, 193, 194, 195, 196, 197, 198, 199, 200, 201, 202, 203, 204, 205, 206, 207, 208, 209, 215, 216, 210, 211, 212, 213, 214, 217, 218, 219, 220, 221, 222, 223, 224, 225, 226, 227, 228, 229] rfl (by decide +kernel)
set_option maxRecDepth 20000 in
theorem gX8_play_X4_run : GoodIn wsX8_play (wsV RX8 129 RX4 yX4_run wsX4_run) := goodIn_app (goodIn_r _ [20, 21, 22, 13] rfl (by decide +kernel)) ggX8_play_X4_run
theorem dX8_play_0 : decode cX8_play 0 = .ok (.iload_n 1, 1) := by decide +kernel
theorem dX8_play_1 : decode cX8_play 1 = .ok (.invokestatic 76, 3) := by decide +kernel
theorem dX8_play_4 : decode cX8_play 4 = .ok (.ifCond .ne 6, 3) := by decide +kernel
theorem dX8_play_7 : decode cX8_play 7 = .ok (.bipush (-2), 2) := by decide +kernel
theorem dX8_play_9 : decode cX8_play 9 = .ok (.ireturn, 1) := by decide +kernel
theorem dX8_play_10 : decode cX8_play 10 = .ok (.aload_n 0, 1) := by decide +kernel
theorem dX8_play_11 : decode cX8_play 11 = .ok (.getfield 55, 3) := by decide +kernel
theorem dX8_play_14 : decode cX8_play 14 = .ok (.aload_n 0, 1) := by decide +kernel
theorem dX8_play_15 : decode cX8_play 15 = .ok (.getfield 23, 3) := by decide +kernel
theorem dX8_play_18 : decode cX8_play 18 = .ok (.iload_n 1, 1) := by decide +kernel
theorem dX8_play_19 : decode cX8_play 19 = .ok (.invokevirtual 125, 3) := by decide +kernel
theorem dX8_play_22 : decode cX8_play 22 = .ok (.aload_n 0, 1) := by decide +kernel
theorem dX8_play_23 : decode cX8_play 23 = .ok (.getfield 55, 3) := by decide +kernel
theorem dX8_play_26 : decode cX8_play 26 = .ok (.invokevirtual 129, 3) := by decide +kernel
theorem dX8_play_29 : decode cX8_play 29 = .ok (.aload_n 0, 1) := by decide +kernel
theorem dX8_play_30 : decode cX8_play 30 = .ok (.iload_n 1, 1) := by decide +kernel
theorem dX8_play_31 : decode cX8_play 31 = .ok (.putfield 65, 3) := by decide +kernel
theorem dX8_play_34 : decode cX8_play 34 = .ok (.aload_n 0, 1) := by decide +kernel
theorem dX8_play_35 : decode cX8_play 35 = .ok (.getfield 55, 3) := by decide +kernel
theorem dX8_play_38 : decode cX8_play 38 = .ok (.getfield 132, 3) := by decide +kernel
theorem dX8_play_41 : decode cX8_play 41 = .ok (.getfield 136, 3) := by decide +kernel
theorem dX8_play_44 : decode cX8_play 44 = .ok (.ireturn, 1) := by decide +kernel
set_option maxRecDepth 20000 in
theorem ggX8_told_X1_isNumber : GoodIn wsX8_told wsX1_isNumber := goodIn_r _ [8, 9, 26, 27, 28, 29, 30, 31, 32, 33, 34, 35, 36, 37] rfl (by decide +kernel)
set_option maxRecDepth 20000 in
theorem gX8_told_X1_isNumber : GoodIn wsX8_told (wsV RX8 119 RX1 yX1_isNumber wsX1_isNumber) := goodIn_app (goodIn_r _ [4, 5, 6, 7] rfl (by decide +kernel)) ggX8_told_X1_isNumber
set_option maxRecDepth 20000 in
theorem ggX8_told_X4_kept : GoodIn wsX8_told wsX4_kept := goodIn_r _ [14, 15, 16, 38, 39, 40, 41, 42, 43, 44, 45, 46, 47, 48, 49, 50, 51, 52, 53, 54, 55, 56, 57] rfl (by decide +kernel)
set_option maxRecDepth 20000 in
theorem gX8_told_X4_kept : GoodIn wsX8_told (wsV RX8 139 RX4 yX4_kept wsX4_kept) := goodIn_app (goodIn_r _ [10, 11, 12, 13] rfl (by decide +kernel)) ggX8_told_X4_kept
theorem dX8_told_0 : decode cX8_told 0 = .ok (.aload_n 0, 1) := by decide +kernel
theorem dX8_told_1 : decode cX8_told 1 = .ok (.getfield 65, 3) := by decide +kernel
theorem dX8_told_4 : decode cX8_told 4 = .ok (.iconst (-1), 1) := by decide +kernel
theorem dX8_told_5 : decode cX8_told 5 = .ok (.if_icmp .eq 24, 3) := by decide +kernel
theorem dX8_told_8 : decode cX8_told 8 = .ok (.aload_n 0, 1) := by decide +kernel
theorem dX8_told_9 : decode cX8_told 9 = .ok (.getfield 39, 3) := by decide +kernel
theorem dX8_told_12 : decode cX8_told 12 = .ok (.iload_n 1, 1) := by decide +kernel
theorem dX8_told_13 : decode cX8_told 13 = .ok (.invokevirtual 119, 3) := by decide +kernel
theorem dX8_told_16 : decode cX8_told 16 = .ok (.ifCond .eq 13, 3) := by decide +kernel
theorem dX8_told_19 : decode cX8_told 19 = .ok (.iload_n 2, 1) := by decide +kernel
theorem dX8_told_20 : decode cX8_told 20 = .ok (.ifCond .lt 9, 3) := by decide +kernel
theorem dX8_told_23 : decode cX8_told 23 = .ok (.iload_n 2, 1) := by decide +kernel
theorem dX8_told_24 : decode cX8_told 24 = .ok (.bipush 7, 2) := by decide +kernel
theorem dX8_told_26 : decode cX8_told 26 = .ok (.if_icmp .lt 6, 3) := by decide +kernel
theorem dX8_told_29 : decode cX8_told 29 = .ok (.bipush (-9), 2) := by decide +kernel
theorem dX8_told_31 : decode cX8_told 31 = .ok (.ireturn, 1) := by decide +kernel
theorem dX8_told_32 : decode cX8_told 32 = .ok (.aload_n 0, 1) := by decide +kernel
theorem dX8_told_33 : decode cX8_told 33 = .ok (.getfield 55, 3) := by decide +kernel
theorem dX8_told_36 : decode cX8_told 36 = .ok (.iload_n 1, 1) := by decide +kernel
theorem dX8_told_37 : decode cX8_told 37 = .ok (.iload_n 2, 1) := by decide +kernel
theorem dX8_told_38 : decode cX8_told 38 = .ok (.invokevirtual 139, 3) := by decide +kernel
theorem dX8_told_41 : decode cX8_told 41 = .ok (.ireturn, 1) := by decide +kernel
set_option maxRecDepth 20000 in
theorem ggX8_release_X8_isRelease : GoodIn wsX8_release wsX8_isRelease := goodIn_r _ [7, 8, 1, 2, 9, 26, 27, 28, 29, 30, 31, 32, 33, 34, 35, 36, 37, 38, 39, 40, 41, 42, 43, 44, 45, 46, 47, 48, 49, 50, 51, 52, 53, 54, 55, 56, 57, 58, 59] rfl (by decide +kernel)
set_option maxRecDepth 20000 in
theorem gX8_release_X8_isRelease : GoodIn wsX8_release (wsV RX8 142 RX8 yX8_isRelease wsX8_isRelease) := goodIn_app (goodIn_r _ [3, 4, 5, 6] rfl (by decide +kernel)) ggX8_release_X8_isRelease
set_option maxRecDepth 20000 in
theorem ggX8_release_X3_tell : GoodIn wsX8_release wsX3_tell := goodIn_r _ [14, 15, 16, 17, 18, 19, 20, 21, 22, 23, 24, 25, 55, 56, 57, 58, 59] rfl (by decide +kernel)
set_option maxRecDepth 20000 in
theorem gX8_release_X3_tell : GoodIn wsX8_release (wsV RX8 145 RX3 yX3_tell wsX3_tell) := goodIn_app (goodIn_r _ [10, 11, 12, 13] rfl (by decide +kernel)) ggX8_release_X3_tell
theorem dX8_release_0 : decode cX8_release 0 = .ok (.aload_n 0, 1) := by decide +kernel
theorem dX8_release_1 : decode cX8_release 1 = .ok (.iload_n 1, 1) := by decide +kernel
theorem dX8_release_2 : decode cX8_release 2 = .ok (.invokevirtual 142, 3) := by decide +kernel
theorem dX8_release_5 : decode cX8_release 5 = .ok (.ifCond .eq 18, 3) := by decide +kernel
theorem dX8_release_8 : decode cX8_release 8 = .ok (.aload_n 0, 1) := by decide +kernel
theorem dX8_release_9 : decode cX8_release 9 = .ok (.getfield 55, 3) := by decide +kernel
theorem dX8_release_12 : decode cX8_release 12 = .ok (.getfield 132, 3) := by decide +kernel
theorem dX8_release_15 : decode cX8_release 15 = .ok (.iload_n 1, 1) := by decide +kernel
theorem dX8_release_16 : decode cX8_release 16 = .ok (.iload_n 2, 1) := by decide +kernel
theorem dX8_release_17 : decode cX8_release 17 = .ok (.invokevirtual 145, 3) := by decide +kernel
theorem dX8_release_20 : decode cX8_release 20 = .ok (.goto 5, 3) := by decide +kernel
theorem dX8_release_23 : decode cX8_release 23 = .ok (.bipush (-9), 2) := by decide +kernel
theorem dX8_release_25 : decode cX8_release 25 = .ok (.ireturn, 1) := by decide +kernel
set_option maxRecDepth 20000 in
theorem ggX8_has_X8_isRelease : GoodIn wsX8_has wsX8_isRelease := goodIn_r _ [9, 10, 1, 2, 11, 12, 13, 14, 15, 16, 17, 18, 19, 20, 21, 22, 23, 24, 25, 26, 27, 28, 29, 30, 31, 32, 33, 34, 35, 36, 37, 38, 39, 40, 41, 42, 43, 44, 45] rfl (by decide +kernel)
set_option maxRecDepth 20000 in
theorem gX8_has_X8_isRelease : GoodIn wsX8_has (wsV RX8 142 RX8 yX8_isRelease wsX8_isRelease) := goodIn_app (goodIn_r _ [5, 6, 7, 8] rfl (by decide +kernel)) ggX8_has_X8_isRelease
theorem dX8_has_0 : decode cX8_has 0 = .ok (.aload_n 0, 1) := by decide +kernel
theorem dX8_has_1 : decode cX8_has 1 = .ok (.iload_n 1, 1) := by decide +kernel
theorem dX8_has_2 : decode cX8_has 2 = .ok (.invokevirtual 142, 3) := by decide +kernel
theorem dX8_has_5 : decode cX8_has 5 = .ok (.ifCond .eq 18, 3) := by decide +kernel
theorem dX8_has_8 : decode cX8_has 8 = .ok (.aload_n 0, 1) := by decide +kernel
theorem dX8_has_9 : decode cX8_has 9 = .ok (.getfield 55, 3) := by decide +kernel
theorem dX8_has_12 : decode cX8_has 12 = .ok (.getfield 132, 3) := by decide +kernel
theorem dX8_has_15 : decode cX8_has 15 = .ok (.getfield 146, 3) := by decide +kernel
theorem dX8_has_18 : decode cX8_has 18 = .ok (.iload_n 1, 1) := by decide +kernel
theorem dX8_has_19 : decode cX8_has 19 = .ok (.laload, 1) := by decide +kernel
theorem dX8_has_20 : decode cX8_has 20 = .ok (.goto 6, 3) := by decide +kernel
theorem dX8_has_23 : decode cX8_has 23 = .ok (.ldc2_w 149, 3) := by decide +kernel
theorem dX8_has_26 : decode cX8_has 26 = .ok (.lreturn, 1) := by decide +kernel
set_option maxRecDepth 20000 in
theorem ggX8_sum_X4_total : GoodIn wsX8_sum wsX4_total := goodIn_r _ [7, 8, 9, 10, 11, 12, 13, 6, 14, 15, 16, 17, 18, 19, 20, 21, 22, 23, 24, 25, 26, 27, 28, 29, 30, 31, 32, 33, 34, 35, 36, 37, 38, 39, 40, 41, 42, 43, 44, 45, 46, 47, 48, 49, 50, 51, 52, 53, 54, 55, 56, 57, 67, 68, 69, 70, 71, 72, 73, 74, 75, 76, 77, 78, 79, 80, 81, 82, 83, 84, 85, 86, 87, 88, 89, 90, 91, 92, 93, 94, 95, 96, 97, 98] rfl (by decide +kernel)
set_option maxRecDepth 20000 in
theorem gX8_sum_X4_total : GoodIn wsX8_sum (wsV RX8 151 RX4 yX4_total wsX4_total) := goodIn_app (goodIn_r _ [3, 4, 5, 6] rfl (by decide +kernel)) ggX8_sum_X4_total
theorem dX8_sum_0 : decode cX8_sum 0 = .ok (.aload_n 0, 1) := by decide +kernel
theorem dX8_sum_1 : decode cX8_sum 1 = .ok (.getfield 65, 3) := by decide +kernel
theorem dX8_sum_4 : decode cX8_sum 4 = .ok (.iconst (-1), 1) := by decide +kernel
theorem dX8_sum_5 : decode cX8_sum 5 = .ok (.if_icmp .ne 8, 3) := by decide +kernel
theorem dX8_sum_8 : decode cX8_sum 8 = .ok (.bipush (-9), 2) := by decide +kernel
theorem dX8_sum_10 : decode cX8_sum 10 = .ok (.goto 11, 3) := by decide +kernel
theorem dX8_sum_13 : decode cX8_sum 13 = .ok (.aload_n 0, 1) := by decide +kernel
theorem dX8_sum_14 : decode cX8_sum 14 = .ok (.getfield 55, 3) := by decide +kernel
theorem dX8_sum_17 : decode cX8_sum 17 = .ok (.iload_n 1, 1) := by decide +kernel
theorem dX8_sum_18 : decode cX8_sum 18 = .ok (.invokevirtual 151, 3) := by decide +kernel
theorem dX8_sum_21 : decode cX8_sum 21 = .ok (.ireturn, 1) := by decide +kernel
set_option maxRecDepth 20000 in
theorem ggX8_parts_X8_isWay : GoodIn wsX8_parts wsX8_isWay := goodIn_r _ [9] rfl (by decide +kernel)
set_option maxRecDepth 20000 in
theorem gX8_parts_X8_isWay : GoodIn wsX8_parts (va_wsS RX8 76 yX8_isWay wsX8_isWay) := goodIn_app (goodIn_r _ [6, 7, 8] rfl (by decide +kernel)) ggX8_parts_X8_isWay
set_option maxRecDepth 20000 in
theorem ggX8_parts_X4_take : GoodIn wsX8_parts wsX4_take := goodIn_r _ [14, 15, 16, 17, 18, 19, 7, 8, 9, 186, 187, 188, 189, 190, 191, 192, 193, 194, 195, 196, 197, 198, 199, 200, 201, 202, 203, 204, 205] rfl (by decide +kernel)
set_option maxRecDepth 20000 in
theorem gX8_parts_X4_take : GoodIn wsX8_parts (wsV RX8 125 RX4 yX4_take wsX4_take) := goodIn_app (goodIn_r _ [10, 11, 12, 13] rfl (by decide +kernel)) ggX8_parts_X4_take
set_option maxRecDepth 20000 in
theorem ggX8_parts_X4_begin : GoodIn wsX8_parts wsX4_begin := goodIn_r _ [23, 24, 25, 26, 27, 28, 29, 30, 31, 32, 33, 34, 35, 36, 37, 38, 39, 15, 40, 41, 42, 43, 44, 45, 46, 47, 48, 49, 50, 51, 52, 53, 54, 55, 186, 187, 188, 189, 190, 191, 192, 193, 194, 195, 196, 197, 198, 199, 200, 201, 202, 203, 204, 205, 206, 207, 208, 209, 210, 211, 212, 213] rfl (by decide +kernel)
set_option maxRecDepth 20000 in
theorem gX8_parts_X4_begin : GoodIn wsX8_parts (wsV RX8 155 RX4 yX4_begin wsX4_begin) := goodIn_app (goodIn_r _ [20, 21, 22, 13] rfl (by decide +kernel)) ggX8_parts_X4_begin
set_option maxRecDepth 20000 in
theorem ggX8_parts_X4_step : GoodIn wsX8_parts wsX4_step := goodIn_r _ [59, 40, 60, 61, 15, 35, 38, 39, 42, 41, 29, 30, 62, 63, 64, 65, 66, 67, 68, 13, 69, 70, 71, 72, 73, 8, 74, 75, 76, 77, 78, 79, 80, 81, 82, 24, 25, 83, 84, 85, 86, 87, 88, 89, 90, 91, 92, 33, 37, 36, 93, 27, 94, 95, 96, 97, 98, 99, 100, 101, 102, 103, 104, 105, 106, 107, 108, 109, 110, 50, 111, 52, 112, 113, 114, 115, 28, 116, 117, 118, 119, 120, 121, 122, 123, 124, 125, 126, 127, 128, 129, 130, 26, 131, 132, 133, 134, 135, 31, 32, 136, 137, 138, 139, 140, 141, 142, 143, 144, 145, 146, 147, 148, 149, 150, 151, 152, 153, 154, 155, 156, 157, 158, 159, 160, 161, 162, 163, 164, 165, 166, 167, 168, 169, 170, 171, 172, 173, 174, 175, 176, 186, 187, 188, 189, 190, 191, 192, 193, 194, 195, 196, 197, 198, 199, 200, 201, 202, 203, 204, 205, 214, 215, 216, 217, 218, 219, 220, 221, 222, 223, 224, 225, 206, 207, 208, 209, 210, 211, 212, 213] rfl (by decide +kernel)
set_option maxRecDepth 20000 in
theorem gX8_parts_X4_step : GoodIn wsX8_parts (wsV RX8 158 RX4 yX4_step wsX4_step) := goodIn_app (goodIn_r _ [56, 57, 58, 13] rfl (by decide +kernel)) ggX8_parts_X4_step
theorem dX8_parts_0 : decode cX8_parts 0 = .ok (.iload_n 1, 1) := by decide +kernel
theorem dX8_parts_1 : decode cX8_parts 1 = .ok (.invokestatic 76, 3) := by decide +kernel
theorem dX8_parts_4 : decode cX8_parts 4 = .ok (.ifCond .eq 10, 3) := by decide +kernel
theorem dX8_parts_7 : decode cX8_parts 7 = .ok (.iload_n 2, 1) := by decide +kernel
theorem dX8_parts_8 : decode cX8_parts 8 = .ok (.invokestatic 76, 3) := by decide +kernel
theorem dX8_parts_11 : decode cX8_parts 11 = .ok (.ifCond .ne 6, 3) := by decide +kernel
theorem dX8_parts_14 : decode cX8_parts 14 = .ok (.bipush (-2), 2) := by decide +kernel
theorem dX8_parts_16 : decode cX8_parts 16 = .ok (.ireturn, 1) := by decide +kernel
theorem dX8_parts_17 : decode cX8_parts 17 = .ok (.aload_n 0, 1) := by decide +kernel
theorem dX8_parts_18 : decode cX8_parts 18 = .ok (.getfield 59, 3) := by decide +kernel
theorem dX8_parts_21 : decode cX8_parts 21 = .ok (.aload_n 0, 1) := by decide +kernel
theorem dX8_parts_22 : decode cX8_parts 22 = .ok (.getfield 23, 3) := by decide +kernel
theorem dX8_parts_25 : decode cX8_parts 25 = .ok (.iload_n 1, 1) := by decide +kernel
theorem dX8_parts_26 : decode cX8_parts 26 = .ok (.invokevirtual 125, 3) := by decide +kernel
theorem dX8_parts_29 : decode cX8_parts 29 = .ok (.aload_n 0, 1) := by decide +kernel
theorem dX8_parts_30 : decode cX8_parts 30 = .ok (.getfield 62, 3) := by decide +kernel
theorem dX8_parts_33 : decode cX8_parts 33 = .ok (.aload_n 0, 1) := by decide +kernel
theorem dX8_parts_34 : decode cX8_parts 34 = .ok (.getfield 23, 3) := by decide +kernel
theorem dX8_parts_37 : decode cX8_parts 37 = .ok (.iload_n 2, 1) := by decide +kernel
theorem dX8_parts_38 : decode cX8_parts 38 = .ok (.invokevirtual 125, 3) := by decide +kernel
theorem dX8_parts_41 : decode cX8_parts 41 = .ok (.aload_n 0, 1) := by decide +kernel
theorem dX8_parts_42 : decode cX8_parts 42 = .ok (.getfield 59, 3) := by decide +kernel
theorem dX8_parts_45 : decode cX8_parts 45 = .ok (.invokevirtual 155, 3) := by decide +kernel
theorem dX8_parts_48 : decode cX8_parts 48 = .ok (.aload_n 0, 1) := by decide +kernel
theorem dX8_parts_49 : decode cX8_parts 49 = .ok (.getfield 62, 3) := by decide +kernel
theorem dX8_parts_52 : decode cX8_parts 52 = .ok (.invokevirtual 155, 3) := by decide +kernel
theorem dX8_parts_55 : decode cX8_parts 55 = .ok (.iconst 0, 1) := by decide +kernel
theorem dX8_parts_56 : decode cX8_parts 56 = .ok (.istore_n 3, 1) := by decide +kernel
theorem dX8_parts_57 : decode cX8_parts 57 = .ok (.iload_n 3, 1) := by decide +kernel
theorem dX8_parts_58 : decode cX8_parts 58 = .ok (.sipush 399, 3) := by decide +kernel
theorem dX8_parts_61 : decode cX8_parts 61 = .ok (.if_icmp .gt 63, 3) := by decide +kernel
theorem dX8_parts_64 : decode cX8_parts 64 = .ok (.aload_n 0, 1) := by decide +kernel
theorem dX8_parts_65 : decode cX8_parts 65 = .ok (.getfield 59, 3) := by decide +kernel
theorem dX8_parts_68 : decode cX8_parts 68 = .ok (.iload_n 3, 1) := by decide +kernel
theorem dX8_parts_69 : decode cX8_parts 69 = .ok (.invokevirtual 158, 3) := by decide +kernel
theorem dX8_parts_72 : decode cX8_parts 72 = .ok (.aload_n 0, 1) := by decide +kernel
theorem dX8_parts_73 : decode cX8_parts 73 = .ok (.getfield 62, 3) := by decide +kernel
theorem dX8_parts_76 : decode cX8_parts 76 = .ok (.iload_n 3, 1) := by decide +kernel
theorem dX8_parts_77 : decode cX8_parts 77 = .ok (.invokevirtual 158, 3) := by decide +kernel
theorem dX8_parts_80 : decode cX8_parts 80 = .ok (.aload_n 0, 1) := by decide +kernel
theorem dX8_parts_81 : decode cX8_parts 81 = .ok (.getfield 59, 3) := by decide +kernel
theorem dX8_parts_84 : decode cX8_parts 84 = .ok (.getfield 161, 3) := by decide +kernel
theorem dX8_parts_87 : decode cX8_parts 87 = .ok (.aload_n 0, 1) := by decide +kernel
theorem dX8_parts_88 : decode cX8_parts 88 = .ok (.getfield 62, 3) := by decide +kernel
theorem dX8_parts_91 : decode cX8_parts 91 = .ok (.getfield 161, 3) := by decide +kernel
theorem dX8_parts_94 : decode cX8_parts 94 = .ok (.lcmp, 1) := by decide +kernel
theorem dX8_parts_95 : decode cX8_parts 95 = .ok (.ifCond .ne 21, 3) := by decide +kernel
theorem dX8_parts_98 : decode cX8_parts 98 = .ok (.aload_n 0, 1) := by decide +kernel
theorem dX8_parts_99 : decode cX8_parts 99 = .ok (.getfield 59, 3) := by decide +kernel
theorem dX8_parts_102 : decode cX8_parts 102 = .ok (.getfield 165, 3) := by decide +kernel
theorem dX8_parts_105 : decode cX8_parts 105 = .ok (.aload_n 0, 1) := by decide +kernel
theorem dX8_parts_106 : decode cX8_parts 106 = .ok (.getfield 62, 3) := by decide +kernel
theorem dX8_parts_109 : decode cX8_parts 109 = .ok (.getfield 165, 3) := by decide +kernel
theorem dX8_parts_112 : decode cX8_parts 112 = .ok (.lcmp, 1) := by decide +kernel
theorem dX8_parts_113 : decode cX8_parts 113 = .ok (.ifCond .eq 5, 3) := by decide +kernel
theorem dX8_parts_116 : decode cX8_parts 116 = .ok (.iload_n 3, 1) := by decide +kernel
theorem dX8_parts_117 : decode cX8_parts 117 = .ok (.ireturn, 1) := by decide +kernel
theorem dX8_parts_118 : decode cX8_parts 118 = .ok (.iinc 3 1, 3) := by decide +kernel
theorem dX8_parts_121 : decode cX8_parts 121 = .ok (.goto (-64), 3) := by decide +kernel
theorem dX8_parts_124 : decode cX8_parts 124 = .ok (.iconst (-1), 1) := by decide +kernel
theorem dX8_parts_125 : decode cX8_parts 125 = .ok (.ireturn, 1) := by decide +kernel
set_option maxRecDepth 20000 in
theorem ggX8_prices_X8_isPrice : GoodIn wsX8_prices wsX8_isPrice := goodIn_r _ [9] rfl (by decide +kernel)
set_option maxRecDepth 20000 in
theorem gX8_prices_X8_isPrice : GoodIn wsX8_prices (va_wsS RX8 168 yX8_isPrice wsX8_isPrice) := goodIn_app (goodIn_r _ [6, 7, 8] rfl (by decide +kernel)) ggX8_prices_X8_isPrice
theorem dX8_prices_0 : decode cX8_prices 0 = .ok (.iload_n 1, 1) := by decide +kernel
theorem dX8_prices_1 : decode cX8_prices 1 = .ok (.invokestatic 168, 3) := by decide +kernel
theorem dX8_prices_4 : decode cX8_prices 4 = .ok (.ifCond .eq 25, 3) := by decide +kernel
theorem dX8_prices_7 : decode cX8_prices 7 = .ok (.iload_n 2, 1) := by decide +kernel
theorem dX8_prices_8 : decode cX8_prices 8 = .ok (.invokestatic 168, 3) := by decide +kernel
theorem dX8_prices_11 : decode cX8_prices 11 = .ok (.ifCond .eq 18, 3) := by decide +kernel
theorem dX8_prices_14 : decode cX8_prices 14 = .ok (.iload_n 3, 1) := by decide +kernel
theorem dX8_prices_15 : decode cX8_prices 15 = .ok (.invokestatic 168, 3) := by decide +kernel
theorem dX8_prices_18 : decode cX8_prices 18 = .ok (.ifCond .eq 11, 3) := by decide +kernel
theorem dX8_prices_21 : decode cX8_prices 21 = .ok (.iload 4, 2) := by decide +kernel
theorem dX8_prices_23 : decode cX8_prices 23 = .ok (.invokestatic 168, 3) := by decide +kernel
theorem dX8_prices_26 : decode cX8_prices 26 = .ok (.ifCond .ne 6, 3) := by decide +kernel
theorem dX8_prices_29 : decode cX8_prices 29 = .ok (.bipush (-2), 2) := by decide +kernel
theorem dX8_prices_31 : decode cX8_prices 31 = .ok (.ireturn, 1) := by decide +kernel
theorem dX8_prices_32 : decode cX8_prices 32 = .ok (.aload_n 0, 1) := by decide +kernel
theorem dX8_prices_33 : decode cX8_prices 33 = .ok (.getfield 46, 3) := by decide +kernel
theorem dX8_prices_36 : decode cX8_prices 36 = .ok (.iload_n 1, 1) := by decide +kernel
theorem dX8_prices_37 : decode cX8_prices 37 = .ok (.putfield 171, 3) := by decide +kernel
theorem dX8_prices_40 : decode cX8_prices 40 = .ok (.aload_n 0, 1) := by decide +kernel
theorem dX8_prices_41 : decode cX8_prices 41 = .ok (.getfield 46, 3) := by decide +kernel
theorem dX8_prices_44 : decode cX8_prices 44 = .ok (.iload_n 2, 1) := by decide +kernel
theorem dX8_prices_45 : decode cX8_prices 45 = .ok (.putfield 174, 3) := by decide +kernel
theorem dX8_prices_48 : decode cX8_prices 48 = .ok (.aload_n 0, 1) := by decide +kernel
theorem dX8_prices_49 : decode cX8_prices 49 = .ok (.getfield 46, 3) := by decide +kernel
theorem dX8_prices_52 : decode cX8_prices 52 = .ok (.iload_n 3, 1) := by decide +kernel
theorem dX8_prices_53 : decode cX8_prices 53 = .ok (.putfield 177, 3) := by decide +kernel
theorem dX8_prices_56 : decode cX8_prices 56 = .ok (.aload_n 0, 1) := by decide +kernel
theorem dX8_prices_57 : decode cX8_prices 57 = .ok (.getfield 46, 3) := by decide +kernel
theorem dX8_prices_60 : decode cX8_prices 60 = .ok (.iload 4, 2) := by decide +kernel
theorem dX8_prices_62 : decode cX8_prices 62 = .ok (.putfield 180, 3) := by decide +kernel
theorem dX8_prices_65 : decode cX8_prices 65 = .ok (.iconst 1, 1) := by decide +kernel
theorem dX8_prices_66 : decode cX8_prices 66 = .ok (.ireturn, 1) := by decide +kernel
