theorem dX0_init_0 : decode cX0_init 0 = .ok (.aload_n 0, 1) := by decide +kernel
theorem dX0_init_1 : decode cX0_init 1 = .ok (.invokespecial 3, 3) := by decide +kernel
theorem dX0_init_4 : decode cX0_init 4 = .ok (.aload_n 0, 1) := by decide +kernel
theorem dX0_init_5 : decode cX0_init 5 = .ok (.sipush 400, 3) := by decide +kernel
theorem dX0_init_8 : decode cX0_init 8 = .ok (.newarray .long, 2) := by decide +kernel
theorem dX0_init_10 : decode cX0_init 10 = .ok (.putfield 9, 3) := by decide +kernel
theorem dX0_init_13 : decode cX0_init 13 = .ok (.return_, 1) := by decide +kernel
theorem dX0_put_0 : decode cX0_put 0 = .ok (.iload_n 1, 1) := by decide +kernel
theorem dX0_put_1 : decode cX0_put 1 = .ok (.ifCond .lt 22, 3) := by decide +kernel
theorem dX0_put_4 : decode cX0_put 4 = .ok (.iload_n 1, 1) := by decide +kernel
theorem dX0_put_5 : decode cX0_put 5 = .ok (.sipush 399, 3) := by decide +kernel
theorem dX0_put_8 : decode cX0_put 8 = .ok (.if_icmp .gt 15, 3) := by decide +kernel
theorem dX0_put_11 : decode cX0_put 11 = .ok (.aload_n 0, 1) := by decide +kernel
theorem dX0_put_12 : decode cX0_put 12 = .ok (.getfield 9, 3) := by decide +kernel
theorem dX0_put_15 : decode cX0_put 15 = .ok (.iload_n 1, 1) := by decide +kernel
theorem dX0_put_16 : decode cX0_put 16 = .ok (.dup2, 1) := by decide +kernel
theorem dX0_put_17 : decode cX0_put 17 = .ok (.laload, 1) := by decide +kernel
theorem dX0_put_18 : decode cX0_put 18 = .ok (.lconst 1, 1) := by decide +kernel
theorem dX0_put_19 : decode cX0_put 19 = .ok (.iload_n 2, 1) := by decide +kernel
theorem dX0_put_20 : decode cX0_put 20 = .ok (.lshl, 1) := by decide +kernel
theorem dX0_put_21 : decode cX0_put 21 = .ok (.lor, 1) := by decide +kernel
theorem dX0_put_22 : decode cX0_put 22 = .ok (.lastore, 1) := by decide +kernel
theorem dX0_put_23 : decode cX0_put 23 = .ok (.return_, 1) := by decide +kernel
theorem dX0_drop_0 : decode cX0_drop 0 = .ok (.iload_n 1, 1) := by decide +kernel
theorem dX0_drop_1 : decode cX0_drop 1 = .ok (.ifCond .lt 26, 3) := by decide +kernel
theorem dX0_drop_4 : decode cX0_drop 4 = .ok (.iload_n 1, 1) := by decide +kernel
theorem dX0_drop_5 : decode cX0_drop 5 = .ok (.sipush 399, 3) := by decide +kernel
theorem dX0_drop_8 : decode cX0_drop 8 = .ok (.if_icmp .gt 19, 3) := by decide +kernel
theorem dX0_drop_11 : decode cX0_drop 11 = .ok (.aload_n 0, 1) := by decide +kernel
theorem dX0_drop_12 : decode cX0_drop 12 = .ok (.getfield 9, 3) := by decide +kernel
theorem dX0_drop_15 : decode cX0_drop 15 = .ok (.iload_n 1, 1) := by decide +kernel
theorem dX0_drop_16 : decode cX0_drop 16 = .ok (.dup2, 1) := by decide +kernel
theorem dX0_drop_17 : decode cX0_drop 17 = .ok (.laload, 1) := by decide +kernel
theorem dX0_drop_18 : decode cX0_drop 18 = .ok (.lconst 1, 1) := by decide +kernel
theorem dX0_drop_19 : decode cX0_drop 19 = .ok (.iload_n 2, 1) := by decide +kernel
theorem dX0_drop_20 : decode cX0_drop 20 = .ok (.lshl, 1) := by decide +kernel
theorem dX0_drop_21 : decode cX0_drop 21 = .ok (.ldc2_w 15, 3) := by decide +kernel
theorem dX0_drop_24 : decode cX0_drop 24 = .ok (.lxor, 1) := by decide +kernel
theorem dX0_drop_25 : decode cX0_drop 25 = .ok (.land, 1) := by decide +kernel
theorem dX0_drop_26 : decode cX0_drop 26 = .ok (.lastore, 1) := by decide +kernel
theorem dX0_drop_27 : decode cX0_drop 27 = .ok (.return_, 1) := by decide +kernel
theorem dX0_at_0 : decode cX0_at 0 = .ok (.iload_n 1, 1) := by decide +kernel
theorem dX0_at_1 : decode cX0_at 1 = .ok (.ifCond .lt 19, 3) := by decide +kernel
theorem dX0_at_4 : decode cX0_at 4 = .ok (.iload_n 1, 1) := by decide +kernel
theorem dX0_at_5 : decode cX0_at 5 = .ok (.sipush 399, 3) := by decide +kernel
theorem dX0_at_8 : decode cX0_at 8 = .ok (.if_icmp .gt 12, 3) := by decide +kernel
theorem dX0_at_11 : decode cX0_at 11 = .ok (.aload_n 0, 1) := by decide +kernel
theorem dX0_at_12 : decode cX0_at 12 = .ok (.getfield 9, 3) := by decide +kernel
theorem dX0_at_15 : decode cX0_at 15 = .ok (.iload_n 1, 1) := by decide +kernel
theorem dX0_at_16 : decode cX0_at 16 = .ok (.laload, 1) := by decide +kernel
theorem dX0_at_17 : decode cX0_at 17 = .ok (.goto 4, 3) := by decide +kernel
theorem dX0_at_20 : decode cX0_at 20 = .ok (.lconst 0, 1) := by decide +kernel
theorem dX0_at_21 : decode cX0_at 21 = .ok (.lreturn, 1) := by decide +kernel
set_option maxRecDepth 20000 in
theorem ggX0_empty_J7_fill_d0a16 : GoodIn wsX0_empty wsJ7_fill_d0a16 := goodIn_r _ [5] rfl (by decide +kernel)
set_option maxRecDepth 20000 in
theorem gX0_empty_J7_fill_d0a16 : GoodIn wsX0_empty (va_wsS RX0 17 yJ7_fill_d0a16 wsJ7_fill_d0a16) := goodIn_app (goodIn_r _ [2, 3, 4] rfl (by decide +kernel)) ggX0_empty_J7_fill_d0a16
theorem dX0_empty_0 : decode cX0_empty 0 = .ok (.aload_n 0, 1) := by decide +kernel
theorem dX0_empty_1 : decode cX0_empty 1 = .ok (.getfield 9, 3) := by decide +kernel
theorem dX0_empty_4 : decode cX0_empty 4 = .ok (.lconst 0, 1) := by decide +kernel
theorem dX0_empty_5 : decode cX0_empty 5 = .ok (.invokestatic 17, 3) := by decide +kernel
theorem dX0_empty_8 : decode cX0_empty 8 = .ok (.return_, 1) := by decide +kernel
set_option maxRecDepth 20000 in
theorem ggX1_init_X0_init : GoodIn wsX1_init wsX0_init := goodIn_r _ [22, 23, 2, 3, 14, 24, 37] rfl (by decide +kernel)
set_option maxRecDepth 20000 in
theorem gX1_init_X0_init_n50 : GoodIn wsX1_init (wsX0_init) := ggX1_init_X0_init
theorem dX1_init_0 : decode cX1_init 0 = .ok (.aload_n 0, 1) := by decide +kernel
theorem dX1_init_1 : decode cX1_init 1 = .ok (.invokespecial 3, 3) := by decide +kernel
theorem dX1_init_4 : decode cX1_init 4 = .ok (.aload_n 0, 1) := by decide +kernel
theorem dX1_init_5 : decode cX1_init 5 = .ok (.iconst 0, 1) := by decide +kernel
theorem dX1_init_6 : decode cX1_init 6 = .ok (.putfield 9, 3) := by decide +kernel
theorem dX1_init_9 : decode cX1_init 9 = .ok (.aload_n 0, 1) := by decide +kernel
theorem dX1_init_10 : decode cX1_init 10 = .ok (.bipush 60, 2) := by decide +kernel
theorem dX1_init_12 : decode cX1_init 12 = .ok (.newarray .int, 2) := by decide +kernel
theorem dX1_init_14 : decode cX1_init 14 = .ok (.putfield 15, 3) := by decide +kernel
theorem dX1_init_17 : decode cX1_init 17 = .ok (.aload_n 0, 1) := by decide +kernel
theorem dX1_init_18 : decode cX1_init 18 = .ok (.bipush 60, 2) := by decide +kernel
theorem dX1_init_20 : decode cX1_init 20 = .ok (.newarray .int, 2) := by decide +kernel
theorem dX1_init_22 : decode cX1_init 22 = .ok (.putfield 19, 3) := by decide +kernel
theorem dX1_init_25 : decode cX1_init 25 = .ok (.aload_n 0, 1) := by decide +kernel
theorem dX1_init_26 : decode cX1_init 26 = .ok (.bipush 60, 2) := by decide +kernel
theorem dX1_init_28 : decode cX1_init 28 = .ok (.newarray .int, 2) := by decide +kernel
theorem dX1_init_30 : decode cX1_init 30 = .ok (.putfield 22, 3) := by decide +kernel
theorem dX1_init_33 : decode cX1_init 33 = .ok (.aload_n 0, 1) := by decide +kernel
theorem dX1_init_34 : decode cX1_init 34 = .ok (.bipush 60, 2) := by decide +kernel
theorem dX1_init_36 : decode cX1_init 36 = .ok (.newarray .int, 2) := by decide +kernel
theorem dX1_init_38 : decode cX1_init 38 = .ok (.putfield 25, 3) := by decide +kernel
theorem dX1_init_41 : decode cX1_init 41 = .ok (.aload_n 0, 1) := by decide +kernel
theorem dX1_init_42 : decode cX1_init 42 = .ok (.bipush 60, 2) := by decide +kernel
theorem dX1_init_44 : decode cX1_init 44 = .ok (.newarray .int, 2) := by decide +kernel
theorem dX1_init_46 : decode cX1_init 46 = .ok (.putfield 28, 3) := by decide +kernel
theorem dX1_init_49 : decode cX1_init 49 = .ok (.aload_n 0, 1) := by decide +kernel
theorem dX1_init_50 : decode cX1_init 50 = .ok (.bipush 60, 2) := by decide +kernel
theorem dX1_init_52 : decode cX1_init 52 = .ok (.newarray .int, 2) := by decide +kernel
theorem dX1_init_54 : decode cX1_init 54 = .ok (.putfield 31, 3) := by decide +kernel
theorem dX1_init_57 : decode cX1_init 57 = .ok (.aload_n 0, 1) := by decide +kernel
theorem dX1_init_58 : decode cX1_init 58 = .ok (.bipush 60, 2) := by decide +kernel
theorem dX1_init_60 : decode cX1_init 60 = .ok (.newarray .int, 2) := by decide +kernel
theorem dX1_init_62 : decode cX1_init 62 = .ok (.putfield 34, 3) := by decide +kernel
theorem dX1_init_65 : decode cX1_init 65 = .ok (.aload_n 0, 1) := by decide +kernel
theorem dX1_init_66 : decode cX1_init 66 = .ok (.sipush 180, 3) := by decide +kernel
theorem dX1_init_69 : decode cX1_init 69 = .ok (.newarray .int, 2) := by decide +kernel
theorem dX1_init_71 : decode cX1_init 71 = .ok (.putfield 37, 3) := by decide +kernel
theorem dX1_init_74 : decode cX1_init 74 = .ok (.aload_n 0, 1) := by decide +kernel
theorem dX1_init_75 : decode cX1_init 75 = .ok (.bipush 60, 2) := by decide +kernel
theorem dX1_init_77 : decode cX1_init 77 = .ok (.newarray .long, 2) := by decide +kernel
theorem dX1_init_79 : decode cX1_init 79 = .ok (.putfield 40, 3) := by decide +kernel
theorem dX1_init_82 : decode cX1_init 82 = .ok (.aload_n 0, 1) := by decide +kernel
theorem dX1_init_83 : decode cX1_init 83 = .ok (.lconst 0, 1) := by decide +kernel
theorem dX1_init_84 : decode cX1_init 84 = .ok (.putfield 44, 3) := by decide +kernel
theorem dX1_init_87 : decode cX1_init 87 = .ok (.aload_n 0, 1) := by decide +kernel
theorem dX1_init_88 : decode cX1_init 88 = .ok (.new 48, 3) := by decide +kernel
theorem dX1_init_91 : decode cX1_init 91 = .ok (.dup, 1) := by decide +kernel
theorem dX1_init_92 : decode cX1_init 92 = .ok (.invokespecial 50, 3) := by decide +kernel
theorem dX1_init_95 : decode cX1_init 95 = .ok (.putfield 51, 3) := by decide +kernel
theorem dX1_init_98 : decode cX1_init 98 = .ok (.return_, 1) := by decide +kernel
theorem dX1_isNumber_0 : decode cX1_isNumber 0 = .ok (.iload_n 1, 1) := by decide +kernel
theorem dX1_isNumber_1 : decode cX1_isNumber 1 = .ok (.ifCond .lt 15, 3) := by decide +kernel
theorem dX1_isNumber_4 : decode cX1_isNumber 4 = .ok (.iload_n 1, 1) := by decide +kernel
theorem dX1_isNumber_5 : decode cX1_isNumber 5 = .ok (.aload_n 0, 1) := by decide +kernel
theorem dX1_isNumber_6 : decode cX1_isNumber 6 = .ok (.getfield 9, 3) := by decide +kernel
theorem dX1_isNumber_9 : decode cX1_isNumber 9 = .ok (.if_icmp .ge 7, 3) := by decide +kernel
theorem dX1_isNumber_12 : decode cX1_isNumber 12 = .ok (.iconst 1, 1) := by decide +kernel
theorem dX1_isNumber_13 : decode cX1_isNumber 13 = .ok (.goto 4, 3) := by decide +kernel
theorem dX1_isNumber_16 : decode cX1_isNumber 16 = .ok (.iconst 0, 1) := by decide +kernel
theorem dX1_isNumber_17 : decode cX1_isNumber 17 = .ok (.ireturn, 1) := by decide +kernel
set_option maxRecDepth 20000 in
theorem ggX1_isLesser_X1_isNumber : GoodIn wsX1_isLesser wsX1_isNumber := goodIn_r _ [5, 6, 7, 8, 9, 10, 11, 12, 13, 14, 15, 16, 17, 18] rfl (by decide +kernel)
set_option maxRecDepth 20000 in
theorem gX1_isLesser_X1_isNumber : GoodIn wsX1_isLesser (wsV RX1 55 RX1 yX1_isNumber wsX1_isNumber) := goodIn_app (goodIn_r _ [1, 2, 3, 4] rfl (by decide +kernel)) ggX1_isLesser_X1_isNumber
theorem dX1_isLesser_0 : decode cX1_isLesser 0 = .ok (.aload_n 0, 1) := by decide +kernel
theorem dX1_isLesser_1 : decode cX1_isLesser 1 = .ok (.iload_n 2, 1) := by decide +kernel
theorem dX1_isLesser_2 : decode cX1_isLesser 2 = .ok (.invokevirtual 55, 3) := by decide +kernel
theorem dX1_isLesser_5 : decode cX1_isLesser 5 = .ok (.ifCond .eq 16, 3) := by decide +kernel
theorem dX1_isLesser_8 : decode cX1_isLesser 8 = .ok (.iload_n 1, 1) := by decide +kernel
theorem dX1_isLesser_9 : decode cX1_isLesser 9 = .ok (.ifCond .lt 12, 3) := by decide +kernel
theorem dX1_isLesser_12 : decode cX1_isLesser 12 = .ok (.iload_n 1, 1) := by decide +kernel
theorem dX1_isLesser_13 : decode cX1_isLesser 13 = .ok (.iload_n 2, 1) := by decide +kernel
theorem dX1_isLesser_14 : decode cX1_isLesser 14 = .ok (.if_icmp .ge 7, 3) := by decide +kernel
theorem dX1_isLesser_17 : decode cX1_isLesser 17 = .ok (.iconst 1, 1) := by decide +kernel
theorem dX1_isLesser_18 : decode cX1_isLesser 18 = .ok (.goto 4, 3) := by decide +kernel
theorem dX1_isLesser_21 : decode cX1_isLesser 21 = .ok (.iconst 0, 1) := by decide +kernel
theorem dX1_isLesser_22 : decode cX1_isLesser 22 = .ok (.ireturn, 1) := by decide +kernel
set_option maxRecDepth 20000 in
theorem ggX1_add_X0_put : GoodIn wsX1_add wsX0_put := goodIn_r _ [14, 15, 28] rfl (by decide +kernel)
set_option maxRecDepth 20000 in
theorem gX1_add_X0_put : GoodIn wsX1_add (wsV RX1 60 RX0 yX0_put wsX0_put) := goodIn_app (goodIn_r _ [10, 11, 12, 13] rfl (by decide +kernel)) ggX1_add_X0_put
theorem dX1_add_0 : decode cX1_add 0 = .ok (.iload_n 1, 1) := by decide +kernel
theorem dX1_add_1 : decode cX1_add 1 = .ok (.ifCond .lt 55, 3) := by decide +kernel
theorem dX1_add_4 : decode cX1_add 4 = .ok (.iload_n 1, 1) := by decide +kernel
theorem dX1_add_5 : decode cX1_add 5 = .ok (.sipush 399, 3) := by decide +kernel
theorem dX1_add_8 : decode cX1_add 8 = .ok (.if_icmp .gt 48, 3) := by decide +kernel
theorem dX1_add_11 : decode cX1_add 11 = .ok (.iload_n 2, 1) := by decide +kernel
theorem dX1_add_12 : decode cX1_add 12 = .ok (.iconst 1, 1) := by decide +kernel
theorem dX1_add_13 : decode cX1_add 13 = .ok (.if_icmp .lt 43, 3) := by decide +kernel
theorem dX1_add_16 : decode cX1_add 16 = .ok (.iload_n 2, 1) := by decide +kernel
theorem dX1_add_17 : decode cX1_add 17 = .ok (.ldc 59, 2) := by decide +kernel
theorem dX1_add_19 : decode cX1_add 19 = .ok (.if_icmp .gt 37, 3) := by decide +kernel
theorem dX1_add_22 : decode cX1_add 22 = .ok (.iload_n 3, 1) := by decide +kernel
theorem dX1_add_23 : decode cX1_add 23 = .ok (.iconst 1, 1) := by decide +kernel
theorem dX1_add_24 : decode cX1_add 24 = .ok (.if_icmp .lt 32, 3) := by decide +kernel
theorem dX1_add_27 : decode cX1_add 27 = .ok (.iload_n 3, 1) := by decide +kernel
theorem dX1_add_28 : decode cX1_add 28 = .ok (.bipush 20, 2) := by decide +kernel
theorem dX1_add_30 : decode cX1_add 30 = .ok (.if_icmp .gt 26, 3) := by decide +kernel
theorem dX1_add_33 : decode cX1_add 33 = .ok (.iload 4, 2) := by decide +kernel
theorem dX1_add_35 : decode cX1_add 35 = .ok (.iconst (-1), 1) := by decide +kernel
theorem dX1_add_36 : decode cX1_add 36 = .ok (.if_icmp .eq 16, 3) := by decide +kernel
theorem dX1_add_39 : decode cX1_add 39 = .ok (.iload 4, 2) := by decide +kernel
theorem dX1_add_41 : decode cX1_add 41 = .ok (.iconst 1, 1) := by decide +kernel
theorem dX1_add_42 : decode cX1_add 42 = .ok (.if_icmp .lt 14, 3) := by decide +kernel
theorem dX1_add_45 : decode cX1_add 45 = .ok (.iload 4, 2) := by decide +kernel
theorem dX1_add_47 : decode cX1_add 47 = .ok (.bipush 100, 2) := by decide +kernel
theorem dX1_add_49 : decode cX1_add 49 = .ok (.if_icmp .gt 7, 3) := by decide +kernel
theorem dX1_add_52 : decode cX1_add 52 = .ok (.iconst 1, 1) := by decide +kernel
theorem dX1_add_53 : decode cX1_add 53 = .ok (.goto 4, 3) := by decide +kernel
theorem dX1_add_56 : decode cX1_add 56 = .ok (.iconst 0, 1) := by decide +kernel
theorem dX1_add_57 : decode cX1_add 57 = .ok (.istore 5, 2) := by decide +kernel
theorem dX1_add_59 : decode cX1_add 59 = .ok (.iload 5, 2) := by decide +kernel
theorem dX1_add_61 : decode cX1_add 61 = .ok (.ifCond .ne 6, 3) := by decide +kernel
theorem dX1_add_64 : decode cX1_add 64 = .ok (.bipush (-2), 2) := by decide +kernel
theorem dX1_add_66 : decode cX1_add 66 = .ok (.ireturn, 1) := by decide +kernel
theorem dX1_add_67 : decode cX1_add 67 = .ok (.aload_n 0, 1) := by decide +kernel
theorem dX1_add_68 : decode cX1_add 68 = .ok (.getfield 9, 3) := by decide +kernel
theorem dX1_add_71 : decode cX1_add 71 = .ok (.bipush 60, 2) := by decide +kernel
theorem dX1_add_73 : decode cX1_add 73 = .ok (.if_icmp .lt 6, 3) := by decide +kernel
theorem dX1_add_76 : decode cX1_add 76 = .ok (.bipush (-3), 2) := by decide +kernel
theorem dX1_add_78 : decode cX1_add 78 = .ok (.ireturn, 1) := by decide +kernel
theorem dX1_add_79 : decode cX1_add 79 = .ok (.aload_n 0, 1) := by decide +kernel
theorem dX1_add_80 : decode cX1_add 80 = .ok (.getfield 9, 3) := by decide +kernel
theorem dX1_add_83 : decode cX1_add 83 = .ok (.istore 6, 2) := by decide +kernel
theorem dX1_add_85 : decode cX1_add 85 = .ok (.aload_n 0, 1) := by decide +kernel
theorem dX1_add_86 : decode cX1_add 86 = .ok (.getfield 15, 3) := by decide +kernel
theorem dX1_add_89 : decode cX1_add 89 = .ok (.iload 6, 2) := by decide +kernel
theorem dX1_add_91 : decode cX1_add 91 = .ok (.iload_n 1, 1) := by decide +kernel
theorem dX1_add_92 : decode cX1_add 92 = .ok (.iastore, 1) := by decide +kernel
theorem dX1_add_93 : decode cX1_add 93 = .ok (.aload_n 0, 1) := by decide +kernel
theorem dX1_add_94 : decode cX1_add 94 = .ok (.getfield 19, 3) := by decide +kernel
theorem dX1_add_97 : decode cX1_add 97 = .ok (.iload 6, 2) := by decide +kernel
theorem dX1_add_99 : decode cX1_add 99 = .ok (.iload_n 2, 1) := by decide +kernel
theorem dX1_add_100 : decode cX1_add 100 = .ok (.iastore, 1) := by decide +kernel
theorem dX1_add_101 : decode cX1_add 101 = .ok (.aload_n 0, 1) := by decide +kernel
theorem dX1_add_102 : decode cX1_add 102 = .ok (.getfield 22, 3) := by decide +kernel
theorem dX1_add_105 : decode cX1_add 105 = .ok (.iload 6, 2) := by decide +kernel
theorem dX1_add_107 : decode cX1_add 107 = .ok (.iload_n 3, 1) := by decide +kernel
theorem dX1_add_108 : decode cX1_add 108 = .ok (.iastore, 1) := by decide +kernel
theorem dX1_add_109 : decode cX1_add 109 = .ok (.aload_n 0, 1) := by decide +kernel
theorem dX1_add_110 : decode cX1_add 110 = .ok (.getfield 25, 3) := by decide +kernel
theorem dX1_add_113 : decode cX1_add 113 = .ok (.iload 6, 2) := by decide +kernel
theorem dX1_add_115 : decode cX1_add 115 = .ok (.iload 4, 2) := by decide +kernel
theorem dX1_add_117 : decode cX1_add 117 = .ok (.iastore, 1) := by decide +kernel
theorem dX1_add_118 : decode cX1_add 118 = .ok (.aload_n 0, 1) := by decide +kernel
theorem dX1_add_119 : decode cX1_add 119 = .ok (.getfield 28, 3) := by decide +kernel
theorem dX1_add_122 : decode cX1_add 122 = .ok (.iload 6, 2) := by decide +kernel
theorem dX1_add_124 : decode cX1_add 124 = .ok (.iconst (-1), 1) := by decide +kernel
theorem dX1_add_125 : decode cX1_add 125 = .ok (.iastore, 1) := by decide +kernel
theorem dX1_add_126 : decode cX1_add 126 = .ok (.aload_n 0, 1) := by decide +kernel
theorem dX1_add_127 : decode cX1_add 127 = .ok (.getfield 31, 3) := by decide +kernel
theorem dX1_add_130 : decode cX1_add 130 = .ok (.iload 6, 2) := by decide +kernel
theorem dX1_add_132 : decode cX1_add 132 = .ok (.iconst (-1), 1) := by decide +kernel
theorem dX1_add_133 : decode cX1_add 133 = .ok (.iastore, 1) := by decide +kernel
theorem dX1_add_134 : decode cX1_add 134 = .ok (.aload_n 0, 1) := by decide +kernel
theorem dX1_add_135 : decode cX1_add 135 = .ok (.getfield 51, 3) := by decide +kernel
theorem dX1_add_138 : decode cX1_add 138 = .ok (.iload_n 1, 1) := by decide +kernel
theorem dX1_add_139 : decode cX1_add 139 = .ok (.iload 6, 2) := by decide +kernel
theorem dX1_add_141 : decode cX1_add 141 = .ok (.invokevirtual 60, 3) := by decide +kernel
theorem dX1_add_144 : decode cX1_add 144 = .ok (.aload_n 0, 1) := by decide +kernel
theorem dX1_add_145 : decode cX1_add 145 = .ok (.dup, 1) := by decide +kernel
theorem dX1_add_146 : decode cX1_add 146 = .ok (.getfield 9, 3) := by decide +kernel
theorem dX1_add_149 : decode cX1_add 149 = .ok (.iconst 1, 1) := by decide +kernel
theorem dX1_add_150 : decode cX1_add 150 = .ok (.iadd, 1) := by decide +kernel
theorem dX1_add_151 : decode cX1_add 151 = .ok (.putfield 9, 3) := by decide +kernel
theorem dX1_add_154 : decode cX1_add 154 = .ok (.iload 6, 2) := by decide +kernel
theorem dX1_add_156 : decode cX1_add 156 = .ok (.ireturn, 1) := by decide +kernel
set_option maxRecDepth 20000 in
theorem ggX1_addHang_X8_only : GoodIn wsX1_addHang wsX8_only := goodIn_r _ [6] rfl (by decide +kernel)
set_option maxRecDepth 20000 in
theorem gX1_addHang_X8_only_n64 : GoodIn wsX1_addHang (wsX8_only) := ggX1_addHang_X8_only
theorem dX1_addHang_0 : decode cX1_addHang 0 = .ok (.aload_n 0, 1) := by decide +kernel
theorem dX1_addHang_1 : decode cX1_addHang 1 = .ok (.getfield 34, 3) := by decide +kernel
theorem dX1_addHang_4 : decode cX1_addHang 4 = .ok (.iload_n 1, 1) := by decide +kernel
theorem dX1_addHang_5 : decode cX1_addHang 5 = .ok (.iaload, 1) := by decide +kernel
theorem dX1_addHang_6 : decode cX1_addHang 6 = .ok (.istore_n 3, 1) := by decide +kernel
theorem dX1_addHang_7 : decode cX1_addHang 7 = .ok (.iload_n 3, 1) := by decide +kernel
theorem dX1_addHang_8 : decode cX1_addHang 8 = .ok (.iconst 3, 1) := by decide +kernel
theorem dX1_addHang_9 : decode cX1_addHang 9 = .ok (.if_icmp .lt 6, 3) := by decide +kernel
theorem dX1_addHang_12 : decode cX1_addHang 12 = .ok (.bipush (-3), 2) := by decide +kernel
theorem dX1_addHang_14 : decode cX1_addHang 14 = .ok (.ireturn, 1) := by decide +kernel
theorem dX1_addHang_15 : decode cX1_addHang 15 = .ok (.aload_n 0, 1) := by decide +kernel
theorem dX1_addHang_16 : decode cX1_addHang 16 = .ok (.getfield 37, 3) := by decide +kernel
theorem dX1_addHang_19 : decode cX1_addHang 19 = .ok (.iload_n 1, 1) := by decide +kernel
theorem dX1_addHang_20 : decode cX1_addHang 20 = .ok (.iconst 3, 1) := by decide +kernel
theorem dX1_addHang_21 : decode cX1_addHang 21 = .ok (.imul, 1) := by decide +kernel
theorem dX1_addHang_22 : decode cX1_addHang 22 = .ok (.iload_n 3, 1) := by decide +kernel
theorem dX1_addHang_23 : decode cX1_addHang 23 = .ok (.iadd, 1) := by decide +kernel
theorem dX1_addHang_24 : decode cX1_addHang 24 = .ok (.iload_n 2, 1) := by decide +kernel
theorem dX1_addHang_25 : decode cX1_addHang 25 = .ok (.iastore, 1) := by decide +kernel
theorem dX1_addHang_26 : decode cX1_addHang 26 = .ok (.aload_n 0, 1) := by decide +kernel
theorem dX1_addHang_27 : decode cX1_addHang 27 = .ok (.getfield 34, 3) := by decide +kernel
theorem dX1_addHang_30 : decode cX1_addHang 30 = .ok (.iload_n 1, 1) := by decide +kernel
theorem dX1_addHang_31 : decode cX1_addHang 31 = .ok (.iload_n 3, 1) := by decide +kernel
theorem dX1_addHang_32 : decode cX1_addHang 32 = .ok (.iconst 1, 1) := by decide +kernel
theorem dX1_addHang_33 : decode cX1_addHang 33 = .ok (.iadd, 1) := by decide +kernel
theorem dX1_addHang_34 : decode cX1_addHang 34 = .ok (.iastore, 1) := by decide +kernel
theorem dX1_addHang_35 : decode cX1_addHang 35 = .ok (.aload_n 0, 1) := by decide +kernel
theorem dX1_addHang_36 : decode cX1_addHang 36 = .ok (.getfield 40, 3) := by decide +kernel
theorem dX1_addHang_39 : decode cX1_addHang 39 = .ok (.iload_n 1, 1) := by decide +kernel
theorem dX1_addHang_40 : decode cX1_addHang 40 = .ok (.dup2, 1) := by decide +kernel
theorem dX1_addHang_41 : decode cX1_addHang 41 = .ok (.laload, 1) := by decide +kernel
theorem dX1_addHang_42 : decode cX1_addHang 42 = .ok (.iload_n 2, 1) := by decide +kernel
theorem dX1_addHang_43 : decode cX1_addHang 43 = .ok (.invokestatic 64, 3) := by decide +kernel
theorem dX1_addHang_46 : decode cX1_addHang 46 = .ok (.lor, 1) := by decide +kernel
theorem dX1_addHang_47 : decode cX1_addHang 47 = .ok (.lastore, 1) := by decide +kernel
theorem dX1_addHang_48 : decode cX1_addHang 48 = .ok (.iload_n 3, 1) := by decide +kernel
theorem dX1_addHang_49 : decode cX1_addHang 49 = .ok (.iconst 1, 1) := by decide +kernel
theorem dX1_addHang_50 : decode cX1_addHang 50 = .ok (.iadd, 1) := by decide +kernel
theorem dX1_addHang_51 : decode cX1_addHang 51 = .ok (.ireturn, 1) := by decide +kernel
set_option maxRecDepth 20000 in
theorem ggX1_addFix_X8_only : GoodIn wsX1_addFix wsX8_only := goodIn_r _ [9] rfl (by decide +kernel)
set_option maxRecDepth 20000 in
theorem gX1_addFix_X8_only_n64 : GoodIn wsX1_addFix (wsX8_only) := ggX1_addFix_X8_only
set_option maxRecDepth 20000 in
theorem ggX1_addFix_X0_drop : GoodIn wsX1_addFix wsX0_drop := goodIn_r _ [14, 15, 16, 29] rfl (by decide +kernel)
set_option maxRecDepth 20000 in
theorem gX1_addFix_X0_drop : GoodIn wsX1_addFix (wsV RX1 68 RX0 yX0_drop wsX0_drop) := goodIn_app (goodIn_r _ [10, 11, 12, 13] rfl (by decide +kernel)) ggX1_addFix_X0_drop
theorem dX1_addFix_0 : decode cX1_addFix 0 = .ok (.aload_n 0, 1) := by decide +kernel
theorem dX1_addFix_1 : decode cX1_addFix 1 = .ok (.getfield 25, 3) := by decide +kernel
theorem dX1_addFix_4 : decode cX1_addFix 4 = .ok (.iload_n 2, 1) := by decide +kernel
theorem dX1_addFix_5 : decode cX1_addFix 5 = .ok (.iaload, 1) := by decide +kernel
theorem dX1_addFix_6 : decode cX1_addFix 6 = .ok (.iconst (-1), 1) := by decide +kernel
theorem dX1_addFix_7 : decode cX1_addFix 7 = .ok (.if_icmp .eq 23, 3) := by decide +kernel
theorem dX1_addFix_10 : decode cX1_addFix 10 = .ok (.aload_n 0, 1) := by decide +kernel
theorem dX1_addFix_11 : decode cX1_addFix 11 = .ok (.getfield 31, 3) := by decide +kernel
theorem dX1_addFix_14 : decode cX1_addFix 14 = .ok (.iload_n 2, 1) := by decide +kernel
theorem dX1_addFix_15 : decode cX1_addFix 15 = .ok (.iaload, 1) := by decide +kernel
theorem dX1_addFix_16 : decode cX1_addFix 16 = .ok (.iconst (-1), 1) := by decide +kernel
theorem dX1_addFix_17 : decode cX1_addFix 17 = .ok (.if_icmp .ne 13, 3) := by decide +kernel
theorem dX1_addFix_20 : decode cX1_addFix 20 = .ok (.aload_n 0, 1) := by decide +kernel
theorem dX1_addFix_21 : decode cX1_addFix 21 = .ok (.getfield 28, 3) := by decide +kernel
theorem dX1_addFix_24 : decode cX1_addFix 24 = .ok (.iload_n 1, 1) := by decide +kernel
theorem dX1_addFix_25 : decode cX1_addFix 25 = .ok (.iaload, 1) := by decide +kernel
theorem dX1_addFix_26 : decode cX1_addFix 26 = .ok (.iconst (-1), 1) := by decide +kernel
theorem dX1_addFix_27 : decode cX1_addFix 27 = .ok (.if_icmp .eq 5, 3) := by decide +kernel
theorem dX1_addFix_30 : decode cX1_addFix 30 = .ok (.iconst 0, 1) := by decide +kernel
theorem dX1_addFix_31 : decode cX1_addFix 31 = .ok (.ireturn, 1) := by decide +kernel
theorem dX1_addFix_32 : decode cX1_addFix 32 = .ok (.aload_n 0, 1) := by decide +kernel
theorem dX1_addFix_33 : decode cX1_addFix 33 = .ok (.getfield 28, 3) := by decide +kernel
theorem dX1_addFix_36 : decode cX1_addFix 36 = .ok (.iload_n 1, 1) := by decide +kernel
theorem dX1_addFix_37 : decode cX1_addFix 37 = .ok (.iload_n 2, 1) := by decide +kernel
theorem dX1_addFix_38 : decode cX1_addFix 38 = .ok (.iastore, 1) := by decide +kernel
theorem dX1_addFix_39 : decode cX1_addFix 39 = .ok (.aload_n 0, 1) := by decide +kernel
theorem dX1_addFix_40 : decode cX1_addFix 40 = .ok (.getfield 31, 3) := by decide +kernel
theorem dX1_addFix_43 : decode cX1_addFix 43 = .ok (.iload_n 2, 1) := by decide +kernel
theorem dX1_addFix_44 : decode cX1_addFix 44 = .ok (.iload_n 1, 1) := by decide +kernel
theorem dX1_addFix_45 : decode cX1_addFix 45 = .ok (.iastore, 1) := by decide +kernel
theorem dX1_addFix_46 : decode cX1_addFix 46 = .ok (.aload_n 0, 1) := by decide +kernel
theorem dX1_addFix_47 : decode cX1_addFix 47 = .ok (.dup, 1) := by decide +kernel
theorem dX1_addFix_48 : decode cX1_addFix 48 = .ok (.getfield 44, 3) := by decide +kernel
theorem dX1_addFix_51 : decode cX1_addFix 51 = .ok (.iload_n 1, 1) := by decide +kernel
theorem dX1_addFix_52 : decode cX1_addFix 52 = .ok (.invokestatic 64, 3) := by decide +kernel
theorem dX1_addFix_55 : decode cX1_addFix 55 = .ok (.lor, 1) := by decide +kernel
theorem dX1_addFix_56 : decode cX1_addFix 56 = .ok (.putfield 44, 3) := by decide +kernel
theorem dX1_addFix_59 : decode cX1_addFix 59 = .ok (.aload_n 0, 1) := by decide +kernel
theorem dX1_addFix_60 : decode cX1_addFix 60 = .ok (.getfield 51, 3) := by decide +kernel
theorem dX1_addFix_63 : decode cX1_addFix 63 = .ok (.aload_n 0, 1) := by decide +kernel
theorem dX1_addFix_64 : decode cX1_addFix 64 = .ok (.getfield 15, 3) := by decide +kernel
theorem dX1_addFix_67 : decode cX1_addFix 67 = .ok (.iload_n 1, 1) := by decide +kernel
theorem dX1_addFix_68 : decode cX1_addFix 68 = .ok (.iaload, 1) := by decide +kernel
theorem dX1_addFix_69 : decode cX1_addFix 69 = .ok (.iload_n 1, 1) := by decide +kernel
theorem dX1_addFix_70 : decode cX1_addFix 70 = .ok (.invokevirtual 68, 3) := by decide +kernel
theorem dX1_addFix_73 : decode cX1_addFix 73 = .ok (.iconst 1, 1) := by decide +kernel
theorem dX1_addFix_74 : decode cX1_addFix 74 = .ok (.ireturn, 1) := by decide +kernel
set_option maxRecDepth 20000 in
theorem ggX1_tell_X1_hangAt : GoodIn wsX1_tell wsX1_hangAt := goodIn_r _ [12, 7, 13, 14, 15, 16, 17, 18, 19, 20, 21, 22, 23, 24, 25] rfl (by decide +kernel)
set_option maxRecDepth 20000 in
theorem gX1_tell_X1_hangAt : GoodIn wsX1_tell (wsV RX1 71 RX1 yX1_hangAt wsX1_hangAt) := goodIn_app (goodIn_r _ [8, 9, 10, 11] rfl (by decide +kernel)) ggX1_tell_X1_hangAt
theorem dX1_tell_0 : decode cX1_tell 0 = .ok (.iload_n 2, 1) := by decide +kernel
theorem dX1_tell_1 : decode cX1_tell 1 = .ok (.tableswitch 92 0 6 #[43, 50, 57, 64, 71, 78, 85], 43) := by decide +kernel
theorem dX1_tell_44 : decode cX1_tell 44 = .ok (.aload_n 0, 1) := by decide +kernel
theorem dX1_tell_45 : decode cX1_tell 45 = .ok (.getfield 15, 3) := by decide +kernel
theorem dX1_tell_48 : decode cX1_tell 48 = .ok (.iload_n 1, 1) := by decide +kernel
theorem dX1_tell_49 : decode cX1_tell 49 = .ok (.iaload, 1) := by decide +kernel
theorem dX1_tell_50 : decode cX1_tell 50 = .ok (.ireturn, 1) := by decide +kernel
theorem dX1_tell_51 : decode cX1_tell 51 = .ok (.aload_n 0, 1) := by decide +kernel
theorem dX1_tell_52 : decode cX1_tell 52 = .ok (.getfield 19, 3) := by decide +kernel
theorem dX1_tell_55 : decode cX1_tell 55 = .ok (.iload_n 1, 1) := by decide +kernel
theorem dX1_tell_56 : decode cX1_tell 56 = .ok (.iaload, 1) := by decide +kernel
theorem dX1_tell_57 : decode cX1_tell 57 = .ok (.ireturn, 1) := by decide +kernel
theorem dX1_tell_58 : decode cX1_tell 58 = .ok (.aload_n 0, 1) := by decide +kernel
theorem dX1_tell_59 : decode cX1_tell 59 = .ok (.getfield 22, 3) := by decide +kernel
theorem dX1_tell_62 : decode cX1_tell 62 = .ok (.iload_n 1, 1) := by decide +kernel
theorem dX1_tell_63 : decode cX1_tell 63 = .ok (.iaload, 1) := by decide +kernel
theorem dX1_tell_64 : decode cX1_tell 64 = .ok (.ireturn, 1) := by decide +kernel
theorem dX1_tell_65 : decode cX1_tell 65 = .ok (.aload_n 0, 1) := by decide +kernel
theorem dX1_tell_66 : decode cX1_tell 66 = .ok (.getfield 25, 3) := by decide +kernel
theorem dX1_tell_69 : decode cX1_tell 69 = .ok (.iload_n 1, 1) := by decide +kernel
theorem dX1_tell_70 : decode cX1_tell 70 = .ok (.iaload, 1) := by decide +kernel
theorem dX1_tell_71 : decode cX1_tell 71 = .ok (.ireturn, 1) := by decide +kernel
theorem dX1_tell_72 : decode cX1_tell 72 = .ok (.aload_n 0, 1) := by decide +kernel
theorem dX1_tell_73 : decode cX1_tell 73 = .ok (.getfield 28, 3) := by decide +kernel
theorem dX1_tell_76 : decode cX1_tell 76 = .ok (.iload_n 1, 1) := by decide +kernel
theorem dX1_tell_77 : decode cX1_tell 77 = .ok (.iaload, 1) := by decide +kernel
theorem dX1_tell_78 : decode cX1_tell 78 = .ok (.ireturn, 1) := by decide +kernel
theorem dX1_tell_79 : decode cX1_tell 79 = .ok (.aload_n 0, 1) := by decide +kernel
theorem dX1_tell_80 : decode cX1_tell 80 = .ok (.getfield 31, 3) := by decide +kernel
theorem dX1_tell_83 : decode cX1_tell 83 = .ok (.iload_n 1, 1) := by decide +kernel
theorem dX1_tell_84 : decode cX1_tell 84 = .ok (.iaload, 1) := by decide +kernel
theorem dX1_tell_85 : decode cX1_tell 85 = .ok (.ireturn, 1) := by decide +kernel
theorem dX1_tell_86 : decode cX1_tell 86 = .ok (.aload_n 0, 1) := by decide +kernel
theorem dX1_tell_87 : decode cX1_tell 87 = .ok (.getfield 34, 3) := by decide +kernel
theorem dX1_tell_90 : decode cX1_tell 90 = .ok (.iload_n 1, 1) := by decide +kernel
theorem dX1_tell_91 : decode cX1_tell 91 = .ok (.iaload, 1) := by decide +kernel
theorem dX1_tell_92 : decode cX1_tell 92 = .ok (.ireturn, 1) := by decide +kernel
theorem dX1_tell_93 : decode cX1_tell 93 = .ok (.aload_n 0, 1) := by decide +kernel
theorem dX1_tell_94 : decode cX1_tell 94 = .ok (.iload_n 1, 1) := by decide +kernel
theorem dX1_tell_95 : decode cX1_tell 95 = .ok (.iload_n 2, 1) := by decide +kernel
theorem dX1_tell_96 : decode cX1_tell 96 = .ok (.invokevirtual 71, 3) := by decide +kernel
theorem dX1_tell_99 : decode cX1_tell 99 = .ok (.ireturn, 1) := by decide +kernel
theorem dX1_hangAt_0 : decode cX1_hangAt 0 = .ok (.iload_n 2, 1) := by decide +kernel
theorem dX1_hangAt_1 : decode cX1_hangAt 1 = .ok (.bipush 10, 2) := by decide +kernel
theorem dX1_hangAt_3 : decode cX1_hangAt 3 = .ok (.if_icmp .lt 16, 3) := by decide +kernel
theorem dX1_hangAt_6 : decode cX1_hangAt 6 = .ok (.iload_n 2, 1) := by decide +kernel
theorem dX1_hangAt_7 : decode cX1_hangAt 7 = .ok (.bipush 10, 2) := by decide +kernel
theorem dX1_hangAt_9 : decode cX1_hangAt 9 = .ok (.aload_n 0, 1) := by decide +kernel
theorem dX1_hangAt_10 : decode cX1_hangAt 10 = .ok (.getfield 34, 3) := by decide +kernel
theorem dX1_hangAt_13 : decode cX1_hangAt 13 = .ok (.iload_n 1, 1) := by decide +kernel
theorem dX1_hangAt_14 : decode cX1_hangAt 14 = .ok (.iaload, 1) := by decide +kernel
theorem dX1_hangAt_15 : decode cX1_hangAt 15 = .ok (.iadd, 1) := by decide +kernel
theorem dX1_hangAt_16 : decode cX1_hangAt 16 = .ok (.if_icmp .lt 6, 3) := by decide +kernel
theorem dX1_hangAt_19 : decode cX1_hangAt 19 = .ok (.bipush (-9), 2) := by decide +kernel
theorem dX1_hangAt_21 : decode cX1_hangAt 21 = .ok (.ireturn, 1) := by decide +kernel
theorem dX1_hangAt_22 : decode cX1_hangAt 22 = .ok (.aload_n 0, 1) := by decide +kernel
theorem dX1_hangAt_23 : decode cX1_hangAt 23 = .ok (.getfield 37, 3) := by decide +kernel
theorem dX1_hangAt_26 : decode cX1_hangAt 26 = .ok (.iload_n 1, 1) := by decide +kernel
theorem dX1_hangAt_27 : decode cX1_hangAt 27 = .ok (.iconst 3, 1) := by decide +kernel
theorem dX1_hangAt_28 : decode cX1_hangAt 28 = .ok (.imul, 1) := by decide +kernel
theorem dX1_hangAt_29 : decode cX1_hangAt 29 = .ok (.iload_n 2, 1) := by decide +kernel
theorem dX1_hangAt_30 : decode cX1_hangAt 30 = .ok (.iadd, 1) := by decide +kernel
theorem dX1_hangAt_31 : decode cX1_hangAt 31 = .ok (.bipush 10, 2) := by decide +kernel
theorem dX1_hangAt_33 : decode cX1_hangAt 33 = .ok (.isub, 1) := by decide +kernel
theorem dX1_hangAt_34 : decode cX1_hangAt 34 = .ok (.iaload, 1) := by decide +kernel
theorem dX1_hangAt_35 : decode cX1_hangAt 35 = .ok (.ireturn, 1) := by decide +kernel
theorem dX2_init_0 : decode cX2_init 0 = .ok (.aload_n 0, 1) := by decide +kernel
theorem dX2_init_1 : decode cX2_init 1 = .ok (.invokespecial 3, 3) := by decide +kernel
theorem dX2_init_4 : decode cX2_init 4 = .ok (.aload_n 0, 1) := by decide +kernel
theorem dX2_init_5 : decode cX2_init 5 = .ok (.bipush 60, 2) := by decide +kernel
theorem dX2_init_7 : decode cX2_init 7 = .ok (.newarray .int, 2) := by decide +kernel
theorem dX2_init_9 : decode cX2_init 9 = .ok (.putfield 9, 3) := by decide +kernel
theorem dX2_init_12 : decode cX2_init 12 = .ok (.aload_n 0, 1) := by decide +kernel
theorem dX2_init_13 : decode cX2_init 13 = .ok (.iconst 0, 1) := by decide +kernel
theorem dX2_init_14 : decode cX2_init 14 = .ok (.putfield 15, 3) := by decide +kernel
theorem dX2_init_17 : decode cX2_init 17 = .ok (.return_, 1) := by decide +kernel
theorem dX2_join_0 : decode cX2_join 0 = .ok (.aload_n 0, 1) := by decide +kernel
theorem dX2_join_1 : decode cX2_join 1 = .ok (.getfield 15, 3) := by decide +kernel
theorem dX2_join_4 : decode cX2_join 4 = .ok (.bipush 60, 2) := by decide +kernel
theorem dX2_join_6 : decode cX2_join 6 = .ok (.if_icmp .ge 23, 3) := by decide +kernel
theorem dX2_join_9 : decode cX2_join 9 = .ok (.aload_n 0, 1) := by decide +kernel
theorem dX2_join_10 : decode cX2_join 10 = .ok (.getfield 9, 3) := by decide +kernel
theorem dX2_join_13 : decode cX2_join 13 = .ok (.aload_n 0, 1) := by decide +kernel
theorem dX2_join_14 : decode cX2_join 14 = .ok (.getfield 15, 3) := by decide +kernel
theorem dX2_join_17 : decode cX2_join 17 = .ok (.iload_n 1, 1) := by decide +kernel
theorem dX2_join_18 : decode cX2_join 18 = .ok (.iastore, 1) := by decide +kernel
theorem dX2_join_19 : decode cX2_join 19 = .ok (.aload_n 0, 1) := by decide +kernel
theorem dX2_join_20 : decode cX2_join 20 = .ok (.dup, 1) := by decide +kernel
theorem dX2_join_21 : decode cX2_join 21 = .ok (.getfield 15, 3) := by decide +kernel
theorem dX2_join_24 : decode cX2_join 24 = .ok (.iconst 1, 1) := by decide +kernel
theorem dX2_join_25 : decode cX2_join 25 = .ok (.iadd, 1) := by decide +kernel
theorem dX2_join_26 : decode cX2_join 26 = .ok (.putfield 15, 3) := by decide +kernel
theorem dX2_join_29 : decode cX2_join 29 = .ok (.return_, 1) := by decide +kernel
theorem dX3_init_0 : decode cX3_init 0 = .ok (.aload_n 0, 1) := by decide +kernel
theorem dX3_init_1 : decode cX3_init 1 = .ok (.invokespecial 3, 3) := by decide +kernel
theorem dX3_init_4 : decode cX3_init 4 = .ok (.aload_n 0, 1) := by decide +kernel
theorem dX3_init_5 : decode cX3_init 5 = .ok (.sipush 259, 3) := by decide +kernel
theorem dX3_init_8 : decode cX3_init 8 = .ok (.newarray .int, 2) := by decide +kernel
theorem dX3_init_10 : decode cX3_init 10 = .ok (.putfield 11, 3) := by decide +kernel
theorem dX3_init_13 : decode cX3_init 13 = .ok (.aload_n 0, 1) := by decide +kernel
theorem dX3_init_14 : decode cX3_init 14 = .ok (.sipush 259, 3) := by decide +kernel
theorem dX3_init_17 : decode cX3_init 17 = .ok (.newarray .boolean, 2) := by decide +kernel
theorem dX3_init_19 : decode cX3_init 19 = .ok (.putfield 15, 3) := by decide +kernel
theorem dX3_init_22 : decode cX3_init 22 = .ok (.aload_n 0, 1) := by decide +kernel
theorem dX3_init_23 : decode cX3_init 23 = .ok (.sipush 259, 3) := by decide +kernel
theorem dX3_init_26 : decode cX3_init 26 = .ok (.newarray .int, 2) := by decide +kernel
theorem dX3_init_28 : decode cX3_init 28 = .ok (.putfield 19, 3) := by decide +kernel
theorem dX3_init_31 : decode cX3_init 31 = .ok (.aload_n 0, 1) := by decide +kernel
theorem dX3_init_32 : decode cX3_init 32 = .ok (.sipush 259, 3) := by decide +kernel
theorem dX3_init_35 : decode cX3_init 35 = .ok (.newarray .long, 2) := by decide +kernel
theorem dX3_init_37 : decode cX3_init 37 = .ok (.putfield 22, 3) := by decide +kernel
theorem dX3_init_40 : decode cX3_init 40 = .ok (.aload_n 0, 1) := by decide +kernel
theorem dX3_init_41 : decode cX3_init 41 = .ok (.iconst 0, 1) := by decide +kernel
theorem dX3_init_42 : decode cX3_init 42 = .ok (.putfield 26, 3) := by decide +kernel
theorem dX3_init_45 : decode cX3_init 45 = .ok (.return_, 1) := by decide +kernel
theorem dX3_add_0 : decode cX3_add 0 = .ok (.aload_n 0, 1) := by decide +kernel
theorem dX3_add_1 : decode cX3_add 1 = .ok (.getfield 26, 3) := by decide +kernel
theorem dX3_add_4 : decode cX3_add 4 = .ok (.sipush 259, 3) := by decide +kernel
theorem dX3_add_7 : decode cX3_add 7 = .ok (.if_icmp .ge 54, 3) := by decide +kernel
theorem dX3_add_10 : decode cX3_add 10 = .ok (.aload_n 0, 1) := by decide +kernel
theorem dX3_add_11 : decode cX3_add 11 = .ok (.getfield 11, 3) := by decide +kernel
theorem dX3_add_14 : decode cX3_add 14 = .ok (.aload_n 0, 1) := by decide +kernel
theorem dX3_add_15 : decode cX3_add 15 = .ok (.getfield 26, 3) := by decide +kernel
theorem dX3_add_18 : decode cX3_add 18 = .ok (.iload_n 1, 1) := by decide +kernel
theorem dX3_add_19 : decode cX3_add 19 = .ok (.iastore, 1) := by decide +kernel
theorem dX3_add_20 : decode cX3_add 20 = .ok (.aload_n 0, 1) := by decide +kernel
theorem dX3_add_21 : decode cX3_add 21 = .ok (.getfield 15, 3) := by decide +kernel
theorem dX3_add_24 : decode cX3_add 24 = .ok (.aload_n 0, 1) := by decide +kernel
theorem dX3_add_25 : decode cX3_add 25 = .ok (.getfield 26, 3) := by decide +kernel
theorem dX3_add_28 : decode cX3_add 28 = .ok (.iload_n 2, 1) := by decide +kernel
theorem dX3_add_29 : decode cX3_add 29 = .ok (.bastore, 1) := by decide +kernel
theorem dX3_add_30 : decode cX3_add 30 = .ok (.aload_n 0, 1) := by decide +kernel
theorem dX3_add_31 : decode cX3_add 31 = .ok (.getfield 19, 3) := by decide +kernel
theorem dX3_add_34 : decode cX3_add 34 = .ok (.aload_n 0, 1) := by decide +kernel
theorem dX3_add_35 : decode cX3_add 35 = .ok (.getfield 26, 3) := by decide +kernel
theorem dX3_add_38 : decode cX3_add 38 = .ok (.iload 5, 2) := by decide +kernel
theorem dX3_add_40 : decode cX3_add 40 = .ok (.iastore, 1) := by decide +kernel
theorem dX3_add_41 : decode cX3_add 41 = .ok (.aload_n 0, 1) := by decide +kernel
theorem dX3_add_42 : decode cX3_add 42 = .ok (.getfield 22, 3) := by decide +kernel
theorem dX3_add_45 : decode cX3_add 45 = .ok (.aload_n 0, 1) := by decide +kernel
theorem dX3_add_46 : decode cX3_add 46 = .ok (.getfield 26, 3) := by decide +kernel
theorem dX3_add_49 : decode cX3_add 49 = .ok (.lload_n 3, 1) := by decide +kernel
theorem dX3_add_50 : decode cX3_add 50 = .ok (.lastore, 1) := by decide +kernel
theorem dX3_add_51 : decode cX3_add 51 = .ok (.aload_n 0, 1) := by decide +kernel
theorem dX3_add_52 : decode cX3_add 52 = .ok (.dup, 1) := by decide +kernel
theorem dX3_add_53 : decode cX3_add 53 = .ok (.getfield 26, 3) := by decide +kernel
theorem dX3_add_56 : decode cX3_add 56 = .ok (.iconst 1, 1) := by decide +kernel
theorem dX3_add_57 : decode cX3_add 57 = .ok (.iadd, 1) := by decide +kernel
theorem dX3_add_58 : decode cX3_add 58 = .ok (.putfield 26, 3) := by decide +kernel
theorem dX3_add_61 : decode cX3_add 61 = .ok (.return_, 1) := by decide +kernel
set_option maxRecDepth 20000 in
theorem ggX3_tell_J13_bitCount_95d88 : GoodIn wsX3_tell wsJ13_bitCount_95d88 := goodIn_r _ [8, 9, 10, 11] rfl (by decide +kernel)
set_option maxRecDepth 20000 in
theorem gX3_tell_J13_bitCount_95d88 : GoodIn wsX3_tell (va_wsS RX3 30 yJ13_bitCount_95d88 wsJ13_bitCount_95d88) := goodIn_app (goodIn_r _ [5, 6, 7] rfl (by decide +kernel)) ggX3_tell_J13_bitCount_95d88
theorem dX3_tell_0 : decode cX3_tell 0 = .ok (.iload_n 2, 1) := by decide +kernel
theorem dX3_tell_1 : decode cX3_tell 1 = .ok (.tableswitch 70 0 3 #[31, 38, 53, 63], 31) := by decide +kernel
theorem dX3_tell_32 : decode cX3_tell 32 = .ok (.aload_n 0, 1) := by decide +kernel
theorem dX3_tell_33 : decode cX3_tell 33 = .ok (.getfield 11, 3) := by decide +kernel
theorem dX3_tell_36 : decode cX3_tell 36 = .ok (.iload_n 1, 1) := by decide +kernel
theorem dX3_tell_37 : decode cX3_tell 37 = .ok (.iaload, 1) := by decide +kernel
theorem dX3_tell_38 : decode cX3_tell 38 = .ok (.ireturn, 1) := by decide +kernel
theorem dX3_tell_39 : decode cX3_tell 39 = .ok (.aload_n 0, 1) := by decide +kernel
theorem dX3_tell_40 : decode cX3_tell 40 = .ok (.getfield 15, 3) := by decide +kernel
theorem dX3_tell_43 : decode cX3_tell 43 = .ok (.iload_n 1, 1) := by decide +kernel
theorem dX3_tell_44 : decode cX3_tell 44 = .ok (.baload, 1) := by decide +kernel
theorem dX3_tell_45 : decode cX3_tell 45 = .ok (.ifCond .eq 7, 3) := by decide +kernel
theorem dX3_tell_48 : decode cX3_tell 48 = .ok (.iconst 1, 1) := by decide +kernel
theorem dX3_tell_49 : decode cX3_tell 49 = .ok (.goto 4, 3) := by decide +kernel
theorem dX3_tell_52 : decode cX3_tell 52 = .ok (.iconst 0, 1) := by decide +kernel
theorem dX3_tell_53 : decode cX3_tell 53 = .ok (.ireturn, 1) := by decide +kernel
theorem dX3_tell_54 : decode cX3_tell 54 = .ok (.aload_n 0, 1) := by decide +kernel
theorem dX3_tell_55 : decode cX3_tell 55 = .ok (.getfield 22, 3) := by decide +kernel
theorem dX3_tell_58 : decode cX3_tell 58 = .ok (.iload_n 1, 1) := by decide +kernel
theorem dX3_tell_59 : decode cX3_tell 59 = .ok (.laload, 1) := by decide +kernel
theorem dX3_tell_60 : decode cX3_tell 60 = .ok (.invokestatic 30, 3) := by decide +kernel
theorem dX3_tell_63 : decode cX3_tell 63 = .ok (.ireturn, 1) := by decide +kernel
theorem dX3_tell_64 : decode cX3_tell 64 = .ok (.aload_n 0, 1) := by decide +kernel
theorem dX3_tell_65 : decode cX3_tell 65 = .ok (.getfield 19, 3) := by decide +kernel
theorem dX3_tell_68 : decode cX3_tell 68 = .ok (.iload_n 1, 1) := by decide +kernel
theorem dX3_tell_69 : decode cX3_tell 69 = .ok (.iaload, 1) := by decide +kernel
theorem dX3_tell_70 : decode cX3_tell 70 = .ok (.ireturn, 1) := by decide +kernel
theorem dX3_tell_71 : decode cX3_tell 71 = .ok (.bipush (-9), 2) := by decide +kernel
theorem dX3_tell_73 : decode cX3_tell 73 = .ok (.ireturn, 1) := by decide +kernel
set_option maxRecDepth 20000 in
theorem ggX4_init_X2_init : GoodIn wsX4_init wsX2_init := goodIn_r _ [35, 36, 2, 3, 4, 37, 38, 73, 74] rfl (by decide +kernel)
set_option maxRecDepth 20000 in
theorem gX4_init_X2_init_n26 : GoodIn wsX4_init (wsX2_init) := ggX4_init_X2_init
set_option maxRecDepth 20000 in
theorem ggX4_init_X0_init : GoodIn wsX4_init wsX0_init := goodIn_r _ [40, 41, 2, 3, 42, 43, 75] rfl (by decide +kernel)
set_option maxRecDepth 20000 in
theorem gX4_init_X0_init_n33 : GoodIn wsX4_init (wsX0_init) := ggX4_init_X0_init
set_option maxRecDepth 20000 in
theorem ggX4_init_X3_init : GoodIn wsX4_init wsX3_init := goodIn_r _ [45, 46, 2, 3, 4, 47, 48, 49, 50, 42, 51, 52, 76, 77, 78, 79, 80] rfl (by decide +kernel)
set_option maxRecDepth 20000 in
theorem gX4_init_X3_init_n52 : GoodIn wsX4_init (wsX3_init) := ggX4_init_X3_init
theorem dX4_init_0 : decode cX4_init 0 = .ok (.aload_n 0, 1) := by decide +kernel
theorem dX4_init_1 : decode cX4_init 1 = .ok (.invokespecial 3, 3) := by decide +kernel
theorem dX4_init_4 : decode cX4_init 4 = .ok (.aload_n 0, 1) := by decide +kernel
theorem dX4_init_5 : decode cX4_init 5 = .ok (.bipush 8, 2) := by decide +kernel
theorem dX4_init_7 : decode cX4_init 7 = .ok (.newarray .int, 2) := by decide +kernel
theorem dX4_init_9 : decode cX4_init 9 = .ok (.putfield 9, 3) := by decide +kernel
theorem dX4_init_12 : decode cX4_init 12 = .ok (.aload_n 0, 1) := by decide +kernel
theorem dX4_init_13 : decode cX4_init 13 = .ok (.sipush 240, 3) := by decide +kernel
theorem dX4_init_16 : decode cX4_init 16 = .ok (.newarray .int, 2) := by decide +kernel
theorem dX4_init_18 : decode cX4_init 18 = .ok (.putfield 15, 3) := by decide +kernel
theorem dX4_init_21 : decode cX4_init 21 = .ok (.aload_n 0, 1) := by decide +kernel
theorem dX4_init_22 : decode cX4_init 22 = .ok (.sipush 180, 3) := by decide +kernel
theorem dX4_init_25 : decode cX4_init 25 = .ok (.newarray .int, 2) := by decide +kernel
theorem dX4_init_27 : decode cX4_init 27 = .ok (.putfield 18, 3) := by decide +kernel
theorem dX4_init_30 : decode cX4_init 30 = .ok (.aload_n 0, 1) := by decide +kernel
theorem dX4_init_31 : decode cX4_init 31 = .ok (.bipush 60, 2) := by decide +kernel
theorem dX4_init_33 : decode cX4_init 33 = .ok (.newarray .int, 2) := by decide +kernel
theorem dX4_init_35 : decode cX4_init 35 = .ok (.putfield 21, 3) := by decide +kernel
theorem dX4_init_38 : decode cX4_init 38 = .ok (.aload_n 0, 1) := by decide +kernel
theorem dX4_init_39 : decode cX4_init 39 = .ok (.new 24, 3) := by decide +kernel
theorem dX4_init_42 : decode cX4_init 42 = .ok (.dup, 1) := by decide +kernel
theorem dX4_init_43 : decode cX4_init 43 = .ok (.invokespecial 26, 3) := by decide +kernel
theorem dX4_init_46 : decode cX4_init 46 = .ok (.putfield 27, 3) := by decide +kernel
theorem dX4_init_49 : decode cX4_init 49 = .ok (.aload_n 0, 1) := by decide +kernel
theorem dX4_init_50 : decode cX4_init 50 = .ok (.new 31, 3) := by decide +kernel
theorem dX4_init_53 : decode cX4_init 53 = .ok (.dup, 1) := by decide +kernel
theorem dX4_init_54 : decode cX4_init 54 = .ok (.invokespecial 33, 3) := by decide +kernel
theorem dX4_init_57 : decode cX4_init 57 = .ok (.putfield 34, 3) := by decide +kernel
theorem dX4_init_60 : decode cX4_init 60 = .ok (.aload_n 0, 1) := by decide +kernel
theorem dX4_init_61 : decode cX4_init 61 = .ok (.new 31, 3) := by decide +kernel
theorem dX4_init_64 : decode cX4_init 64 = .ok (.dup, 1) := by decide +kernel
theorem dX4_init_65 : decode cX4_init 65 = .ok (.invokespecial 33, 3) := by decide +kernel
theorem dX4_init_68 : decode cX4_init 68 = .ok (.putfield 38, 3) := by decide +kernel
theorem dX4_init_71 : decode cX4_init 71 = .ok (.aload_n 0, 1) := by decide +kernel
theorem dX4_init_72 : decode cX4_init 72 = .ok (.new 31, 3) := by decide +kernel
theorem dX4_init_75 : decode cX4_init 75 = .ok (.dup, 1) := by decide +kernel
theorem dX4_init_76 : decode cX4_init 76 = .ok (.invokespecial 33, 3) := by decide +kernel
theorem dX4_init_79 : decode cX4_init 79 = .ok (.putfield 41, 3) := by decide +kernel
theorem dX4_init_82 : decode cX4_init 82 = .ok (.aload_n 0, 1) := by decide +kernel
theorem dX4_init_83 : decode cX4_init 83 = .ok (.new 24, 3) := by decide +kernel
theorem dX4_init_86 : decode cX4_init 86 = .ok (.dup, 1) := by decide +kernel
theorem dX4_init_87 : decode cX4_init 87 = .ok (.invokespecial 26, 3) := by decide +kernel
theorem dX4_init_90 : decode cX4_init 90 = .ok (.putfield 44, 3) := by decide +kernel
theorem dX4_init_93 : decode cX4_init 93 = .ok (.aload_n 0, 1) := by decide +kernel
theorem dX4_init_94 : decode cX4_init 94 = .ok (.new 24, 3) := by decide +kernel
theorem dX4_init_97 : decode cX4_init 97 = .ok (.dup, 1) := by decide +kernel
theorem dX4_init_98 : decode cX4_init 98 = .ok (.invokespecial 26, 3) := by decide +kernel
theorem dX4_init_101 : decode cX4_init 101 = .ok (.putfield 47, 3) := by decide +kernel
theorem dX4_init_104 : decode cX4_init 104 = .ok (.aload_n 0, 1) := by decide +kernel
theorem dX4_init_105 : decode cX4_init 105 = .ok (.new 50, 3) := by decide +kernel
theorem dX4_init_108 : decode cX4_init 108 = .ok (.dup, 1) := by decide +kernel
theorem dX4_init_109 : decode cX4_init 109 = .ok (.invokespecial 52, 3) := by decide +kernel
theorem dX4_init_112 : decode cX4_init 112 = .ok (.putfield 53, 3) := by decide +kernel
theorem dX4_init_115 : decode cX4_init 115 = .ok (.aload_n 0, 1) := by decide +kernel
theorem dX4_init_116 : decode cX4_init 116 = .ok (.lconst 0, 1) := by decide +kernel
theorem dX4_init_117 : decode cX4_init 117 = .ok (.putfield 57, 3) := by decide +kernel
theorem dX4_init_120 : decode cX4_init 120 = .ok (.aload_n 0, 1) := by decide +kernel
theorem dX4_init_121 : decode cX4_init 121 = .ok (.lconst 0, 1) := by decide +kernel
theorem dX4_init_122 : decode cX4_init 122 = .ok (.putfield 61, 3) := by decide +kernel
theorem dX4_init_125 : decode cX4_init 125 = .ok (.aload_n 0, 1) := by decide +kernel
theorem dX4_init_126 : decode cX4_init 126 = .ok (.lconst 0, 1) := by decide +kernel
theorem dX4_init_127 : decode cX4_init 127 = .ok (.putfield 64, 3) := by decide +kernel
theorem dX4_init_130 : decode cX4_init 130 = .ok (.aload_n 0, 1) := by decide +kernel
theorem dX4_init_131 : decode cX4_init 131 = .ok (.lconst 0, 1) := by decide +kernel
theorem dX4_init_132 : decode cX4_init 132 = .ok (.putfield 67, 3) := by decide +kernel
theorem dX4_init_135 : decode cX4_init 135 = .ok (.aload_n 0, 1) := by decide +kernel
theorem dX4_init_136 : decode cX4_init 136 = .ok (.iconst 0, 1) := by decide +kernel
theorem dX4_init_137 : decode cX4_init 137 = .ok (.putfield 70, 3) := by decide +kernel
theorem dX4_init_140 : decode cX4_init 140 = .ok (.aload_n 0, 1) := by decide +kernel
theorem dX4_init_141 : decode cX4_init 141 = .ok (.iconst 0, 1) := by decide +kernel
theorem dX4_init_142 : decode cX4_init 142 = .ok (.putfield 74, 3) := by decide +kernel
theorem dX4_init_145 : decode cX4_init 145 = .ok (.aload_n 0, 1) := by decide +kernel
theorem dX4_init_146 : decode cX4_init 146 = .ok (.iconst 0, 1) := by decide +kernel
theorem dX4_init_147 : decode cX4_init 147 = .ok (.putfield 78, 3) := by decide +kernel
theorem dX4_init_150 : decode cX4_init 150 = .ok (.aload_n 0, 1) := by decide +kernel
theorem dX4_init_151 : decode cX4_init 151 = .ok (.iconst 0, 1) := by decide +kernel
theorem dX4_init_152 : decode cX4_init 152 = .ok (.putfield 81, 3) := by decide +kernel
theorem dX4_init_155 : decode cX4_init 155 = .ok (.aload_n 0, 1) := by decide +kernel
theorem dX4_init_156 : decode cX4_init 156 = .ok (.aload_n 1, 1) := by decide +kernel
theorem dX4_init_157 : decode cX4_init 157 = .ok (.putfield 84, 3) := by decide +kernel
theorem dX4_init_160 : decode cX4_init 160 = .ok (.return_, 1) := by decide +kernel
set_option maxRecDepth 20000 in
theorem ggX4_take_X8_isWay : GoodIn wsX4_take wsX8_isWay := goodIn_r _ [8] rfl (by decide +kernel)
set_option maxRecDepth 20000 in
theorem gX4_take_X8_isWay_n88 : GoodIn wsX4_take (wsX8_isWay) := ggX4_take_X8_isWay
theorem dX4_take_0 : decode cX4_take 0 = .ok (.iload_n 2, 1) := by decide +kernel
theorem dX4_take_1 : decode cX4_take 1 = .ok (.invokestatic 88, 3) := by decide +kernel
theorem dX4_take_4 : decode cX4_take 4 = .ok (.ifCond .eq 25, 3) := by decide +kernel
theorem dX4_take_7 : decode cX4_take 7 = .ok (.aload_n 1, 1) := by decide +kernel
theorem dX4_take_8 : decode cX4_take 8 = .ok (.arraylength, 1) := by decide +kernel
theorem dX4_take_9 : decode cX4_take 9 = .ok (.bipush 32, 2) := by decide +kernel
theorem dX4_take_11 : decode cX4_take 11 = .ok (.if_icmp .ne 18, 3) := by decide +kernel
theorem dX4_take_14 : decode cX4_take 14 = .ok (.aload_n 1, 1) := by decide +kernel
theorem dX4_take_15 : decode cX4_take 15 = .ok (.iload_n 2, 1) := by decide +kernel
theorem dX4_take_16 : decode cX4_take 16 = .ok (.bipush 8, 2) := by decide +kernel
theorem dX4_take_18 : decode cX4_take 18 = .ok (.imul, 1) := by decide +kernel
theorem dX4_take_19 : decode cX4_take 19 = .ok (.aload_n 0, 1) := by decide +kernel
theorem dX4_take_20 : decode cX4_take 20 = .ok (.getfield 9, 3) := by decide +kernel
theorem dX4_take_23 : decode cX4_take 23 = .ok (.iconst 0, 1) := by decide +kernel
theorem dX4_take_24 : decode cX4_take 24 = .ok (.bipush 8, 2) := by decide +kernel
theorem dX4_take_26 : decode cX4_take 26 = .ok (.invokestatic 92, 3) := by decide +kernel
theorem dX4_take_29 : decode cX4_take 29 = .ok (.return_, 1) := by decide +kernel
set_option maxRecDepth 20000 in
theorem ggX4_run_X4_begin : GoodIn wsX4_run wsX4_begin := goodIn_r _ [5, 6, 7, 8, 9, 10, 11, 12, 13, 14, 15, 16, 17, 18, 19, 20, 21, 22, 23, 24, 25, 26, 27, 28, 29, 30, 31, 32, 33, 34, 35, 36, 37, 38, 161, 162, 163, 164, 165, 166, 167, 168, 169, 170, 171, 172, 173, 174, 175, 176, 177, 178, 179, 180, 181, 182, 183, 184, 185, 186, 187, 188] rfl (by decide +kernel)
set_option maxRecDepth 20000 in
theorem gX4_run_X4_begin : GoodIn wsX4_run (wsV RX4 98 RX4 yX4_begin wsX4_begin) := goodIn_app (goodIn_r _ [1, 2, 3, 4] rfl (by decide +kernel)) ggX4_run_X4_begin
set_option maxRecDepth 20000 in
theorem ggX4_run_X4_step : GoodIn wsX4_run wsX4_step := goodIn_r _ [42, 23, 43, 44, 22, 17, 20, 21, 25, 24, 11, 12, 45, 46, 47, 48, 49, 50, 51, 4, 52, 53, 54, 55, 56, 57, 58, 59, 60, 61, 62, 63, 64, 65, 66, 6, 7, 67, 68, 69, 70, 71, 72, 73, 74, 75, 76, 15, 19, 18, 77, 9, 78, 79, 80, 81, 82, 83, 84, 85, 86, 87, 88, 89, 90, 91, 92, 93, 94, 33, 95, 35, 96, 97, 98, 99, 10, 100, 101, 102, 103, 104, 105, 106, 107, 108, 109, 110, 111, 112, 113, 114, 8, 115, 116, 117, 118, 119, 13, 14, 120, 121, 122, 123, 124, 125, 126, 127, 128, 129, 130, 131, 132, 133, 134, 135, 136, 137, 138, 139, 140, 141, 142, 143, 144, 145, 146, 147, 148, 149, 150, 151, 152, 153, 154, 155, 156, 157, 158, 159, 160, 161, 162, 163, 164, 165, 166, 167, 168, 169, 170, 171, 172, 173, 174, 175, 176, 177, 178, 179, 180, 189, 190, 191, 192, 193, 194, 195, 196, 197, 198, 199, 200, 181, 182, 183, 184, 185, 186, 187, 188] rfl (by decide +kernel)
set_option maxRecDepth 20000 in
theorem gX4_run_X4_step : GoodIn wsX4_run (wsV RX4 101 RX4 yX4_step wsX4_step) := goodIn_app (goodIn_r _ [39, 40, 41, 4] rfl (by decide +kernel)) ggX4_run_X4_step
theorem dX4_run_0 : decode cX4_run 0 = .ok (.aload_n 0, 1) := by decide +kernel
theorem dX4_run_1 : decode cX4_run 1 = .ok (.invokevirtual 98, 3) := by decide +kernel
theorem dX4_run_4 : decode cX4_run 4 = .ok (.iconst 0, 1) := by decide +kernel
theorem dX4_run_5 : decode cX4_run 5 = .ok (.istore_n 1, 1) := by decide +kernel
theorem dX4_run_6 : decode cX4_run 6 = .ok (.iload_n 1, 1) := by decide +kernel
theorem dX4_run_7 : decode cX4_run 7 = .ok (.sipush 399, 3) := by decide +kernel
theorem dX4_run_10 : decode cX4_run 10 = .ok (.if_icmp .gt 14, 3) := by decide +kernel
theorem dX4_run_13 : decode cX4_run 13 = .ok (.aload_n 0, 1) := by decide +kernel
theorem dX4_run_14 : decode cX4_run 14 = .ok (.iload_n 1, 1) := by decide +kernel
theorem dX4_run_15 : decode cX4_run 15 = .ok (.invokevirtual 101, 3) := by decide +kernel
theorem dX4_run_18 : decode cX4_run 18 = .ok (.iinc 1 1, 3) := by decide +kernel
theorem dX4_run_21 : decode cX4_run 21 = .ok (.goto (-15), 3) := by decide +kernel
theorem dX4_run_24 : decode cX4_run 24 = .ok (.return_, 1) := by decide +kernel
set_option maxRecDepth 20000 in
theorem ggX4_begin_J7_fill_53178 : GoodIn wsX4_begin wsJ7_fill_53178 := goodIn_r _ [24] rfl (by decide +kernel)
set_option maxRecDepth 20000 in
theorem gX4_begin_J7_fill_53178 : GoodIn wsX4_begin (va_wsS RX4 105 yJ7_fill_53178 wsJ7_fill_53178) := goodIn_app (goodIn_r _ [21, 22, 23] rfl (by decide +kernel)) ggX4_begin_J7_fill_53178
set_option maxRecDepth 20000 in
theorem ggX4_begin_X0_empty : GoodIn wsX4_begin wsX0_empty := goodIn_r _ [29, 30, 31, 32, 23, 33, 61] rfl (by decide +kernel)
set_option maxRecDepth 20000 in
theorem gX4_begin_X0_empty : GoodIn wsX4_begin (wsV RX4 111 RX0 yX0_empty wsX0_empty) := goodIn_app (goodIn_r _ [25, 26, 27, 28] rfl (by decide +kernel)) ggX4_begin_X0_empty
theorem dX4_begin_0 : decode cX4_begin 0 = .ok (.aload_n 0, 1) := by decide +kernel
theorem dX4_begin_1 : decode cX4_begin 1 = .ok (.getfield 15, 3) := by decide +kernel
theorem dX4_begin_4 : decode cX4_begin 4 = .ok (.iconst (-1), 1) := by decide +kernel
theorem dX4_begin_5 : decode cX4_begin 5 = .ok (.invokestatic 105, 3) := by decide +kernel
theorem dX4_begin_8 : decode cX4_begin 8 = .ok (.aload_n 0, 1) := by decide +kernel
theorem dX4_begin_9 : decode cX4_begin 9 = .ok (.getfield 18, 3) := by decide +kernel
theorem dX4_begin_12 : decode cX4_begin 12 = .ok (.iconst 0, 1) := by decide +kernel
theorem dX4_begin_13 : decode cX4_begin 13 = .ok (.invokestatic 105, 3) := by decide +kernel
theorem dX4_begin_16 : decode cX4_begin 16 = .ok (.aload_n 0, 1) := by decide +kernel
theorem dX4_begin_17 : decode cX4_begin 17 = .ok (.getfield 34, 3) := by decide +kernel
theorem dX4_begin_20 : decode cX4_begin 20 = .ok (.invokevirtual 111, 3) := by decide +kernel
theorem dX4_begin_23 : decode cX4_begin 23 = .ok (.aload_n 0, 1) := by decide +kernel
theorem dX4_begin_24 : decode cX4_begin 24 = .ok (.getfield 38, 3) := by decide +kernel
theorem dX4_begin_27 : decode cX4_begin 27 = .ok (.invokevirtual 111, 3) := by decide +kernel
theorem dX4_begin_30 : decode cX4_begin 30 = .ok (.aload_n 0, 1) := by decide +kernel
theorem dX4_begin_31 : decode cX4_begin 31 = .ok (.getfield 41, 3) := by decide +kernel
theorem dX4_begin_34 : decode cX4_begin 34 = .ok (.invokevirtual 111, 3) := by decide +kernel
theorem dX4_begin_37 : decode cX4_begin 37 = .ok (.aload_n 0, 1) := by decide +kernel
theorem dX4_begin_38 : decode cX4_begin 38 = .ok (.getfield 27, 3) := by decide +kernel
theorem dX4_begin_41 : decode cX4_begin 41 = .ok (.iconst 0, 1) := by decide +kernel
theorem dX4_begin_42 : decode cX4_begin 42 = .ok (.putfield 114, 3) := by decide +kernel
theorem dX4_begin_45 : decode cX4_begin 45 = .ok (.aload_n 0, 1) := by decide +kernel
theorem dX4_begin_46 : decode cX4_begin 46 = .ok (.getfield 44, 3) := by decide +kernel
theorem dX4_begin_49 : decode cX4_begin 49 = .ok (.iconst 0, 1) := by decide +kernel
theorem dX4_begin_50 : decode cX4_begin 50 = .ok (.putfield 114, 3) := by decide +kernel
theorem dX4_begin_53 : decode cX4_begin 53 = .ok (.aload_n 0, 1) := by decide +kernel
theorem dX4_begin_54 : decode cX4_begin 54 = .ok (.getfield 47, 3) := by decide +kernel
theorem dX4_begin_57 : decode cX4_begin 57 = .ok (.iconst 0, 1) := by decide +kernel
theorem dX4_begin_58 : decode cX4_begin 58 = .ok (.putfield 114, 3) := by decide +kernel
theorem dX4_begin_61 : decode cX4_begin 61 = .ok (.aload_n 0, 1) := by decide +kernel
theorem dX4_begin_62 : decode cX4_begin 62 = .ok (.getfield 53, 3) := by decide +kernel
theorem dX4_begin_65 : decode cX4_begin 65 = .ok (.iconst 0, 1) := by decide +kernel
theorem dX4_begin_66 : decode cX4_begin 66 = .ok (.putfield 117, 3) := by decide +kernel
theorem dX4_begin_69 : decode cX4_begin 69 = .ok (.aload_n 0, 1) := by decide +kernel
theorem dX4_begin_70 : decode cX4_begin 70 = .ok (.lconst 0, 1) := by decide +kernel
theorem dX4_begin_71 : decode cX4_begin 71 = .ok (.putfield 57, 3) := by decide +kernel
theorem dX4_begin_74 : decode cX4_begin 74 = .ok (.aload_n 0, 1) := by decide +kernel
theorem dX4_begin_75 : decode cX4_begin 75 = .ok (.lconst 0, 1) := by decide +kernel
theorem dX4_begin_76 : decode cX4_begin 76 = .ok (.putfield 61, 3) := by decide +kernel
theorem dX4_begin_79 : decode cX4_begin 79 = .ok (.aload_n 0, 1) := by decide +kernel
theorem dX4_begin_80 : decode cX4_begin 80 = .ok (.lconst 0, 1) := by decide +kernel
theorem dX4_begin_81 : decode cX4_begin 81 = .ok (.putfield 64, 3) := by decide +kernel
theorem dX4_begin_84 : decode cX4_begin 84 = .ok (.aload_n 0, 1) := by decide +kernel
theorem dX4_begin_85 : decode cX4_begin 85 = .ok (.lconst 0, 1) := by decide +kernel
theorem dX4_begin_86 : decode cX4_begin 86 = .ok (.putfield 67, 3) := by decide +kernel
theorem dX4_begin_89 : decode cX4_begin 89 = .ok (.aload_n 0, 1) := by decide +kernel
theorem dX4_begin_90 : decode cX4_begin 90 = .ok (.iconst 0, 1) := by decide +kernel
theorem dX4_begin_91 : decode cX4_begin 91 = .ok (.putfield 70, 3) := by decide +kernel
theorem dX4_begin_94 : decode cX4_begin 94 = .ok (.aload_n 0, 1) := by decide +kernel
theorem dX4_begin_95 : decode cX4_begin 95 = .ok (.aload_n 0, 1) := by decide +kernel
theorem dX4_begin_96 : decode cX4_begin 96 = .ok (.getfield 9, 3) := by decide +kernel
theorem dX4_begin_99 : decode cX4_begin 99 = .ok (.iconst 0, 1) := by decide +kernel
theorem dX4_begin_100 : decode cX4_begin 100 = .ok (.iaload, 1) := by decide +kernel
theorem dX4_begin_101 : decode cX4_begin 101 = .ok (.putfield 74, 3) := by decide +kernel
theorem dX4_begin_104 : decode cX4_begin 104 = .ok (.aload_n 0, 1) := by decide +kernel
theorem dX4_begin_105 : decode cX4_begin 105 = .ok (.iconst 0, 1) := by decide +kernel
theorem dX4_begin_106 : decode cX4_begin 106 = .ok (.putfield 78, 3) := by decide +kernel
theorem dX4_begin_109 : decode cX4_begin 109 = .ok (.aload_n 0, 1) := by decide +kernel
theorem dX4_begin_110 : decode cX4_begin 110 = .ok (.iconst 0, 1) := by decide +kernel
theorem dX4_begin_111 : decode cX4_begin 111 = .ok (.putfield 81, 3) := by decide +kernel
theorem dX4_begin_114 : decode cX4_begin 114 = .ok (.return_, 1) := by decide +kernel
set_option maxRecDepth 20000 in
theorem ggX4_step_X4_letOutBranch : GoodIn wsX4_step wsX4_letOutBranch := goodIn_r _ [20, 2, 21, 6, 22, 23, 7, 1, 4, 24, 25, 26, 27, 28, 29, 19, 30, 31, 32, 33, 34, 35, 36, 37, 38, 39, 40, 41, 42, 43, 44, 45, 46, 47, 48, 49, 50, 51, 52, 53, 54, 55, 56, 57, 58, 59, 60, 61, 62, 63, 64, 65, 66, 67, 68, 69, 70, 71, 141, 142, 143, 144, 145, 146, 147, 148, 149, 150, 151, 152, 153, 154, 155, 156, 157, 158, 159, 160, 161, 162, 163, 164, 165, 166, 167, 168, 169, 170, 171, 172, 175, 176, 177, 178, 179, 180] rfl (by decide +kernel)
set_option maxRecDepth 20000 in
theorem gX4_step_X4_letOutBranch : GoodIn wsX4_step (wsV RX4 118 RX4 yX4_letOutBranch wsX4_letOutBranch) := goodIn_app (goodIn_r _ [16, 17, 18, 19] rfl (by decide +kernel)) ggX4_step_X4_letOutBranch
set_option maxRecDepth 20000 in
theorem ggX4_step_X4_letOutHot : GoodIn wsX4_step wsX4_letOutHot := goodIn_r _ [75, 76, 2, 21, 49, 77, 78, 79, 80, 69, 81, 71, 24, 25, 26, 37, 38, 43, 44, 45, 19, 46, 47, 48, 23, 50, 51, 52, 53, 54, 55, 56, 57, 58, 59, 60, 61, 62, 63, 64, 65, 35, 66, 67, 68, 70, 141, 142, 143, 144, 145, 146, 147, 148, 149, 150, 151, 152, 153, 154, 155, 156, 157, 158, 159, 160, 161, 162, 163, 164, 165, 166, 167, 168, 169, 170, 171, 172, 180, 175, 176, 177, 178, 179] rfl (by decide +kernel)
set_option maxRecDepth 20000 in
theorem gX4_step_X4_letOutHot : GoodIn wsX4_step (wsV RX4 121 RX4 yX4_letOutHot wsX4_letOutHot) := goodIn_app (goodIn_r _ [72, 73, 74, 19] rfl (by decide +kernel)) ggX4_step_X4_letOutHot
set_option maxRecDepth 20000 in
theorem ggX4_step_X4_meetBreaks : GoodIn wsX4_step wsX4_meetBreaks := goodIn_r _ [85, 51, 49, 2, 21, 86, 78, 79, 80, 69, 81, 71, 24, 25, 26, 62, 63, 64, 19, 65, 35, 37, 38, 141, 142, 143, 144, 145, 146, 147, 148, 149, 150, 151, 152, 153, 154, 155, 156, 157, 158, 159, 160, 161, 162, 163, 164, 165, 166, 167, 168, 169, 170, 171, 172, 180] rfl (by decide +kernel)
set_option maxRecDepth 20000 in
theorem gX4_step_X4_meetBreaks : GoodIn wsX4_step (wsV RX4 124 RX4 yX4_meetBreaks wsX4_meetBreaks) := goodIn_app (goodIn_r _ [82, 83, 84, 19] rfl (by decide +kernel)) ggX4_step_X4_meetBreaks
set_option maxRecDepth 20000 in
theorem ggX4_step_X0_at : GoodIn wsX4_step wsX0_at := goodIn_r _ [81, 71, 180] rfl (by decide +kernel)
set_option maxRecDepth 20000 in
theorem gX4_step_X0_at : GoodIn wsX4_step (wsV RX4 133 RX0 yX0_at wsX0_at) := goodIn_app (goodIn_r _ [78, 79, 80, 69] rfl (by decide +kernel)) ggX4_step_X0_at
set_option maxRecDepth 20000 in
theorem ggX4_step_X4_bear : GoodIn wsX4_step wsX4_bear := goodIn_r _ [90, 2, 21, 91, 10, 11, 92, 93, 9, 24, 25, 26, 62, 63, 64, 19, 65, 35, 66, 67, 68, 69, 70, 71, 141, 142, 143, 144, 145, 146, 147, 148, 149, 150, 151, 152, 153, 154, 155, 156, 157, 158, 159, 160, 161, 162, 163, 164, 165, 166, 167, 168, 169, 170, 171, 172, 173, 174, 180] rfl (by decide +kernel)
set_option maxRecDepth 20000 in
theorem gX4_step_X4_bear : GoodIn wsX4_step (wsV RX4 136 RX4 yX4_bear wsX4_bear) := goodIn_app (goodIn_r _ [87, 88, 89, 19] rfl (by decide +kernel)) ggX4_step_X4_bear
set_option maxRecDepth 20000 in
theorem ggX4_step_X4_mergeReady : GoodIn wsX4_step wsX4_mergeReady := goodIn_r _ [97, 92, 98, 4, 99, 78, 79, 80, 69, 81, 71, 100, 101, 102, 19, 103, 2, 21, 104, 24, 25, 26, 105, 106, 107, 108, 109, 110, 111, 112, 113, 114, 115, 11, 116, 22, 5, 23, 117, 118, 119, 120, 91, 10, 121, 122, 123, 124, 125, 126, 127, 128, 129, 130, 131, 132, 39, 40, 41, 42, 36, 66, 67, 68, 70, 133, 134, 135, 136, 7, 6, 76, 62, 63, 64, 65, 35, 37, 38, 137, 138, 139, 140, 1, 141, 142, 143, 144, 145, 146, 147, 148, 149, 150, 151, 152, 153, 154, 155, 156, 157, 158, 159, 160, 180, 161, 162, 163, 164, 165, 166, 167, 168, 169, 170, 171, 172, 173, 174] rfl (by decide +kernel)
set_option maxRecDepth 20000 in
theorem gX4_step_X4_mergeReady : GoodIn wsX4_step (wsV RX4 140 RX4 yX4_mergeReady wsX4_mergeReady) := goodIn_app (goodIn_r _ [94, 95, 96, 19] rfl (by decide +kernel)) ggX4_step_X4_mergeReady
theorem dX4_step_0 : decode cX4_step 0 = .ok (.iload_n 1, 1) := by decide +kernel
theorem dX4_step_1 : decode cX4_step 1 = .ok (.aload_n 0, 1) := by decide +kernel
theorem dX4_step_2 : decode cX4_step 2 = .ok (.getfield 74, 3) := by decide +kernel
theorem dX4_step_5 : decode cX4_step 5 = .ok (.if_icmp .ne 8, 3) := by decide +kernel
theorem dX4_step_8 : decode cX4_step 8 = .ok (.aload_n 0, 1) := by decide +kernel
theorem dX4_step_9 : decode cX4_step 9 = .ok (.iload_n 1, 1) := by decide +kernel
theorem dX4_step_10 : decode cX4_step 10 = .ok (.invokevirtual 118, 3) := by decide +kernel
theorem dX4_step_13 : decode cX4_step 13 = .ok (.aload_n 0, 1) := by decide +kernel
theorem dX4_step_14 : decode cX4_step 14 = .ok (.iload_n 1, 1) := by decide +kernel
theorem dX4_step_15 : decode cX4_step 15 = .ok (.invokevirtual 121, 3) := by decide +kernel
theorem dX4_step_18 : decode cX4_step 18 = .ok (.aload_n 0, 1) := by decide +kernel
theorem dX4_step_19 : decode cX4_step 19 = .ok (.iload_n 1, 1) := by decide +kernel
theorem dX4_step_20 : decode cX4_step 20 = .ok (.invokevirtual 124, 3) := by decide +kernel
theorem dX4_step_23 : decode cX4_step 23 = .ok (.lstore_n 2, 1) := by decide +kernel
theorem dX4_step_24 : decode cX4_step 24 = .ok (.aload_n 0, 1) := by decide +kernel
theorem dX4_step_25 : decode cX4_step 25 = .ok (.iload_n 1, 1) := by decide +kernel
theorem dX4_step_26 : decode cX4_step 26 = .ok (.aload_n 0, 1) := by decide +kernel
theorem dX4_step_27 : decode cX4_step 27 = .ok (.getfield 84, 3) := by decide +kernel
theorem dX4_step_30 : decode cX4_step 30 = .ok (.getfield 128, 3) := by decide +kernel
theorem dX4_step_33 : decode cX4_step 33 = .ok (.iload_n 1, 1) := by decide +kernel
theorem dX4_step_34 : decode cX4_step 34 = .ok (.invokevirtual 133, 3) := by decide +kernel
theorem dX4_step_37 : decode cX4_step 37 = .ok (.lload_n 2, 1) := by decide +kernel
theorem dX4_step_38 : decode cX4_step 38 = .ok (.lor, 1) := by decide +kernel
theorem dX4_step_39 : decode cX4_step 39 = .ok (.invokevirtual 136, 3) := by decide +kernel
theorem dX4_step_42 : decode cX4_step 42 = .ok (.aload_n 0, 1) := by decide +kernel
theorem dX4_step_43 : decode cX4_step 43 = .ok (.iload_n 1, 1) := by decide +kernel
theorem dX4_step_44 : decode cX4_step 44 = .ok (.invokevirtual 140, 3) := by decide +kernel
theorem dX4_step_47 : decode cX4_step 47 = .ok (.iload_n 1, 1) := by decide +kernel
theorem dX4_step_48 : decode cX4_step 48 = .ok (.aload_n 0, 1) := by decide +kernel
theorem dX4_step_49 : decode cX4_step 49 = .ok (.getfield 74, 3) := by decide +kernel
theorem dX4_step_52 : decode cX4_step 52 = .ok (.aload_n 0, 1) := by decide +kernel
theorem dX4_step_53 : decode cX4_step 53 = .ok (.getfield 9, 3) := by decide +kernel
theorem dX4_step_56 : decode cX4_step 56 = .ok (.iconst 1, 1) := by decide +kernel
theorem dX4_step_57 : decode cX4_step 57 = .ok (.iaload, 1) := by decide +kernel
theorem dX4_step_58 : decode cX4_step 58 = .ok (.isub, 1) := by decide +kernel
theorem dX4_step_59 : decode cX4_step 59 = .ok (.if_icmp .ne 26, 3) := by decide +kernel
theorem dX4_step_62 : decode cX4_step 62 = .ok (.aload_n 0, 1) := by decide +kernel
theorem dX4_step_63 : decode cX4_step 63 = .ok (.getfield 74, 3) := by decide +kernel
theorem dX4_step_66 : decode cX4_step 66 = .ok (.sipush 399, 3) := by decide +kernel
theorem dX4_step_69 : decode cX4_step 69 = .ok (.if_icmp .gt 16, 3) := by decide +kernel
theorem dX4_step_72 : decode cX4_step 72 = .ok (.aload_n 0, 1) := by decide +kernel
theorem dX4_step_73 : decode cX4_step 73 = .ok (.aload_n 0, 1) := by decide +kernel
theorem dX4_step_74 : decode cX4_step 74 = .ok (.getfield 57, 3) := by decide +kernel
theorem dX4_step_77 : decode cX4_step 77 = .ok (.putfield 67, 3) := by decide +kernel
theorem dX4_step_80 : decode cX4_step 80 = .ok (.aload_n 0, 1) := by decide +kernel
theorem dX4_step_81 : decode cX4_step 81 = .ok (.iconst 1, 1) := by decide +kernel
theorem dX4_step_82 : decode cX4_step 82 = .ok (.putfield 70, 3) := by decide +kernel
theorem dX4_step_85 : decode cX4_step 85 = .ok (.aload_n 0, 1) := by decide +kernel
theorem dX4_step_86 : decode cX4_step 86 = .ok (.aload_n 0, 1) := by decide +kernel
theorem dX4_step_87 : decode cX4_step 87 = .ok (.getfield 81, 3) := by decide +kernel
theorem dX4_step_90 : decode cX4_step 90 = .ok (.aload_n 0, 1) := by decide +kernel
theorem dX4_step_91 : decode cX4_step 91 = .ok (.getfield 78, 3) := by decide +kernel
theorem dX4_step_94 : decode cX4_step 94 = .ok (.aload_n 0, 1) := by decide +kernel
theorem dX4_step_95 : decode cX4_step 95 = .ok (.getfield 27, 3) := by decide +kernel
theorem dX4_step_98 : decode cX4_step 98 = .ok (.getfield 114, 3) := by decide +kernel
theorem dX4_step_101 : decode cX4_step 101 = .ok (.isub, 1) := by decide +kernel
theorem dX4_step_102 : decode cX4_step 102 = .ok (.invokestatic 143, 3) := by decide +kernel
theorem dX4_step_105 : decode cX4_step 105 = .ok (.putfield 81, 3) := by decide +kernel
theorem dX4_step_108 : decode cX4_step 108 = .ok (.return_, 1) := by decide +kernel
set_option maxRecDepth 20000 in
theorem ggX4_letOutBranch_X8_isIn : GoodIn wsX4_letOutBranch wsX8_isIn := goodIn_r _ [11] rfl (by decide +kernel)
set_option maxRecDepth 20000 in
theorem gX4_letOutBranch_X8_isIn_n152 : GoodIn wsX4_letOutBranch (wsX8_isIn) := ggX4_letOutBranch_X8_isIn
set_option maxRecDepth 20000 in
theorem ggX4_letOutBranch_X4_isTested : GoodIn wsX4_letOutBranch wsX4_isTested := goodIn_r _ [16, 8, 17, 18, 19, 15, 20, 21, 22, 58, 59, 60, 61, 62, 63, 64, 65, 66, 67, 68, 69, 70, 71, 72, 73, 74, 75, 76, 77] rfl (by decide +kernel)
set_option maxRecDepth 20000 in
theorem gX4_letOutBranch_X4_isTested : GoodIn wsX4_letOutBranch (wsV RX4 156 RX4 yX4_isTested wsX4_isTested) := goodIn_app (goodIn_r _ [12, 13, 14, 15] rfl (by decide +kernel)) ggX4_letOutBranch_X4_isTested
set_option maxRecDepth 20000 in
theorem ggX4_letOutBranch_X8_only : GoodIn wsX4_letOutBranch wsX8_only := goodIn_r _ [24] rfl (by decide +kernel)
set_option maxRecDepth 20000 in
theorem gX4_letOutBranch_X8_only_n166 : GoodIn wsX4_letOutBranch (wsX8_only) := ggX4_letOutBranch_X8_only
set_option maxRecDepth 20000 in
theorem ggX4_letOutBranch_X4_raise : GoodIn wsX4_letOutBranch wsX4_raise := goodIn_r _ [28, 22, 58, 59, 60, 61, 62, 63, 64, 65, 66, 67, 68, 69, 70, 71, 72, 73, 74, 75, 76, 77] rfl (by decide +kernel)
set_option maxRecDepth 20000 in
theorem gX4_letOutBranch_X4_raise : GoodIn wsX4_letOutBranch (wsV RX4 169 RX4 yX4_raise wsX4_raise) := goodIn_app (goodIn_r _ [25, 26, 27, 15] rfl (by decide +kernel)) ggX4_letOutBranch_X4_raise
set_option maxRecDepth 20000 in
theorem ggX4_letOutBranch_X4_letOut : GoodIn wsX4_letOutBranch wsX4_letOut := goodIn_r _ [32, 33, 34, 5, 35, 1, 2, 36, 37, 38, 39, 40, 41, 42, 43, 44, 45, 46, 47, 9, 10, 11, 48, 49, 50, 15, 51, 21, 52, 53, 54, 55, 56, 57, 58, 59, 60, 61, 62, 63, 64, 65, 66, 67, 68, 69, 70, 71, 72, 73, 74, 75, 76, 77, 78, 79, 80, 81, 82, 83, 84, 85, 86, 87, 88, 89, 90, 91, 92, 93, 94, 95] rfl (by decide +kernel)
set_option maxRecDepth 20000 in
theorem gX4_letOutBranch_X4_letOut : GoodIn wsX4_letOutBranch (wsV RX4 173 RX4 yX4_letOut wsX4_letOut) := goodIn_app (goodIn_r _ [29, 30, 31, 15] rfl (by decide +kernel)) ggX4_letOutBranch_X4_letOut
theorem dX4_letOutBranch_0 : decode cX4_letOutBranch 0 = .ok (.lconst 0, 1) := by decide +kernel
theorem dX4_letOutBranch_1 : decode cX4_letOutBranch 1 = .ok (.lstore_n 2, 1) := by decide +kernel
theorem dX4_letOutBranch_2 : decode cX4_letOutBranch 2 = .ok (.iconst 0, 1) := by decide +kernel
theorem dX4_letOutBranch_3 : decode cX4_letOutBranch 3 = .ok (.istore 4, 2) := by decide +kernel
theorem dX4_letOutBranch_5 : decode cX4_letOutBranch 5 = .ok (.iconst 0, 1) := by decide +kernel
theorem dX4_letOutBranch_6 : decode cX4_letOutBranch 6 = .ok (.istore 5, 2) := by decide +kernel
theorem dX4_letOutBranch_8 : decode cX4_letOutBranch 8 = .ok (.iload 5, 2) := by decide +kernel
theorem dX4_letOutBranch_10 : decode cX4_letOutBranch 10 = .ok (.aload_n 0, 1) := by decide +kernel
theorem dX4_letOutBranch_11 : decode cX4_letOutBranch 11 = .ok (.getfield 84, 3) := by decide +kernel
theorem dX4_letOutBranch_14 : decode cX4_letOutBranch 14 = .ok (.getfield 149, 3) := by decide +kernel
theorem dX4_letOutBranch_17 : decode cX4_letOutBranch 17 = .ok (.if_icmp .ge 75, 3) := by decide +kernel
theorem dX4_letOutBranch_20 : decode cX4_letOutBranch 20 = .ok (.aload_n 0, 1) := by decide +kernel
theorem dX4_letOutBranch_21 : decode cX4_letOutBranch 21 = .ok (.getfield 67, 3) := by decide +kernel
theorem dX4_letOutBranch_24 : decode cX4_letOutBranch 24 = .ok (.iload 5, 2) := by decide +kernel
theorem dX4_letOutBranch_26 : decode cX4_letOutBranch 26 = .ok (.invokestatic 152, 3) := by decide +kernel
theorem dX4_letOutBranch_29 : decode cX4_letOutBranch 29 = .ok (.ifCond .eq 57, 3) := by decide +kernel
theorem dX4_letOutBranch_32 : decode cX4_letOutBranch 32 = .ok (.aload_n 0, 1) := by decide +kernel
theorem dX4_letOutBranch_33 : decode cX4_letOutBranch 33 = .ok (.iload 5, 2) := by decide +kernel
theorem dX4_letOutBranch_35 : decode cX4_letOutBranch 35 = .ok (.iload_n 1, 1) := by decide +kernel
theorem dX4_letOutBranch_36 : decode cX4_letOutBranch 36 = .ok (.invokevirtual 156, 3) := by decide +kernel
theorem dX4_letOutBranch_39 : decode cX4_letOutBranch 39 = .ok (.ifCond .eq 35, 3) := by decide +kernel
theorem dX4_letOutBranch_42 : decode cX4_letOutBranch 42 = .ok (.aload_n 0, 1) := by decide +kernel
theorem dX4_letOutBranch_43 : decode cX4_letOutBranch 43 = .ok (.getfield 84, 3) := by decide +kernel
theorem dX4_letOutBranch_46 : decode cX4_letOutBranch 46 = .ok (.getfield 160, 3) := by decide +kernel
theorem dX4_letOutBranch_49 : decode cX4_letOutBranch 49 = .ok (.iload 5, 2) := by decide +kernel
theorem dX4_letOutBranch_51 : decode cX4_letOutBranch 51 = .ok (.laload, 1) := by decide +kernel
theorem dX4_letOutBranch_52 : decode cX4_letOutBranch 52 = .ok (.lload_n 2, 1) := by decide +kernel
theorem dX4_letOutBranch_53 : decode cX4_letOutBranch 53 = .ok (.ldc2_w 164, 3) := by decide +kernel
theorem dX4_letOutBranch_56 : decode cX4_letOutBranch 56 = .ok (.lxor, 1) := by decide +kernel
theorem dX4_letOutBranch_57 : decode cX4_letOutBranch 57 = .ok (.land, 1) := by decide +kernel
theorem dX4_letOutBranch_58 : decode cX4_letOutBranch 58 = .ok (.lconst 0, 1) := by decide +kernel
theorem dX4_letOutBranch_59 : decode cX4_letOutBranch 59 = .ok (.lcmp, 1) := by decide +kernel
theorem dX4_letOutBranch_60 : decode cX4_letOutBranch 60 = .ok (.ifCond .ne 14, 3) := by decide +kernel
theorem dX4_letOutBranch_63 : decode cX4_letOutBranch 63 = .ok (.lload_n 2, 1) := by decide +kernel
theorem dX4_letOutBranch_64 : decode cX4_letOutBranch 64 = .ok (.iload 5, 2) := by decide +kernel
theorem dX4_letOutBranch_66 : decode cX4_letOutBranch 66 = .ok (.invokestatic 166, 3) := by decide +kernel
theorem dX4_letOutBranch_69 : decode cX4_letOutBranch 69 = .ok (.lor, 1) := by decide +kernel
theorem dX4_letOutBranch_70 : decode cX4_letOutBranch 70 = .ok (.lstore_n 2, 1) := by decide +kernel
theorem dX4_letOutBranch_71 : decode cX4_letOutBranch 71 = .ok (.goto 15, 3) := by decide +kernel
theorem dX4_letOutBranch_74 : decode cX4_letOutBranch 74 = .ok (.iinc 4 1, 3) := by decide +kernel
theorem dX4_letOutBranch_77 : decode cX4_letOutBranch 77 = .ok (.aload_n 0, 1) := by decide +kernel
theorem dX4_letOutBranch_78 : decode cX4_letOutBranch 78 = .ok (.iload 5, 2) := by decide +kernel
theorem dX4_letOutBranch_80 : decode cX4_letOutBranch 80 = .ok (.bipush 6, 2) := by decide +kernel
theorem dX4_letOutBranch_82 : decode cX4_letOutBranch 82 = .ok (.iconst 1, 1) := by decide +kernel
theorem dX4_letOutBranch_83 : decode cX4_letOutBranch 83 = .ok (.invokevirtual 169, 3) := by decide +kernel
theorem dX4_letOutBranch_86 : decode cX4_letOutBranch 86 = .ok (.iinc 5 1, 3) := by decide +kernel
theorem dX4_letOutBranch_89 : decode cX4_letOutBranch 89 = .ok (.goto (-81), 3) := by decide +kernel
theorem dX4_letOutBranch_92 : decode cX4_letOutBranch 92 = .ok (.aload_n 0, 1) := by decide +kernel
theorem dX4_letOutBranch_93 : decode cX4_letOutBranch 93 = .ok (.iconst 0, 1) := by decide +kernel
theorem dX4_letOutBranch_94 : decode cX4_letOutBranch 94 = .ok (.putfield 70, 3) := by decide +kernel
theorem dX4_letOutBranch_97 : decode cX4_letOutBranch 97 = .ok (.aload_n 0, 1) := by decide +kernel
theorem dX4_letOutBranch_98 : decode cX4_letOutBranch 98 = .ok (.dup, 1) := by decide +kernel
theorem dX4_letOutBranch_99 : decode cX4_letOutBranch 99 = .ok (.getfield 74, 3) := by decide +kernel
theorem dX4_letOutBranch_102 : decode cX4_letOutBranch 102 = .ok (.aload_n 0, 1) := by decide +kernel
theorem dX4_letOutBranch_103 : decode cX4_letOutBranch 103 = .ok (.getfield 9, 3) := by decide +kernel
theorem dX4_letOutBranch_106 : decode cX4_letOutBranch 106 = .ok (.iconst 0, 1) := by decide +kernel
theorem dX4_letOutBranch_107 : decode cX4_letOutBranch 107 = .ok (.iaload, 1) := by decide +kernel
theorem dX4_letOutBranch_108 : decode cX4_letOutBranch 108 = .ok (.iadd, 1) := by decide +kernel
theorem dX4_letOutBranch_109 : decode cX4_letOutBranch 109 = .ok (.putfield 74, 3) := by decide +kernel
theorem dX4_letOutBranch_112 : decode cX4_letOutBranch 112 = .ok (.aload_n 0, 1) := by decide +kernel
theorem dX4_letOutBranch_113 : decode cX4_letOutBranch 113 = .ok (.iload_n 1, 1) := by decide +kernel
theorem dX4_letOutBranch_114 : decode cX4_letOutBranch 114 = .ok (.iconst 0, 1) := by decide +kernel
theorem dX4_letOutBranch_115 : decode cX4_letOutBranch 115 = .ok (.lload_n 2, 1) := by decide +kernel
theorem dX4_letOutBranch_116 : decode cX4_letOutBranch 116 = .ok (.iload 4, 2) := by decide +kernel
theorem dX4_letOutBranch_118 : decode cX4_letOutBranch 118 = .ok (.invokevirtual 173, 3) := by decide +kernel
theorem dX4_letOutBranch_121 : decode cX4_letOutBranch 121 = .ok (.return_, 1) := by decide +kernel
set_option maxRecDepth 20000 in
theorem ggX4_isTested_X4_kept : GoodIn wsX4_isTested wsX4_kept := goodIn_r _ [6, 7, 8, 9, 10, 11, 12, 13, 14, 15, 16, 17, 18, 19, 20, 21, 22, 23, 24, 25, 26, 27, 28] rfl (by decide +kernel)
set_option maxRecDepth 20000 in
theorem gX4_isTested_X4_kept : GoodIn wsX4_isTested (wsV RX4 177 RX4 yX4_kept wsX4_kept) := goodIn_app (goodIn_r _ [2, 3, 4, 5] rfl (by decide +kernel)) ggX4_isTested_X4_kept
theorem dX4_isTested_0 : decode cX4_isTested 0 = .ok (.iload_n 2, 1) := by decide +kernel
theorem dX4_isTested_1 : decode cX4_isTested 1 = .ok (.aload_n 0, 1) := by decide +kernel
theorem dX4_isTested_2 : decode cX4_isTested 2 = .ok (.iload_n 1, 1) := by decide +kernel
theorem dX4_isTested_3 : decode cX4_isTested 3 = .ok (.iconst 1, 1) := by decide +kernel
theorem dX4_isTested_4 : decode cX4_isTested 4 = .ok (.invokevirtual 177, 3) := by decide +kernel
theorem dX4_isTested_7 : decode cX4_isTested 7 = .ok (.isub, 1) := by decide +kernel
theorem dX4_isTested_8 : decode cX4_isTested 8 = .ok (.aload_n 0, 1) := by decide +kernel
theorem dX4_isTested_9 : decode cX4_isTested 9 = .ok (.getfield 9, 3) := by decide +kernel
theorem dX4_isTested_12 : decode cX4_isTested 12 = .ok (.iconst 2, 1) := by decide +kernel
theorem dX4_isTested_13 : decode cX4_isTested 13 = .ok (.iaload, 1) := by decide +kernel
theorem dX4_isTested_14 : decode cX4_isTested 14 = .ok (.if_icmp .lt 7, 3) := by decide +kernel
theorem dX4_isTested_17 : decode cX4_isTested 17 = .ok (.iconst 1, 1) := by decide +kernel
theorem dX4_isTested_18 : decode cX4_isTested 18 = .ok (.goto 4, 3) := by decide +kernel
theorem dX4_isTested_21 : decode cX4_isTested 21 = .ok (.iconst 0, 1) := by decide +kernel
theorem dX4_isTested_22 : decode cX4_isTested 22 = .ok (.ireturn, 1) := by decide +kernel
set_option maxRecDepth 20000 in
theorem ggX4_letOutHot_X0_at : GoodIn wsX4_letOutHot wsX0_at := goodIn_r _ [10, 11, 78] rfl (by decide +kernel)
set_option maxRecDepth 20000 in
theorem gX4_letOutHot_X0_at : GoodIn wsX4_letOutHot (wsV RX4 133 RX0 yX0_at wsX0_at) := goodIn_app (goodIn_r _ [6, 7, 8, 9] rfl (by decide +kernel)) ggX4_letOutHot_X0_at
set_option maxRecDepth 20000 in
theorem ggX4_letOutHot_X8_isIn : GoodIn wsX4_letOutHot wsX8_isIn := goodIn_r _ [14] rfl (by decide +kernel)
set_option maxRecDepth 20000 in
theorem gX4_letOutHot_X8_isIn_n152 : GoodIn wsX4_letOutHot (wsX8_isIn) := ggX4_letOutHot_X8_isIn
set_option maxRecDepth 20000 in
theorem ggX4_letOutHot_X8_only : GoodIn wsX4_letOutHot wsX8_only := goodIn_r _ [16] rfl (by decide +kernel)
set_option maxRecDepth 20000 in
theorem gX4_letOutHot_X8_only_n166 : GoodIn wsX4_letOutHot (wsX8_only) := ggX4_letOutHot_X8_only
set_option maxRecDepth 20000 in
theorem ggX4_letOutHot_X4_letOut : GoodIn wsX4_letOutHot wsX4_letOut := goodIn_r _ [21, 22, 23, 24, 4, 2, 3, 25, 26, 27, 28, 29, 30, 31, 32, 33, 34, 35, 36, 12, 13, 14, 37, 38, 39, 20, 40, 41, 42, 43, 44, 9, 45, 11, 46, 47, 48, 49, 50, 51, 52, 53, 54, 55, 56, 57, 58, 59, 60, 61, 62, 63, 64, 65, 66, 67, 68, 69, 70, 71, 72, 73, 74, 75, 76, 77, 79, 80, 81, 82, 83, 78] rfl (by decide +kernel)
set_option maxRecDepth 20000 in
theorem gX4_letOutHot_X4_letOut : GoodIn wsX4_letOutHot (wsV RX4 173 RX4 yX4_letOut wsX4_letOut) := goodIn_app (goodIn_r _ [17, 18, 19, 20] rfl (by decide +kernel)) ggX4_letOutHot_X4_letOut
theorem dX4_letOutHot_0 : decode cX4_letOutHot 0 = .ok (.aload_n 0, 1) := by decide +kernel
theorem dX4_letOutHot_1 : decode cX4_letOutHot 1 = .ok (.getfield 41, 3) := by decide +kernel
theorem dX4_letOutHot_4 : decode cX4_letOutHot 4 = .ok (.iload_n 1, 1) := by decide +kernel
theorem dX4_letOutHot_5 : decode cX4_letOutHot 5 = .ok (.invokevirtual 133, 3) := by decide +kernel
theorem dX4_letOutHot_8 : decode cX4_letOutHot 8 = .ok (.lstore_n 2, 1) := by decide +kernel
theorem dX4_letOutHot_9 : decode cX4_letOutHot 9 = .ok (.lload_n 2, 1) := by decide +kernel
theorem dX4_letOutHot_10 : decode cX4_letOutHot 10 = .ok (.lconst 0, 1) := by decide +kernel
theorem dX4_letOutHot_11 : decode cX4_letOutHot 11 = .ok (.lcmp, 1) := by decide +kernel
theorem dX4_letOutHot_12 : decode cX4_letOutHot 12 = .ok (.ifCond .ne 4, 3) := by decide +kernel
theorem dX4_letOutHot_15 : decode cX4_letOutHot 15 = .ok (.return_, 1) := by decide +kernel
theorem dX4_letOutHot_16 : decode cX4_letOutHot 16 = .ok (.iconst 0, 1) := by decide +kernel
theorem dX4_letOutHot_17 : decode cX4_letOutHot 17 = .ok (.istore 4, 2) := by decide +kernel
theorem dX4_letOutHot_19 : decode cX4_letOutHot 19 = .ok (.iload 4, 2) := by decide +kernel
theorem dX4_letOutHot_21 : decode cX4_letOutHot 21 = .ok (.aload_n 0, 1) := by decide +kernel
theorem dX4_letOutHot_22 : decode cX4_letOutHot 22 = .ok (.getfield 84, 3) := by decide +kernel
theorem dX4_letOutHot_25 : decode cX4_letOutHot 25 = .ok (.getfield 149, 3) := by decide +kernel
theorem dX4_letOutHot_28 : decode cX4_letOutHot 28 = .ok (.if_icmp .ge 67, 3) := by decide +kernel
theorem dX4_letOutHot_31 : decode cX4_letOutHot 31 = .ok (.lload_n 2, 1) := by decide +kernel
theorem dX4_letOutHot_32 : decode cX4_letOutHot 32 = .ok (.iload 4, 2) := by decide +kernel
theorem dX4_letOutHot_34 : decode cX4_letOutHot 34 = .ok (.invokestatic 152, 3) := by decide +kernel
theorem dX4_letOutHot_37 : decode cX4_letOutHot 37 = .ok (.ifCond .eq 52, 3) := by decide +kernel
theorem dX4_letOutHot_40 : decode cX4_letOutHot 40 = .ok (.aload_n 0, 1) := by decide +kernel
theorem dX4_letOutHot_41 : decode cX4_letOutHot 41 = .ok (.getfield 61, 3) := by decide +kernel
theorem dX4_letOutHot_44 : decode cX4_letOutHot 44 = .ok (.aload_n 0, 1) := by decide +kernel
theorem dX4_letOutHot_45 : decode cX4_letOutHot 45 = .ok (.getfield 84, 3) := by decide +kernel
theorem dX4_letOutHot_48 : decode cX4_letOutHot 48 = .ok (.getfield 180, 3) := by decide +kernel
theorem dX4_letOutHot_51 : decode cX4_letOutHot 51 = .ok (.iload 4, 2) := by decide +kernel
theorem dX4_letOutHot_53 : decode cX4_letOutHot 53 = .ok (.iaload, 1) := by decide +kernel
theorem dX4_letOutHot_54 : decode cX4_letOutHot 54 = .ok (.invokestatic 152, 3) := by decide +kernel
theorem dX4_letOutHot_57 : decode cX4_letOutHot 57 = .ok (.ifCond .eq 32, 3) := by decide +kernel
theorem dX4_letOutHot_60 : decode cX4_letOutHot 60 = .ok (.aload_n 0, 1) := by decide +kernel
theorem dX4_letOutHot_61 : decode cX4_letOutHot 61 = .ok (.getfield 61, 3) := by decide +kernel
theorem dX4_letOutHot_64 : decode cX4_letOutHot 64 = .ok (.iload 4, 2) := by decide +kernel
theorem dX4_letOutHot_66 : decode cX4_letOutHot 66 = .ok (.invokestatic 152, 3) := by decide +kernel
theorem dX4_letOutHot_69 : decode cX4_letOutHot 69 = .ok (.ifCond .ne 20, 3) := by decide +kernel
theorem dX4_letOutHot_72 : decode cX4_letOutHot 72 = .ok (.aload_n 0, 1) := by decide +kernel
theorem dX4_letOutHot_73 : decode cX4_letOutHot 73 = .ok (.iload_n 1, 1) := by decide +kernel
theorem dX4_letOutHot_74 : decode cX4_letOutHot 74 = .ok (.iconst 1, 1) := by decide +kernel
theorem dX4_letOutHot_75 : decode cX4_letOutHot 75 = .ok (.aload_n 0, 1) := by decide +kernel
theorem dX4_letOutHot_76 : decode cX4_letOutHot 76 = .ok (.getfield 61, 3) := by decide +kernel
theorem dX4_letOutHot_79 : decode cX4_letOutHot 79 = .ok (.iload 4, 2) := by decide +kernel
theorem dX4_letOutHot_81 : decode cX4_letOutHot 81 = .ok (.invokestatic 166, 3) := by decide +kernel
theorem dX4_letOutHot_84 : decode cX4_letOutHot 84 = .ok (.lor, 1) := by decide +kernel
theorem dX4_letOutHot_85 : decode cX4_letOutHot 85 = .ok (.iconst 0, 1) := by decide +kernel
theorem dX4_letOutHot_86 : decode cX4_letOutHot 86 = .ok (.invokevirtual 173, 3) := by decide +kernel
theorem dX4_letOutHot_89 : decode cX4_letOutHot 89 = .ok (.iinc 4 1, 3) := by decide +kernel
theorem dX4_letOutHot_92 : decode cX4_letOutHot 92 = .ok (.goto (-73), 3) := by decide +kernel
theorem dX4_letOutHot_95 : decode cX4_letOutHot 95 = .ok (.return_, 1) := by decide +kernel
set_option maxRecDepth 20000 in
theorem ggX4_letOut_X3_add : GoodIn wsX4_letOut wsX3_add := goodIn_r _ [13, 14, 15, 16, 17, 18, 66, 67, 68, 69, 70] rfl (by decide +kernel)
set_option maxRecDepth 20000 in
theorem gX4_letOut_X3_add : GoodIn wsX4_letOut (wsV RX4 183 RX3 yX3_add wsX3_add) := goodIn_app (goodIn_r _ [9, 10, 11, 12] rfl (by decide +kernel)) ggX4_letOut_X3_add
set_option maxRecDepth 20000 in
theorem ggX4_letOut_X8_isIn : GoodIn wsX4_letOut wsX8_isIn := goodIn_r _ [21] rfl (by decide +kernel)
set_option maxRecDepth 20000 in
theorem gX4_letOut_X8_isIn_n152 : GoodIn wsX4_letOut (wsX8_isIn) := ggX4_letOut_X8_isIn
set_option maxRecDepth 20000 in
theorem ggX4_letOut_X4_mark : GoodIn wsX4_letOut wsX4_mark := goodIn_r _ [26, 27, 34, 35, 36, 37, 38, 39, 40, 41, 42, 43, 44, 45, 46, 47, 48, 49, 50, 51, 52, 53] rfl (by decide +kernel)
set_option maxRecDepth 20000 in
theorem gX4_letOut_X4_mark : GoodIn wsX4_letOut (wsV RX4 186 RX4 yX4_mark wsX4_mark) := goodIn_app (goodIn_r _ [22, 23, 24, 25] rfl (by decide +kernel)) ggX4_letOut_X4_mark
set_option maxRecDepth 20000 in
theorem ggX4_letOut_X0_put : GoodIn wsX4_letOut wsX0_put := goodIn_r _ [32, 33, 71] rfl (by decide +kernel)
set_option maxRecDepth 20000 in
theorem gX4_letOut_X0_put : GoodIn wsX4_letOut (wsV RX4 192 RX0 yX0_put wsX0_put) := goodIn_app (goodIn_r _ [28, 29, 30, 31] rfl (by decide +kernel)) ggX4_letOut_X0_put
theorem dX4_letOut_0 : decode cX4_letOut 0 = .ok (.aload_n 0, 1) := by decide +kernel
theorem dX4_letOut_1 : decode cX4_letOut 1 = .ok (.getfield 53, 3) := by decide +kernel
theorem dX4_letOut_4 : decode cX4_letOut 4 = .ok (.iload_n 1, 1) := by decide +kernel
theorem dX4_letOut_5 : decode cX4_letOut 5 = .ok (.iload_n 2, 1) := by decide +kernel
theorem dX4_letOut_6 : decode cX4_letOut 6 = .ok (.lload_n 3, 1) := by decide +kernel
theorem dX4_letOut_7 : decode cX4_letOut 7 = .ok (.iload 5, 2) := by decide +kernel
theorem dX4_letOut_9 : decode cX4_letOut 9 = .ok (.invokevirtual 183, 3) := by decide +kernel
theorem dX4_letOut_12 : decode cX4_letOut 12 = .ok (.lload_n 3, 1) := by decide +kernel
theorem dX4_letOut_13 : decode cX4_letOut 13 = .ok (.aload_n 0, 1) := by decide +kernel
theorem dX4_letOut_14 : decode cX4_letOut 14 = .ok (.getfield 64, 3) := by decide +kernel
theorem dX4_letOut_17 : decode cX4_letOut 17 = .ok (.ldc2_w 164, 3) := by decide +kernel
theorem dX4_letOut_20 : decode cX4_letOut 20 = .ok (.lxor, 1) := by decide +kernel
theorem dX4_letOut_21 : decode cX4_letOut 21 = .ok (.land, 1) := by decide +kernel
theorem dX4_letOut_22 : decode cX4_letOut 22 = .ok (.lstore 6, 2) := by decide +kernel
theorem dX4_letOut_24 : decode cX4_letOut 24 = .ok (.aload_n 0, 1) := by decide +kernel
theorem dX4_letOut_25 : decode cX4_letOut 25 = .ok (.lload_n 3, 1) := by decide +kernel
theorem dX4_letOut_26 : decode cX4_letOut 26 = .ok (.putfield 61, 3) := by decide +kernel
theorem dX4_letOut_29 : decode cX4_letOut 29 = .ok (.aload_n 0, 1) := by decide +kernel
theorem dX4_letOut_30 : decode cX4_letOut 30 = .ok (.dup, 1) := by decide +kernel
theorem dX4_letOut_31 : decode cX4_letOut 31 = .ok (.getfield 64, 3) := by decide +kernel
theorem dX4_letOut_34 : decode cX4_letOut 34 = .ok (.lload_n 3, 1) := by decide +kernel
theorem dX4_letOut_35 : decode cX4_letOut 35 = .ok (.lor, 1) := by decide +kernel
theorem dX4_letOut_36 : decode cX4_letOut 36 = .ok (.putfield 64, 3) := by decide +kernel
theorem dX4_letOut_39 : decode cX4_letOut 39 = .ok (.lload 6, 2) := by decide +kernel
theorem dX4_letOut_41 : decode cX4_letOut 41 = .ok (.lconst 0, 1) := by decide +kernel
theorem dX4_letOut_42 : decode cX4_letOut 42 = .ok (.lcmp, 1) := by decide +kernel
theorem dX4_letOut_43 : decode cX4_letOut 43 = .ok (.ifCond .ne 4, 3) := by decide +kernel
theorem dX4_letOut_46 : decode cX4_letOut 46 = .ok (.return_, 1) := by decide +kernel
theorem dX4_letOut_47 : decode cX4_letOut 47 = .ok (.iconst 0, 1) := by decide +kernel
theorem dX4_letOut_48 : decode cX4_letOut 48 = .ok (.istore 8, 2) := by decide +kernel
theorem dX4_letOut_50 : decode cX4_letOut 50 = .ok (.iload 8, 2) := by decide +kernel
theorem dX4_letOut_52 : decode cX4_letOut 52 = .ok (.aload_n 0, 1) := by decide +kernel
theorem dX4_letOut_53 : decode cX4_letOut 53 = .ok (.getfield 84, 3) := by decide +kernel
theorem dX4_letOut_56 : decode cX4_letOut 56 = .ok (.getfield 149, 3) := by decide +kernel
theorem dX4_letOut_59 : decode cX4_letOut 59 = .ok (.if_icmp .ge 62, 3) := by decide +kernel
theorem dX4_letOut_62 : decode cX4_letOut 62 = .ok (.lload 6, 2) := by decide +kernel
theorem dX4_letOut_64 : decode cX4_letOut 64 = .ok (.iload 8, 2) := by decide +kernel
theorem dX4_letOut_66 : decode cX4_letOut 66 = .ok (.invokestatic 152, 3) := by decide +kernel
theorem dX4_letOut_69 : decode cX4_letOut 69 = .ok (.ifCond .eq 46, 3) := by decide +kernel
theorem dX4_letOut_72 : decode cX4_letOut 72 = .ok (.aload_n 0, 1) := by decide +kernel
theorem dX4_letOut_73 : decode cX4_letOut 73 = .ok (.iload 8, 2) := by decide +kernel
theorem dX4_letOut_75 : decode cX4_letOut 75 = .ok (.iconst 2, 1) := by decide +kernel
theorem dX4_letOut_76 : decode cX4_letOut 76 = .ok (.iload_n 1, 1) := by decide +kernel
theorem dX4_letOut_77 : decode cX4_letOut 77 = .ok (.invokevirtual 186, 3) := by decide +kernel
theorem dX4_letOut_80 : decode cX4_letOut 80 = .ok (.aload_n 0, 1) := by decide +kernel
theorem dX4_letOut_81 : decode cX4_letOut 81 = .ok (.getfield 84, 3) := by decide +kernel
theorem dX4_letOut_84 : decode cX4_letOut 84 = .ok (.getfield 189, 3) := by decide +kernel
theorem dX4_letOut_87 : decode cX4_letOut 87 = .ok (.iload 8, 2) := by decide +kernel
theorem dX4_letOut_89 : decode cX4_letOut 89 = .ok (.iaload, 1) := by decide +kernel
theorem dX4_letOut_90 : decode cX4_letOut 90 = .ok (.iconst (-1), 1) := by decide +kernel
theorem dX4_letOut_91 : decode cX4_letOut 91 = .ok (.if_icmp .eq 24, 3) := by decide +kernel
theorem dX4_letOut_94 : decode cX4_letOut 94 = .ok (.aload_n 0, 1) := by decide +kernel
theorem dX4_letOut_95 : decode cX4_letOut 95 = .ok (.getfield 38, 3) := by decide +kernel
theorem dX4_letOut_98 : decode cX4_letOut 98 = .ok (.iload_n 1, 1) := by decide +kernel
theorem dX4_letOut_99 : decode cX4_letOut 99 = .ok (.aload_n 0, 1) := by decide +kernel
theorem dX4_letOut_100 : decode cX4_letOut 100 = .ok (.getfield 84, 3) := by decide +kernel
theorem dX4_letOut_103 : decode cX4_letOut 103 = .ok (.getfield 189, 3) := by decide +kernel
theorem dX4_letOut_106 : decode cX4_letOut 106 = .ok (.iload 8, 2) := by decide +kernel
theorem dX4_letOut_108 : decode cX4_letOut 108 = .ok (.iaload, 1) := by decide +kernel
theorem dX4_letOut_109 : decode cX4_letOut 109 = .ok (.iadd, 1) := by decide +kernel
theorem dX4_letOut_110 : decode cX4_letOut 110 = .ok (.iload 8, 2) := by decide +kernel
theorem dX4_letOut_112 : decode cX4_letOut 112 = .ok (.invokevirtual 192, 3) := by decide +kernel
theorem dX4_letOut_115 : decode cX4_letOut 115 = .ok (.iinc 8 1, 3) := by decide +kernel
theorem dX4_letOut_118 : decode cX4_letOut 118 = .ok (.goto (-68), 3) := by decide +kernel
theorem dX4_letOut_121 : decode cX4_letOut 121 = .ok (.return_, 1) := by decide +kernel
set_option maxRecDepth 20000 in
theorem ggX4_meetBreaks_X0_at : GoodIn wsX4_meetBreaks wsX0_at := goodIn_r _ [10, 11, 55] rfl (by decide +kernel)
set_option maxRecDepth 20000 in
theorem gX4_meetBreaks_X0_at : GoodIn wsX4_meetBreaks (wsV RX4 133 RX0 yX0_at wsX0_at) := goodIn_app (goodIn_r _ [6, 7, 8, 9] rfl (by decide +kernel)) ggX4_meetBreaks_X0_at
set_option maxRecDepth 20000 in
theorem ggX4_meetBreaks_X8_isIn : GoodIn wsX4_meetBreaks wsX8_isIn := goodIn_r _ [14] rfl (by decide +kernel)
set_option maxRecDepth 20000 in
theorem gX4_meetBreaks_X8_isIn_n152 : GoodIn wsX4_meetBreaks (wsX8_isIn) := ggX4_meetBreaks_X8_isIn
set_option maxRecDepth 20000 in
theorem ggX4_meetBreaks_X4_mark : GoodIn wsX4_meetBreaks wsX4_mark := goodIn_r _ [19, 20, 23, 24, 25, 26, 27, 28, 29, 30, 31, 32, 33, 34, 35, 36, 37, 38, 39, 40, 41, 42] rfl (by decide +kernel)
set_option maxRecDepth 20000 in
theorem gX4_meetBreaks_X4_mark : GoodIn wsX4_meetBreaks (wsV RX4 186 RX4 yX4_mark wsX4_mark) := goodIn_app (goodIn_r _ [15, 16, 17, 18] rfl (by decide +kernel)) ggX4_meetBreaks_X4_mark
set_option maxRecDepth 20000 in
theorem ggX4_meetBreaks_X8_only : GoodIn wsX4_meetBreaks wsX8_only := goodIn_r _ [22] rfl (by decide +kernel)
set_option maxRecDepth 20000 in
theorem gX4_meetBreaks_X8_only_n166 : GoodIn wsX4_meetBreaks (wsX8_only) := ggX4_meetBreaks_X8_only
theorem dX4_meetBreaks_0 : decode cX4_meetBreaks 0 = .ok (.aload_n 0, 1) := by decide +kernel
theorem dX4_meetBreaks_1 : decode cX4_meetBreaks 1 = .ok (.getfield 38, 3) := by decide +kernel
theorem dX4_meetBreaks_4 : decode cX4_meetBreaks 4 = .ok (.iload_n 1, 1) := by decide +kernel
theorem dX4_meetBreaks_5 : decode cX4_meetBreaks 5 = .ok (.invokevirtual 133, 3) := by decide +kernel
theorem dX4_meetBreaks_8 : decode cX4_meetBreaks 8 = .ok (.aload_n 0, 1) := by decide +kernel
theorem dX4_meetBreaks_9 : decode cX4_meetBreaks 9 = .ok (.getfield 61, 3) := by decide +kernel
theorem dX4_meetBreaks_12 : decode cX4_meetBreaks 12 = .ok (.land, 1) := by decide +kernel
theorem dX4_meetBreaks_13 : decode cX4_meetBreaks 13 = .ok (.lstore_n 2, 1) := by decide +kernel
theorem dX4_meetBreaks_14 : decode cX4_meetBreaks 14 = .ok (.lconst 0, 1) := by decide +kernel
theorem dX4_meetBreaks_15 : decode cX4_meetBreaks 15 = .ok (.lstore 4, 2) := by decide +kernel
theorem dX4_meetBreaks_17 : decode cX4_meetBreaks 17 = .ok (.lload_n 2, 1) := by decide +kernel
theorem dX4_meetBreaks_18 : decode cX4_meetBreaks 18 = .ok (.lconst 0, 1) := by decide +kernel
theorem dX4_meetBreaks_19 : decode cX4_meetBreaks 19 = .ok (.lcmp, 1) := by decide +kernel
theorem dX4_meetBreaks_20 : decode cX4_meetBreaks 20 = .ok (.ifCond .ne 6, 3) := by decide +kernel
theorem dX4_meetBreaks_23 : decode cX4_meetBreaks 23 = .ok (.lload 4, 2) := by decide +kernel
theorem dX4_meetBreaks_25 : decode cX4_meetBreaks 25 = .ok (.lreturn, 1) := by decide +kernel
theorem dX4_meetBreaks_26 : decode cX4_meetBreaks 26 = .ok (.iconst 0, 1) := by decide +kernel
theorem dX4_meetBreaks_27 : decode cX4_meetBreaks 27 = .ok (.istore 6, 2) := by decide +kernel
theorem dX4_meetBreaks_29 : decode cX4_meetBreaks 29 = .ok (.iload 6, 2) := by decide +kernel
theorem dX4_meetBreaks_31 : decode cX4_meetBreaks 31 = .ok (.aload_n 0, 1) := by decide +kernel
theorem dX4_meetBreaks_32 : decode cX4_meetBreaks 32 = .ok (.getfield 84, 3) := by decide +kernel
theorem dX4_meetBreaks_35 : decode cX4_meetBreaks 35 = .ok (.getfield 149, 3) := by decide +kernel
theorem dX4_meetBreaks_38 : decode cX4_meetBreaks 38 = .ok (.if_icmp .ge 88, 3) := by decide +kernel
theorem dX4_meetBreaks_41 : decode cX4_meetBreaks 41 = .ok (.aload_n 0, 1) := by decide +kernel
theorem dX4_meetBreaks_42 : decode cX4_meetBreaks 42 = .ok (.getfield 84, 3) := by decide +kernel
theorem dX4_meetBreaks_45 : decode cX4_meetBreaks 45 = .ok (.getfield 196, 3) := by decide +kernel
theorem dX4_meetBreaks_48 : decode cX4_meetBreaks 48 = .ok (.iload 6, 2) := by decide +kernel
theorem dX4_meetBreaks_50 : decode cX4_meetBreaks 50 = .ok (.iaload, 1) := by decide +kernel
theorem dX4_meetBreaks_51 : decode cX4_meetBreaks 51 = .ok (.istore 7, 2) := by decide +kernel
theorem dX4_meetBreaks_53 : decode cX4_meetBreaks 53 = .ok (.iload 7, 2) := by decide +kernel
theorem dX4_meetBreaks_55 : decode cX4_meetBreaks 55 = .ok (.iconst (-1), 1) := by decide +kernel
theorem dX4_meetBreaks_56 : decode cX4_meetBreaks 56 = .ok (.if_icmp .eq 19, 3) := by decide +kernel
theorem dX4_meetBreaks_59 : decode cX4_meetBreaks 59 = .ok (.aload_n 0, 1) := by decide +kernel
theorem dX4_meetBreaks_60 : decode cX4_meetBreaks 60 = .ok (.getfield 61, 3) := by decide +kernel
theorem dX4_meetBreaks_63 : decode cX4_meetBreaks 63 = .ok (.iload 7, 2) := by decide +kernel
theorem dX4_meetBreaks_65 : decode cX4_meetBreaks 65 = .ok (.invokestatic 152, 3) := by decide +kernel
theorem dX4_meetBreaks_68 : decode cX4_meetBreaks 68 = .ok (.ifCond .eq 7, 3) := by decide +kernel
theorem dX4_meetBreaks_71 : decode cX4_meetBreaks 71 = .ok (.iconst 1, 1) := by decide +kernel
theorem dX4_meetBreaks_72 : decode cX4_meetBreaks 72 = .ok (.goto 4, 3) := by decide +kernel
theorem dX4_meetBreaks_75 : decode cX4_meetBreaks 75 = .ok (.iconst 0, 1) := by decide +kernel
theorem dX4_meetBreaks_76 : decode cX4_meetBreaks 76 = .ok (.istore 8, 2) := by decide +kernel
theorem dX4_meetBreaks_78 : decode cX4_meetBreaks 78 = .ok (.lload_n 2, 1) := by decide +kernel
theorem dX4_meetBreaks_79 : decode cX4_meetBreaks 79 = .ok (.iload 6, 2) := by decide +kernel
theorem dX4_meetBreaks_81 : decode cX4_meetBreaks 81 = .ok (.invokestatic 152, 3) := by decide +kernel
theorem dX4_meetBreaks_84 : decode cX4_meetBreaks 84 = .ok (.ifCond .eq 36, 3) := by decide +kernel
theorem dX4_meetBreaks_87 : decode cX4_meetBreaks 87 = .ok (.iload 8, 2) := by decide +kernel
theorem dX4_meetBreaks_89 : decode cX4_meetBreaks 89 = .ok (.ifCond .ne 31, 3) := by decide +kernel
theorem dX4_meetBreaks_92 : decode cX4_meetBreaks 92 = .ok (.aload_n 0, 1) := by decide +kernel
theorem dX4_meetBreaks_93 : decode cX4_meetBreaks 93 = .ok (.iload 6, 2) := by decide +kernel
theorem dX4_meetBreaks_95 : decode cX4_meetBreaks 95 = .ok (.iconst 3, 1) := by decide +kernel
theorem dX4_meetBreaks_96 : decode cX4_meetBreaks 96 = .ok (.iload_n 1, 1) := by decide +kernel
theorem dX4_meetBreaks_97 : decode cX4_meetBreaks 97 = .ok (.invokevirtual 186, 3) := by decide +kernel
theorem dX4_meetBreaks_100 : decode cX4_meetBreaks 100 = .ok (.lload 4, 2) := by decide +kernel
theorem dX4_meetBreaks_102 : decode cX4_meetBreaks 102 = .ok (.iload 7, 2) := by decide +kernel
theorem dX4_meetBreaks_104 : decode cX4_meetBreaks 104 = .ok (.iconst (-1), 1) := by decide +kernel
theorem dX4_meetBreaks_105 : decode cX4_meetBreaks 105 = .ok (.if_icmp .ne 7, 3) := by decide +kernel
theorem dX4_meetBreaks_108 : decode cX4_meetBreaks 108 = .ok (.lconst 0, 1) := by decide +kernel
theorem dX4_meetBreaks_109 : decode cX4_meetBreaks 109 = .ok (.goto 8, 3) := by decide +kernel
theorem dX4_meetBreaks_112 : decode cX4_meetBreaks 112 = .ok (.iload 7, 2) := by decide +kernel
theorem dX4_meetBreaks_114 : decode cX4_meetBreaks 114 = .ok (.invokestatic 166, 3) := by decide +kernel
theorem dX4_meetBreaks_117 : decode cX4_meetBreaks 117 = .ok (.lor, 1) := by decide +kernel
theorem dX4_meetBreaks_118 : decode cX4_meetBreaks 118 = .ok (.lstore 4, 2) := by decide +kernel
theorem dX4_meetBreaks_120 : decode cX4_meetBreaks 120 = .ok (.iinc 6 1, 3) := by decide +kernel
theorem dX4_meetBreaks_123 : decode cX4_meetBreaks 123 = .ok (.goto (-94), 3) := by decide +kernel
theorem dX4_meetBreaks_126 : decode cX4_meetBreaks 126 = .ok (.lload 4, 2) := by decide +kernel
theorem dX4_meetBreaks_128 : decode cX4_meetBreaks 128 = .ok (.lreturn, 1) := by decide +kernel
set_option maxRecDepth 20000 in
theorem ggX4_bear_X8_isIn : GoodIn wsX4_bear wsX8_isIn := goodIn_r _ [11] rfl (by decide +kernel)
set_option maxRecDepth 20000 in
theorem gX4_bear_X8_isIn_n152 : GoodIn wsX4_bear (wsX8_isIn) := ggX4_bear_X8_isIn
set_option maxRecDepth 20000 in
theorem ggX4_bear_X4_mark : GoodIn wsX4_bear wsX4_mark := goodIn_r _ [16, 17, 24, 25, 26, 27, 28, 29, 30, 31, 32, 33, 34, 35, 36, 37, 38, 39, 40, 41, 42, 43] rfl (by decide +kernel)
set_option maxRecDepth 20000 in
theorem gX4_bear_X4_mark : GoodIn wsX4_bear (wsV RX4 186 RX4 yX4_mark wsX4_mark) := goodIn_app (goodIn_r _ [12, 13, 14, 15] rfl (by decide +kernel)) ggX4_bear_X4_mark
set_option maxRecDepth 20000 in
theorem ggX4_bear_X0_put : GoodIn wsX4_bear wsX0_put := goodIn_r _ [22, 23, 58] rfl (by decide +kernel)
set_option maxRecDepth 20000 in
theorem gX4_bear_X0_put : GoodIn wsX4_bear (wsV RX4 192 RX0 yX0_put wsX0_put) := goodIn_app (goodIn_r _ [18, 19, 20, 21] rfl (by decide +kernel)) ggX4_bear_X0_put
theorem dX4_bear_0 : decode cX4_bear 0 = .ok (.lload_n 2, 1) := by decide +kernel
theorem dX4_bear_1 : decode cX4_bear 1 = .ok (.lconst 0, 1) := by decide +kernel
theorem dX4_bear_2 : decode cX4_bear 2 = .ok (.lcmp, 1) := by decide +kernel
theorem dX4_bear_3 : decode cX4_bear 3 = .ok (.ifCond .ne 4, 3) := by decide +kernel
theorem dX4_bear_6 : decode cX4_bear 6 = .ok (.return_, 1) := by decide +kernel
theorem dX4_bear_7 : decode cX4_bear 7 = .ok (.iconst 0, 1) := by decide +kernel
theorem dX4_bear_8 : decode cX4_bear 8 = .ok (.istore 4, 2) := by decide +kernel
theorem dX4_bear_10 : decode cX4_bear 10 = .ok (.iload 4, 2) := by decide +kernel
theorem dX4_bear_12 : decode cX4_bear 12 = .ok (.aload_n 0, 1) := by decide +kernel
theorem dX4_bear_13 : decode cX4_bear 13 = .ok (.getfield 84, 3) := by decide +kernel
theorem dX4_bear_16 : decode cX4_bear 16 = .ok (.getfield 149, 3) := by decide +kernel
theorem dX4_bear_19 : decode cX4_bear 19 = .ok (.if_icmp .ge 71, 3) := by decide +kernel
theorem dX4_bear_22 : decode cX4_bear 22 = .ok (.lload_n 2, 1) := by decide +kernel
theorem dX4_bear_23 : decode cX4_bear 23 = .ok (.iload 4, 2) := by decide +kernel
theorem dX4_bear_25 : decode cX4_bear 25 = .ok (.invokestatic 152, 3) := by decide +kernel
theorem dX4_bear_28 : decode cX4_bear 28 = .ok (.ifCond .eq 56, 3) := by decide +kernel
theorem dX4_bear_31 : decode cX4_bear 31 = .ok (.aload_n 0, 1) := by decide +kernel
theorem dX4_bear_32 : decode cX4_bear 32 = .ok (.iload 4, 2) := by decide +kernel
theorem dX4_bear_34 : decode cX4_bear 34 = .ok (.iconst 0, 1) := by decide +kernel
theorem dX4_bear_35 : decode cX4_bear 35 = .ok (.iload_n 1, 1) := by decide +kernel
theorem dX4_bear_36 : decode cX4_bear 36 = .ok (.invokevirtual 186, 3) := by decide +kernel
theorem dX4_bear_39 : decode cX4_bear 39 = .ok (.aload_n 0, 1) := by decide +kernel
theorem dX4_bear_40 : decode cX4_bear 40 = .ok (.getfield 21, 3) := by decide +kernel
theorem dX4_bear_43 : decode cX4_bear 43 = .ok (.iload 4, 2) := by decide +kernel
theorem dX4_bear_45 : decode cX4_bear 45 = .ok (.aload_n 0, 1) := by decide +kernel
theorem dX4_bear_46 : decode cX4_bear 46 = .ok (.getfield 27, 3) := by decide +kernel
theorem dX4_bear_49 : decode cX4_bear 49 = .ok (.getfield 114, 3) := by decide +kernel
theorem dX4_bear_52 : decode cX4_bear 52 = .ok (.iastore, 1) := by decide +kernel
theorem dX4_bear_53 : decode cX4_bear 53 = .ok (.aload_n 0, 1) := by decide +kernel
theorem dX4_bear_54 : decode cX4_bear 54 = .ok (.getfield 34, 3) := by decide +kernel
theorem dX4_bear_57 : decode cX4_bear 57 = .ok (.iload_n 1, 1) := by decide +kernel
theorem dX4_bear_58 : decode cX4_bear 58 = .ok (.aload_n 0, 1) := by decide +kernel
theorem dX4_bear_59 : decode cX4_bear 59 = .ok (.getfield 84, 3) := by decide +kernel
theorem dX4_bear_62 : decode cX4_bear 62 = .ok (.getfield 199, 3) := by decide +kernel
theorem dX4_bear_65 : decode cX4_bear 65 = .ok (.iload 4, 2) := by decide +kernel
theorem dX4_bear_67 : decode cX4_bear 67 = .ok (.iaload, 1) := by decide +kernel
theorem dX4_bear_68 : decode cX4_bear 68 = .ok (.iadd, 1) := by decide +kernel
theorem dX4_bear_69 : decode cX4_bear 69 = .ok (.iload 4, 2) := by decide +kernel
theorem dX4_bear_71 : decode cX4_bear 71 = .ok (.invokevirtual 192, 3) := by decide +kernel
theorem dX4_bear_74 : decode cX4_bear 74 = .ok (.aload_n 0, 1) := by decide +kernel
theorem dX4_bear_75 : decode cX4_bear 75 = .ok (.dup, 1) := by decide +kernel
theorem dX4_bear_76 : decode cX4_bear 76 = .ok (.getfield 78, 3) := by decide +kernel
theorem dX4_bear_79 : decode cX4_bear 79 = .ok (.iconst 1, 1) := by decide +kernel
theorem dX4_bear_80 : decode cX4_bear 80 = .ok (.iadd, 1) := by decide +kernel
theorem dX4_bear_81 : decode cX4_bear 81 = .ok (.putfield 78, 3) := by decide +kernel
theorem dX4_bear_84 : decode cX4_bear 84 = .ok (.iinc 4 1, 3) := by decide +kernel
theorem dX4_bear_87 : decode cX4_bear 87 = .ok (.goto (-77), 3) := by decide +kernel
theorem dX4_bear_90 : decode cX4_bear 90 = .ok (.return_, 1) := by decide +kernel
set_option maxRecDepth 20000 in
theorem ggX4_mergeReady_X0_at : GoodIn wsX4_mergeReady wsX0_at := goodIn_r _ [9, 10, 104] rfl (by decide +kernel)
set_option maxRecDepth 20000 in
theorem gX4_mergeReady_X0_at : GoodIn wsX4_mergeReady (wsV RX4 133 RX0 yX0_at wsX0_at) := goodIn_app (goodIn_r _ [5, 6, 7, 8] rfl (by decide +kernel)) ggX4_mergeReady_X0_at
set_option maxRecDepth 20000 in
theorem ggX4_mergeReady_X4_joinLines : GoodIn wsX4_mergeReady wsX4_joinLines := goodIn_r _ [15, 16, 17, 18, 2, 4, 19, 20, 21, 22, 23, 24, 25, 26, 27, 28, 84, 85, 86, 87, 88, 89, 90, 91, 92, 93, 94, 95, 96, 97, 98, 99, 100, 101, 102, 103, 105, 106, 107, 108, 109, 110, 111, 112, 113, 114, 115, 116, 117, 118] rfl (by decide +kernel)
set_option maxRecDepth 20000 in
theorem gX4_mergeReady_X4_joinLines : GoodIn wsX4_mergeReady (wsV RX4 202 RX4 yX4_joinLines wsX4_joinLines) := goodIn_app (goodIn_r _ [11, 12, 13, 14] rfl (by decide +kernel)) ggX4_mergeReady_X4_joinLines
set_option maxRecDepth 20000 in
theorem ggX4_mergeReady_X4_mergeLine : GoodIn wsX4_mergeReady wsX4_mergeLine := goodIn_r _ [32, 33, 34, 16, 35, 36, 37, 3, 38, 39, 40, 14, 41, 42, 43, 44, 45, 46, 47, 48, 49, 50, 51, 52, 53, 54, 55, 1, 56, 57, 58, 59, 60, 61, 62, 63, 8, 64, 10, 65, 66, 67, 68, 18, 69, 70, 71, 19, 20, 21, 72, 73, 74, 75, 76, 22, 23, 24, 25, 26, 27, 28, 77, 78, 117, 118, 84, 85, 86, 87, 88, 89, 90, 91, 92, 93, 94, 95, 96, 97, 98, 99, 100, 101, 102, 103, 105, 106, 107, 108, 109, 110, 111, 112, 113, 114, 115, 116, 104] rfl (by decide +kernel)
set_option maxRecDepth 20000 in
theorem gX4_mergeReady_X4_mergeLine : GoodIn wsX4_mergeReady (wsV RX4 206 RX4 yX4_mergeLine wsX4_mergeLine) := goodIn_app (goodIn_r _ [29, 30, 31, 14] rfl (by decide +kernel)) ggX4_mergeReady_X4_mergeLine
set_option maxRecDepth 20000 in
theorem ggX4_mergeReady_X4_isFrozen : GoodIn wsX4_mergeReady wsX4_isFrozen := goodIn_r _ [82, 69, 83, 3, 84, 85, 86, 87, 88, 89, 90, 91, 92, 93, 94, 95, 96, 97, 98, 99, 100, 101, 102, 103] rfl (by decide +kernel)
set_option maxRecDepth 20000 in
theorem gX4_mergeReady_X4_isFrozen : GoodIn wsX4_mergeReady (wsV RX4 210 RX4 yX4_isFrozen wsX4_isFrozen) := goodIn_app (goodIn_r _ [79, 80, 81, 14] rfl (by decide +kernel)) ggX4_mergeReady_X4_isFrozen
theorem dX4_mergeReady_0 : decode cX4_mergeReady 0 = .ok (.aload_n 0, 1) := by decide +kernel
theorem dX4_mergeReady_1 : decode cX4_mergeReady 1 = .ok (.aload_n 0, 1) := by decide +kernel
theorem dX4_mergeReady_2 : decode cX4_mergeReady 2 = .ok (.getfield 34, 3) := by decide +kernel
theorem dX4_mergeReady_5 : decode cX4_mergeReady 5 = .ok (.iload_n 1, 1) := by decide +kernel
theorem dX4_mergeReady_6 : decode cX4_mergeReady 6 = .ok (.invokevirtual 133, 3) := by decide +kernel
theorem dX4_mergeReady_9 : decode cX4_mergeReady 9 = .ok (.invokevirtual 202, 3) := by decide +kernel
theorem dX4_mergeReady_12 : decode cX4_mergeReady 12 = .ok (.aload_n 0, 1) := by decide +kernel
theorem dX4_mergeReady_13 : decode cX4_mergeReady 13 = .ok (.aload_n 0, 1) := by decide +kernel
theorem dX4_mergeReady_14 : decode cX4_mergeReady 14 = .ok (.getfield 44, 3) := by decide +kernel
theorem dX4_mergeReady_17 : decode cX4_mergeReady 17 = .ok (.aload_n 0, 1) := by decide +kernel
theorem dX4_mergeReady_18 : decode cX4_mergeReady 18 = .ok (.getfield 9, 3) := by decide +kernel
theorem dX4_mergeReady_21 : decode cX4_mergeReady 21 = .ok (.iconst 3, 1) := by decide +kernel
theorem dX4_mergeReady_22 : decode cX4_mergeReady 22 = .ok (.iaload, 1) := by decide +kernel
theorem dX4_mergeReady_23 : decode cX4_mergeReady 23 = .ok (.iload_n 1, 1) := by decide +kernel
theorem dX4_mergeReady_24 : decode cX4_mergeReady 24 = .ok (.invokevirtual 206, 3) := by decide +kernel
theorem dX4_mergeReady_27 : decode cX4_mergeReady 27 = .ok (.istore_n 2, 1) := by decide +kernel
theorem dX4_mergeReady_28 : decode cX4_mergeReady 28 = .ok (.aload_n 0, 1) := by decide +kernel
theorem dX4_mergeReady_29 : decode cX4_mergeReady 29 = .ok (.iload_n 1, 1) := by decide +kernel
theorem dX4_mergeReady_30 : decode cX4_mergeReady 30 = .ok (.invokevirtual 210, 3) := by decide +kernel
theorem dX4_mergeReady_33 : decode cX4_mergeReady 33 = .ok (.ifCond .ne 14, 3) := by decide +kernel
theorem dX4_mergeReady_36 : decode cX4_mergeReady 36 = .ok (.aload_n 0, 1) := by decide +kernel
theorem dX4_mergeReady_37 : decode cX4_mergeReady 37 = .ok (.aload_n 0, 1) := by decide +kernel
theorem dX4_mergeReady_38 : decode cX4_mergeReady 38 = .ok (.getfield 47, 3) := by decide +kernel
theorem dX4_mergeReady_41 : decode cX4_mergeReady 41 = .ok (.iload_n 2, 1) := by decide +kernel
theorem dX4_mergeReady_42 : decode cX4_mergeReady 42 = .ok (.iload_n 1, 1) := by decide +kernel
theorem dX4_mergeReady_43 : decode cX4_mergeReady 43 = .ok (.invokevirtual 206, 3) := by decide +kernel
theorem dX4_mergeReady_46 : decode cX4_mergeReady 46 = .ok (.pop, 1) := by decide +kernel
theorem dX4_mergeReady_47 : decode cX4_mergeReady 47 = .ok (.return_, 1) := by decide +kernel
set_option maxRecDepth 20000 in
theorem ggX4_joinLines_X8_isIn : GoodIn wsX4_joinLines wsX8_isIn := goodIn_r _ [8] rfl (by decide +kernel)
set_option maxRecDepth 20000 in
theorem gX4_joinLines_X8_isIn_n152 : GoodIn wsX4_joinLines (wsX8_isIn) := ggX4_joinLines_X8_isIn
set_option maxRecDepth 20000 in
theorem ggX4_joinLines_X2_join : GoodIn wsX4_joinLines wsX2_join := goodIn_r _ [13, 14, 15, 48, 49] rfl (by decide +kernel)
set_option maxRecDepth 20000 in
theorem gX4_joinLines_X2_join : GoodIn wsX4_joinLines (wsV RX4 216 RX2 yX2_join wsX2_join) := goodIn_app (goodIn_r _ [9, 10, 11, 12] rfl (by decide +kernel)) ggX4_joinLines_X2_join
theorem dX4_joinLines_0 : decode cX4_joinLines 0 = .ok (.lload_n 1, 1) := by decide +kernel
theorem dX4_joinLines_1 : decode cX4_joinLines 1 = .ok (.lconst 0, 1) := by decide +kernel
theorem dX4_joinLines_2 : decode cX4_joinLines 2 = .ok (.lcmp, 1) := by decide +kernel
theorem dX4_joinLines_3 : decode cX4_joinLines 3 = .ok (.ifCond .ne 4, 3) := by decide +kernel
theorem dX4_joinLines_6 : decode cX4_joinLines 6 = .ok (.return_, 1) := by decide +kernel
theorem dX4_joinLines_7 : decode cX4_joinLines 7 = .ok (.iconst 0, 1) := by decide +kernel
theorem dX4_joinLines_8 : decode cX4_joinLines 8 = .ok (.istore_n 3, 1) := by decide +kernel
theorem dX4_joinLines_9 : decode cX4_joinLines 9 = .ok (.iload_n 3, 1) := by decide +kernel
theorem dX4_joinLines_10 : decode cX4_joinLines 10 = .ok (.aload_n 0, 1) := by decide +kernel
theorem dX4_joinLines_11 : decode cX4_joinLines 11 = .ok (.getfield 84, 3) := by decide +kernel
theorem dX4_joinLines_14 : decode cX4_joinLines 14 = .ok (.getfield 149, 3) := by decide +kernel
theorem dX4_joinLines_17 : decode cX4_joinLines 17 = .ok (.if_icmp .ge 50, 3) := by decide +kernel
theorem dX4_joinLines_20 : decode cX4_joinLines 20 = .ok (.lload_n 1, 1) := by decide +kernel
theorem dX4_joinLines_21 : decode cX4_joinLines 21 = .ok (.iload_n 3, 1) := by decide +kernel
theorem dX4_joinLines_22 : decode cX4_joinLines 22 = .ok (.invokestatic 152, 3) := by decide +kernel
theorem dX4_joinLines_25 : decode cX4_joinLines 25 = .ok (.ifCond .eq 36, 3) := by decide +kernel
theorem dX4_joinLines_28 : decode cX4_joinLines 28 = .ok (.aload_n 0, 1) := by decide +kernel
theorem dX4_joinLines_29 : decode cX4_joinLines 29 = .ok (.getfield 84, 3) := by decide +kernel
theorem dX4_joinLines_32 : decode cX4_joinLines 32 = .ok (.getfield 213, 3) := by decide +kernel
theorem dX4_joinLines_35 : decode cX4_joinLines 35 = .ok (.iload_n 3, 1) := by decide +kernel
theorem dX4_joinLines_36 : decode cX4_joinLines 36 = .ok (.invokestatic 152, 3) := by decide +kernel
theorem dX4_joinLines_39 : decode cX4_joinLines 39 = .ok (.ifCond .eq 14, 3) := by decide +kernel
theorem dX4_joinLines_42 : decode cX4_joinLines 42 = .ok (.aload_n 0, 1) := by decide +kernel
theorem dX4_joinLines_43 : decode cX4_joinLines 43 = .ok (.getfield 44, 3) := by decide +kernel
theorem dX4_joinLines_46 : decode cX4_joinLines 46 = .ok (.iload_n 3, 1) := by decide +kernel
theorem dX4_joinLines_47 : decode cX4_joinLines 47 = .ok (.invokevirtual 216, 3) := by decide +kernel
theorem dX4_joinLines_50 : decode cX4_joinLines 50 = .ok (.goto 11, 3) := by decide +kernel
theorem dX4_joinLines_53 : decode cX4_joinLines 53 = .ok (.aload_n 0, 1) := by decide +kernel
theorem dX4_joinLines_54 : decode cX4_joinLines 54 = .ok (.getfield 47, 3) := by decide +kernel
theorem dX4_joinLines_57 : decode cX4_joinLines 57 = .ok (.iload_n 3, 1) := by decide +kernel
theorem dX4_joinLines_58 : decode cX4_joinLines 58 = .ok (.invokevirtual 216, 3) := by decide +kernel
theorem dX4_joinLines_61 : decode cX4_joinLines 61 = .ok (.iinc 3 1, 3) := by decide +kernel
theorem dX4_joinLines_64 : decode cX4_joinLines 64 = .ok (.goto (-55), 3) := by decide +kernel
theorem dX4_joinLines_67 : decode cX4_joinLines 67 = .ok (.return_, 1) := by decide +kernel
theorem dX4_isFrozen_0 : decode cX4_isFrozen 0 = .ok (.aload_n 0, 1) := by decide +kernel
theorem dX4_isFrozen_1 : decode cX4_isFrozen 1 = .ok (.getfield 70, 3) := by decide +kernel
theorem dX4_isFrozen_4 : decode cX4_isFrozen 4 = .ok (.ifCond .eq 17, 3) := by decide +kernel
theorem dX4_isFrozen_7 : decode cX4_isFrozen 7 = .ok (.aload_n 0, 1) := by decide +kernel
theorem dX4_isFrozen_8 : decode cX4_isFrozen 8 = .ok (.getfield 74, 3) := by decide +kernel
theorem dX4_isFrozen_11 : decode cX4_isFrozen 11 = .ok (.aload_n 0, 1) := by decide +kernel
theorem dX4_isFrozen_12 : decode cX4_isFrozen 12 = .ok (.getfield 9, 3) := by decide +kernel
theorem dX4_isFrozen_15 : decode cX4_isFrozen 15 = .ok (.iconst 0, 1) := by decide +kernel
theorem dX4_isFrozen_16 : decode cX4_isFrozen 16 = .ok (.iaload, 1) := by decide +kernel
theorem dX4_isFrozen_17 : decode cX4_isFrozen 17 = .ok (.iadd, 1) := by decide +kernel
theorem dX4_isFrozen_18 : decode cX4_isFrozen 18 = .ok (.goto 7, 3) := by decide +kernel
theorem dX4_isFrozen_21 : decode cX4_isFrozen 21 = .ok (.aload_n 0, 1) := by decide +kernel
theorem dX4_isFrozen_22 : decode cX4_isFrozen 22 = .ok (.getfield 74, 3) := by decide +kernel
theorem dX4_isFrozen_25 : decode cX4_isFrozen 25 = .ok (.istore_n 2, 1) := by decide +kernel
theorem dX4_isFrozen_26 : decode cX4_isFrozen 26 = .ok (.iload_n 2, 1) := by decide +kernel
theorem dX4_isFrozen_27 : decode cX4_isFrozen 27 = .ok (.aload_n 0, 1) := by decide +kernel
theorem dX4_isFrozen_28 : decode cX4_isFrozen 28 = .ok (.getfield 9, 3) := by decide +kernel
theorem dX4_isFrozen_31 : decode cX4_isFrozen 31 = .ok (.iconst 1, 1) := by decide +kernel
theorem dX4_isFrozen_32 : decode cX4_isFrozen 32 = .ok (.iaload, 1) := by decide +kernel
theorem dX4_isFrozen_33 : decode cX4_isFrozen 33 = .ok (.isub, 1) := by decide +kernel
theorem dX4_isFrozen_34 : decode cX4_isFrozen 34 = .ok (.iload_n 1, 1) := by decide +kernel
theorem dX4_isFrozen_35 : decode cX4_isFrozen 35 = .ok (.isub, 1) := by decide +kernel
theorem dX4_isFrozen_36 : decode cX4_isFrozen 36 = .ok (.istore_n 3, 1) := by decide +kernel
theorem dX4_isFrozen_37 : decode cX4_isFrozen 37 = .ok (.iload_n 2, 1) := by decide +kernel
theorem dX4_isFrozen_38 : decode cX4_isFrozen 38 = .ok (.sipush 399, 3) := by decide +kernel
theorem dX4_isFrozen_41 : decode cX4_isFrozen 41 = .ok (.if_icmp .gt 21, 3) := by decide +kernel
theorem dX4_isFrozen_44 : decode cX4_isFrozen 44 = .ok (.iload_n 3, 1) := by decide +kernel
theorem dX4_isFrozen_45 : decode cX4_isFrozen 45 = .ok (.ifCond .le 17, 3) := by decide +kernel
theorem dX4_isFrozen_48 : decode cX4_isFrozen 48 = .ok (.iload_n 3, 1) := by decide +kernel
theorem dX4_isFrozen_49 : decode cX4_isFrozen 49 = .ok (.aload_n 0, 1) := by decide +kernel
theorem dX4_isFrozen_50 : decode cX4_isFrozen 50 = .ok (.getfield 9, 3) := by decide +kernel
theorem dX4_isFrozen_53 : decode cX4_isFrozen 53 = .ok (.iconst 4, 1) := by decide +kernel
theorem dX4_isFrozen_54 : decode cX4_isFrozen 54 = .ok (.iaload, 1) := by decide +kernel
theorem dX4_isFrozen_55 : decode cX4_isFrozen 55 = .ok (.if_icmp .gt 7, 3) := by decide +kernel
theorem dX4_isFrozen_58 : decode cX4_isFrozen 58 = .ok (.iconst 1, 1) := by decide +kernel
theorem dX4_isFrozen_59 : decode cX4_isFrozen 59 = .ok (.goto 4, 3) := by decide +kernel
theorem dX4_isFrozen_62 : decode cX4_isFrozen 62 = .ok (.iconst 0, 1) := by decide +kernel
theorem dX4_isFrozen_63 : decode cX4_isFrozen 63 = .ok (.ireturn, 1) := by decide +kernel
set_option maxRecDepth 20000 in
theorem ggX4_mergeLine_X4_quarrellingRegions : GoodIn wsX4_mergeLine wsX4_quarrellingRegions := goodIn_r _ [12, 7, 13, 14, 1, 3, 15, 2, 16, 17, 18, 19, 20, 21, 22, 66, 67, 68, 69, 70, 71, 72, 73, 74, 75, 76, 77, 78, 79, 80, 81, 82, 83, 84, 85, 64, 65, 86, 87, 88, 89, 90, 91, 92, 93, 94, 95, 96, 97] rfl (by decide +kernel)
set_option maxRecDepth 20000 in
theorem gX4_mergeLine_X4_quarrellingRegions : GoodIn wsX4_mergeLine (wsV RX4 222 RX4 yX4_quarrellingRegions wsX4_quarrellingRegions) := goodIn_app (goodIn_r _ [8, 9, 10, 11] rfl (by decide +kernel)) ggX4_mergeLine_X4_quarrellingRegions
set_option maxRecDepth 20000 in
theorem ggX4_mergeLine_X4_sendBack : GoodIn wsX4_mergeLine wsX4_sendBack := goodIn_r _ [26, 13, 14, 1, 27, 28, 29, 30, 11, 31, 32, 33, 34, 35, 36, 37, 38, 66, 67, 68, 69, 70, 71, 72, 73, 74, 75, 76, 77, 78, 79, 80, 81, 82, 83, 84, 85, 64, 65, 98] rfl (by decide +kernel)
set_option maxRecDepth 20000 in
theorem gX4_mergeLine_X4_sendBack : GoodIn wsX4_mergeLine (wsV RX4 226 RX4 yX4_sendBack wsX4_sendBack) := goodIn_app (goodIn_r _ [23, 24, 25, 11] rfl (by decide +kernel)) ggX4_mergeLine_X4_sendBack
set_option maxRecDepth 20000 in
theorem ggX4_mergeLine_X4_mergeOne : GoodIn wsX4_mergeLine wsX4_mergeOne := goodIn_r _ [42, 3, 43, 14, 5, 44, 7, 45, 46, 47, 48, 49, 50, 51, 52, 11, 53, 54, 55, 56, 57, 58, 59, 60, 61, 62, 63, 33, 34, 35, 36, 37, 38, 66, 67, 68, 69, 70, 71, 72, 73, 74, 75, 76, 77, 78, 79, 80, 81, 82, 83, 84, 85, 86, 87, 88, 89, 90, 91, 92, 93, 94, 95, 96, 97, 64, 65, 98] rfl (by decide +kernel)
set_option maxRecDepth 20000 in
theorem gX4_mergeLine_X4_mergeOne : GoodIn wsX4_mergeLine (wsV RX4 229 RX4 yX4_mergeOne wsX4_mergeOne) := goodIn_app (goodIn_r _ [39, 40, 41, 11] rfl (by decide +kernel)) ggX4_mergeLine_X4_mergeOne
theorem dX4_mergeLine_0 : decode cX4_mergeLine 0 = .ok (.iload_n 2, 1) := by decide +kernel
theorem dX4_mergeLine_1 : decode cX4_mergeLine 1 = .ok (.istore 4, 2) := by decide +kernel
theorem dX4_mergeLine_3 : decode cX4_mergeLine 3 = .ok (.iconst 0, 1) := by decide +kernel
theorem dX4_mergeLine_4 : decode cX4_mergeLine 4 = .ok (.istore 5, 2) := by decide +kernel
theorem dX4_mergeLine_6 : decode cX4_mergeLine 6 = .ok (.iconst 0, 1) := by decide +kernel
theorem dX4_mergeLine_7 : decode cX4_mergeLine 7 = .ok (.istore 6, 2) := by decide +kernel
theorem dX4_mergeLine_9 : decode cX4_mergeLine 9 = .ok (.iload 6, 2) := by decide +kernel
theorem dX4_mergeLine_11 : decode cX4_mergeLine 11 = .ok (.aload_n 1, 1) := by decide +kernel
theorem dX4_mergeLine_12 : decode cX4_mergeLine 12 = .ok (.getfield 114, 3) := by decide +kernel
theorem dX4_mergeLine_15 : decode cX4_mergeLine 15 = .ok (.if_icmp .ge 104, 3) := by decide +kernel
theorem dX4_mergeLine_18 : decode cX4_mergeLine 18 = .ok (.aload_n 1, 1) := by decide +kernel
theorem dX4_mergeLine_19 : decode cX4_mergeLine 19 = .ok (.getfield 219, 3) := by decide +kernel
theorem dX4_mergeLine_22 : decode cX4_mergeLine 22 = .ok (.iload 6, 2) := by decide +kernel
theorem dX4_mergeLine_24 : decode cX4_mergeLine 24 = .ok (.iaload, 1) := by decide +kernel
theorem dX4_mergeLine_25 : decode cX4_mergeLine 25 = .ok (.istore 7, 2) := by decide +kernel
theorem dX4_mergeLine_27 : decode cX4_mergeLine 27 = .ok (.iload 4, 2) := by decide +kernel
theorem dX4_mergeLine_29 : decode cX4_mergeLine 29 = .ok (.ifCond .le 27, 3) := by decide +kernel
theorem dX4_mergeLine_32 : decode cX4_mergeLine 32 = .ok (.aload_n 0, 1) := by decide +kernel
theorem dX4_mergeLine_33 : decode cX4_mergeLine 33 = .ok (.getfield 84, 3) := by decide +kernel
theorem dX4_mergeLine_36 : decode cX4_mergeLine 36 = .ok (.getfield 160, 3) := by decide +kernel
theorem dX4_mergeLine_39 : decode cX4_mergeLine 39 = .ok (.iload 7, 2) := by decide +kernel
theorem dX4_mergeLine_41 : decode cX4_mergeLine 41 = .ok (.laload, 1) := by decide +kernel
theorem dX4_mergeLine_42 : decode cX4_mergeLine 42 = .ok (.aload_n 0, 1) := by decide +kernel
theorem dX4_mergeLine_43 : decode cX4_mergeLine 43 = .ok (.getfield 57, 3) := by decide +kernel
theorem dX4_mergeLine_46 : decode cX4_mergeLine 46 = .ok (.ldc2_w 164, 3) := by decide +kernel
theorem dX4_mergeLine_49 : decode cX4_mergeLine 49 = .ok (.lxor, 1) := by decide +kernel
theorem dX4_mergeLine_50 : decode cX4_mergeLine 50 = .ok (.land, 1) := by decide +kernel
theorem dX4_mergeLine_51 : decode cX4_mergeLine 51 = .ok (.lconst 0, 1) := by decide +kernel
theorem dX4_mergeLine_52 : decode cX4_mergeLine 52 = .ok (.lcmp, 1) := by decide +kernel
theorem dX4_mergeLine_53 : decode cX4_mergeLine 53 = .ok (.ifCond .eq 18, 3) := by decide +kernel
theorem dX4_mergeLine_56 : decode cX4_mergeLine 56 = .ok (.aload_n 1, 1) := by decide +kernel
theorem dX4_mergeLine_57 : decode cX4_mergeLine 57 = .ok (.getfield 219, 3) := by decide +kernel
theorem dX4_mergeLine_60 : decode cX4_mergeLine 60 = .ok (.iload 5, 2) := by decide +kernel
theorem dX4_mergeLine_62 : decode cX4_mergeLine 62 = .ok (.iload 7, 2) := by decide +kernel
theorem dX4_mergeLine_64 : decode cX4_mergeLine 64 = .ok (.iastore, 1) := by decide +kernel
theorem dX4_mergeLine_65 : decode cX4_mergeLine 65 = .ok (.iinc 5 1, 3) := by decide +kernel
theorem dX4_mergeLine_68 : decode cX4_mergeLine 68 = .ok (.goto 45, 3) := by decide +kernel
theorem dX4_mergeLine_71 : decode cX4_mergeLine 71 = .ok (.aload_n 0, 1) := by decide +kernel
theorem dX4_mergeLine_72 : decode cX4_mergeLine 72 = .ok (.iload 7, 2) := by decide +kernel
theorem dX4_mergeLine_74 : decode cX4_mergeLine 74 = .ok (.invokevirtual 222, 3) := by decide +kernel
theorem dX4_mergeLine_77 : decode cX4_mergeLine 77 = .ok (.istore 8, 2) := by decide +kernel
theorem dX4_mergeLine_79 : decode cX4_mergeLine 79 = .ok (.iload 8, 2) := by decide +kernel
theorem dX4_mergeLine_81 : decode cX4_mergeLine 81 = .ok (.ifCond .le 22, 3) := by decide +kernel
theorem dX4_mergeLine_84 : decode cX4_mergeLine 84 = .ok (.aload_n 0, 1) := by decide +kernel
theorem dX4_mergeLine_85 : decode cX4_mergeLine 85 = .ok (.iload 7, 2) := by decide +kernel
theorem dX4_mergeLine_87 : decode cX4_mergeLine 87 = .ok (.iload 8, 2) := by decide +kernel
theorem dX4_mergeLine_89 : decode cX4_mergeLine 89 = .ok (.aload_n 0, 1) := by decide +kernel
theorem dX4_mergeLine_90 : decode cX4_mergeLine 90 = .ok (.getfield 9, 3) := by decide +kernel
theorem dX4_mergeLine_93 : decode cX4_mergeLine 93 = .ok (.iconst 5, 1) := by decide +kernel
theorem dX4_mergeLine_94 : decode cX4_mergeLine 94 = .ok (.iaload, 1) := by decide +kernel
theorem dX4_mergeLine_95 : decode cX4_mergeLine 95 = .ok (.imul, 1) := by decide +kernel
theorem dX4_mergeLine_96 : decode cX4_mergeLine 96 = .ok (.iload_n 3, 1) := by decide +kernel
theorem dX4_mergeLine_97 : decode cX4_mergeLine 97 = .ok (.invokevirtual 226, 3) := by decide +kernel
theorem dX4_mergeLine_100 : decode cX4_mergeLine 100 = .ok (.goto 13, 3) := by decide +kernel
theorem dX4_mergeLine_103 : decode cX4_mergeLine 103 = .ok (.aload_n 0, 1) := by decide +kernel
theorem dX4_mergeLine_104 : decode cX4_mergeLine 104 = .ok (.iload 7, 2) := by decide +kernel
theorem dX4_mergeLine_106 : decode cX4_mergeLine 106 = .ok (.iload_n 3, 1) := by decide +kernel
theorem dX4_mergeLine_107 : decode cX4_mergeLine 107 = .ok (.invokevirtual 229, 3) := by decide +kernel
theorem dX4_mergeLine_110 : decode cX4_mergeLine 110 = .ok (.iinc 4 (-1), 3) := by decide +kernel
theorem dX4_mergeLine_113 : decode cX4_mergeLine 113 = .ok (.iinc 6 1, 3) := by decide +kernel
theorem dX4_mergeLine_116 : decode cX4_mergeLine 116 = .ok (.goto (-107), 3) := by decide +kernel
theorem dX4_mergeLine_119 : decode cX4_mergeLine 119 = .ok (.aload_n 1, 1) := by decide +kernel
theorem dX4_mergeLine_120 : decode cX4_mergeLine 120 = .ok (.iload 5, 2) := by decide +kernel
theorem dX4_mergeLine_122 : decode cX4_mergeLine 122 = .ok (.putfield 114, 3) := by decide +kernel
theorem dX4_mergeLine_125 : decode cX4_mergeLine 125 = .ok (.iload 4, 2) := by decide +kernel
theorem dX4_mergeLine_127 : decode cX4_mergeLine 127 = .ok (.ireturn, 1) := by decide +kernel
set_option maxRecDepth 20000 in
theorem ggX4_quarrellingRegions_J6_bitCount_0f7a4 : GoodIn wsX4_quarrellingRegions wsJ6_bitCount_0f7a4 := goodIn_r _ [11, 12, 13, 14] rfl (by decide +kernel)
set_option maxRecDepth 20000 in
theorem gX4_quarrellingRegions_J6_bitCount_0f7a4 : GoodIn wsX4_quarrellingRegions (va_wsS RX4 235 yJ6_bitCount_0f7a4 wsJ6_bitCount_0f7a4) := goodIn_app (goodIn_r _ [8, 9, 10] rfl (by decide +kernel)) ggX4_quarrellingRegions_J6_bitCount_0f7a4
theorem dX4_quarrellingRegions_0 : decode cX4_quarrellingRegions 0 = .ok (.aload_n 0, 1) := by decide +kernel
theorem dX4_quarrellingRegions_1 : decode cX4_quarrellingRegions 1 = .ok (.getfield 9, 3) := by decide +kernel
theorem dX4_quarrellingRegions_4 : decode cX4_quarrellingRegions 4 = .ok (.iconst 5, 1) := by decide +kernel
theorem dX4_quarrellingRegions_5 : decode cX4_quarrellingRegions 5 = .ok (.iaload, 1) := by decide +kernel
theorem dX4_quarrellingRegions_6 : decode cX4_quarrellingRegions 6 = .ok (.ifCond .gt 5, 3) := by decide +kernel
theorem dX4_quarrellingRegions_9 : decode cX4_quarrellingRegions 9 = .ok (.iconst 0, 1) := by decide +kernel
theorem dX4_quarrellingRegions_10 : decode cX4_quarrellingRegions 10 = .ok (.ireturn, 1) := by decide +kernel
theorem dX4_quarrellingRegions_11 : decode cX4_quarrellingRegions 11 = .ok (.iconst 0, 1) := by decide +kernel
theorem dX4_quarrellingRegions_12 : decode cX4_quarrellingRegions 12 = .ok (.istore_n 2, 1) := by decide +kernel
theorem dX4_quarrellingRegions_13 : decode cX4_quarrellingRegions 13 = .ok (.aload_n 0, 1) := by decide +kernel
theorem dX4_quarrellingRegions_14 : decode cX4_quarrellingRegions 14 = .ok (.getfield 21, 3) := by decide +kernel
theorem dX4_quarrellingRegions_17 : decode cX4_quarrellingRegions 17 = .ok (.iload_n 1, 1) := by decide +kernel
theorem dX4_quarrellingRegions_18 : decode cX4_quarrellingRegions 18 = .ok (.iaload, 1) := by decide +kernel
theorem dX4_quarrellingRegions_19 : decode cX4_quarrellingRegions 19 = .ok (.istore_n 3, 1) := by decide +kernel
theorem dX4_quarrellingRegions_20 : decode cX4_quarrellingRegions 20 = .ok (.iload_n 3, 1) := by decide +kernel
theorem dX4_quarrellingRegions_21 : decode cX4_quarrellingRegions 21 = .ok (.aload_n 0, 1) := by decide +kernel
theorem dX4_quarrellingRegions_22 : decode cX4_quarrellingRegions 22 = .ok (.getfield 27, 3) := by decide +kernel
theorem dX4_quarrellingRegions_25 : decode cX4_quarrellingRegions 25 = .ok (.getfield 114, 3) := by decide +kernel
theorem dX4_quarrellingRegions_28 : decode cX4_quarrellingRegions 28 = .ok (.if_icmp .ge 29, 3) := by decide +kernel
theorem dX4_quarrellingRegions_31 : decode cX4_quarrellingRegions 31 = .ok (.iload_n 2, 1) := by decide +kernel
theorem dX4_quarrellingRegions_32 : decode cX4_quarrellingRegions 32 = .ok (.aload_n 0, 1) := by decide +kernel
theorem dX4_quarrellingRegions_33 : decode cX4_quarrellingRegions 33 = .ok (.getfield 84, 3) := by decide +kernel
theorem dX4_quarrellingRegions_36 : decode cX4_quarrellingRegions 36 = .ok (.getfield 232, 3) := by decide +kernel
theorem dX4_quarrellingRegions_39 : decode cX4_quarrellingRegions 39 = .ok (.aload_n 0, 1) := by decide +kernel
theorem dX4_quarrellingRegions_40 : decode cX4_quarrellingRegions 40 = .ok (.getfield 27, 3) := by decide +kernel
theorem dX4_quarrellingRegions_43 : decode cX4_quarrellingRegions 43 = .ok (.getfield 219, 3) := by decide +kernel
theorem dX4_quarrellingRegions_46 : decode cX4_quarrellingRegions 46 = .ok (.iload_n 3, 1) := by decide +kernel
theorem dX4_quarrellingRegions_47 : decode cX4_quarrellingRegions 47 = .ok (.iaload, 1) := by decide +kernel
theorem dX4_quarrellingRegions_48 : decode cX4_quarrellingRegions 48 = .ok (.iaload, 1) := by decide +kernel
theorem dX4_quarrellingRegions_49 : decode cX4_quarrellingRegions 49 = .ok (.ior, 1) := by decide +kernel
theorem dX4_quarrellingRegions_50 : decode cX4_quarrellingRegions 50 = .ok (.istore_n 2, 1) := by decide +kernel
theorem dX4_quarrellingRegions_51 : decode cX4_quarrellingRegions 51 = .ok (.iinc 3 1, 3) := by decide +kernel
theorem dX4_quarrellingRegions_54 : decode cX4_quarrellingRegions 54 = .ok (.goto (-34), 3) := by decide +kernel
theorem dX4_quarrellingRegions_57 : decode cX4_quarrellingRegions 57 = .ok (.iload_n 2, 1) := by decide +kernel
theorem dX4_quarrellingRegions_58 : decode cX4_quarrellingRegions 58 = .ok (.aload_n 0, 1) := by decide +kernel
theorem dX4_quarrellingRegions_59 : decode cX4_quarrellingRegions 59 = .ok (.getfield 84, 3) := by decide +kernel
theorem dX4_quarrellingRegions_62 : decode cX4_quarrellingRegions 62 = .ok (.getfield 232, 3) := by decide +kernel
theorem dX4_quarrellingRegions_65 : decode cX4_quarrellingRegions 65 = .ok (.iload_n 1, 1) := by decide +kernel
theorem dX4_quarrellingRegions_66 : decode cX4_quarrellingRegions 66 = .ok (.iaload, 1) := by decide +kernel
theorem dX4_quarrellingRegions_67 : decode cX4_quarrellingRegions 67 = .ok (.iand, 1) := by decide +kernel
theorem dX4_quarrellingRegions_68 : decode cX4_quarrellingRegions 68 = .ok (.invokestatic 235, 3) := by decide +kernel
theorem dX4_quarrellingRegions_71 : decode cX4_quarrellingRegions 71 = .ok (.ireturn, 1) := by decide +kernel
set_option maxRecDepth 20000 in
theorem ggX4_sendBack_X4_raise : GoodIn wsX4_sendBack wsX4_raise := goodIn_r _ [9, 10, 17, 18, 19, 20, 21, 22, 23, 24, 25, 26, 27, 28, 29, 30, 31, 32, 33, 34, 35, 36] rfl (by decide +kernel)
set_option maxRecDepth 20000 in
theorem gX4_sendBack_X4_raise : GoodIn wsX4_sendBack (wsV RX4 169 RX4 yX4_raise wsX4_raise) := goodIn_app (goodIn_r _ [5, 6, 7, 8] rfl (by decide +kernel)) ggX4_sendBack_X4_raise
set_option maxRecDepth 20000 in
theorem ggX4_sendBack_X0_put : GoodIn wsX4_sendBack wsX0_put := goodIn_r _ [15, 16, 39] rfl (by decide +kernel)
set_option maxRecDepth 20000 in
theorem gX4_sendBack_X0_put : GoodIn wsX4_sendBack (wsV RX4 192 RX0 yX0_put wsX0_put) := goodIn_app (goodIn_r _ [11, 12, 13, 14] rfl (by decide +kernel)) ggX4_sendBack_X0_put
theorem dX4_sendBack_0 : decode cX4_sendBack 0 = .ok (.aload_n 0, 1) := by decide +kernel
theorem dX4_sendBack_1 : decode cX4_sendBack 1 = .ok (.iload_n 1, 1) := by decide +kernel
theorem dX4_sendBack_2 : decode cX4_sendBack 2 = .ok (.iconst 4, 1) := by decide +kernel
theorem dX4_sendBack_3 : decode cX4_sendBack 3 = .ok (.iconst 1, 1) := by decide +kernel
theorem dX4_sendBack_4 : decode cX4_sendBack 4 = .ok (.invokevirtual 169, 3) := by decide +kernel
theorem dX4_sendBack_7 : decode cX4_sendBack 7 = .ok (.aload_n 0, 1) := by decide +kernel
theorem dX4_sendBack_8 : decode cX4_sendBack 8 = .ok (.iload_n 1, 1) := by decide +kernel
theorem dX4_sendBack_9 : decode cX4_sendBack 9 = .ok (.iconst 5, 1) := by decide +kernel
theorem dX4_sendBack_10 : decode cX4_sendBack 10 = .ok (.iload_n 2, 1) := by decide +kernel
theorem dX4_sendBack_11 : decode cX4_sendBack 11 = .ok (.invokevirtual 169, 3) := by decide +kernel
theorem dX4_sendBack_14 : decode cX4_sendBack 14 = .ok (.aload_n 0, 1) := by decide +kernel
theorem dX4_sendBack_15 : decode cX4_sendBack 15 = .ok (.getfield 21, 3) := by decide +kernel
theorem dX4_sendBack_18 : decode cX4_sendBack 18 = .ok (.iload_n 1, 1) := by decide +kernel
theorem dX4_sendBack_19 : decode cX4_sendBack 19 = .ok (.aload_n 0, 1) := by decide +kernel
theorem dX4_sendBack_20 : decode cX4_sendBack 20 = .ok (.getfield 27, 3) := by decide +kernel
theorem dX4_sendBack_23 : decode cX4_sendBack 23 = .ok (.getfield 114, 3) := by decide +kernel
theorem dX4_sendBack_26 : decode cX4_sendBack 26 = .ok (.iastore, 1) := by decide +kernel
theorem dX4_sendBack_27 : decode cX4_sendBack 27 = .ok (.aload_n 0, 1) := by decide +kernel
theorem dX4_sendBack_28 : decode cX4_sendBack 28 = .ok (.getfield 34, 3) := by decide +kernel
theorem dX4_sendBack_31 : decode cX4_sendBack 31 = .ok (.iload_n 3, 1) := by decide +kernel
theorem dX4_sendBack_32 : decode cX4_sendBack 32 = .ok (.iload_n 2, 1) := by decide +kernel
theorem dX4_sendBack_33 : decode cX4_sendBack 33 = .ok (.iadd, 1) := by decide +kernel
theorem dX4_sendBack_34 : decode cX4_sendBack 34 = .ok (.iload_n 1, 1) := by decide +kernel
theorem dX4_sendBack_35 : decode cX4_sendBack 35 = .ok (.invokevirtual 192, 3) := by decide +kernel
theorem dX4_sendBack_38 : decode cX4_sendBack 38 = .ok (.return_, 1) := by decide +kernel
set_option maxRecDepth 20000 in
theorem ggX4_mergeOne_X8_isIn : GoodIn wsX4_mergeOne wsX8_isIn := goodIn_r _ [11] rfl (by decide +kernel)
set_option maxRecDepth 20000 in
theorem gX4_mergeOne_X8_isIn_n152 : GoodIn wsX4_mergeOne (wsX8_isIn) := ggX4_mergeOne_X8_isIn
set_option maxRecDepth 20000 in
theorem ggX4_mergeOne_X4_mark : GoodIn wsX4_mergeOne wsX4_mark := goodIn_r _ [16, 17, 33, 34, 35, 36, 37, 38, 39, 40, 41, 42, 43, 44, 45, 46, 47, 48, 49, 50, 51, 52] rfl (by decide +kernel)
set_option maxRecDepth 20000 in
theorem gX4_mergeOne_X4_mark : GoodIn wsX4_mergeOne (wsV RX4 186 RX4 yX4_mark wsX4_mark) := goodIn_app (goodIn_r _ [12, 13, 14, 15] rfl (by decide +kernel)) ggX4_mergeOne_X4_mark
set_option maxRecDepth 20000 in
theorem ggX4_mergeOne_X2_join : GoodIn wsX4_mergeOne wsX2_join := goodIn_r _ [22, 23, 24, 65, 66] rfl (by decide +kernel)
set_option maxRecDepth 20000 in
theorem gX4_mergeOne_X2_join : GoodIn wsX4_mergeOne (wsV RX4 216 RX2 yX2_join wsX2_join) := goodIn_app (goodIn_r _ [18, 19, 20, 21] rfl (by decide +kernel)) ggX4_mergeOne_X2_join
set_option maxRecDepth 20000 in
theorem ggX4_mergeOne_X8_only : GoodIn wsX4_mergeOne wsX8_only := goodIn_r _ [26] rfl (by decide +kernel)
set_option maxRecDepth 20000 in
theorem gX4_mergeOne_X8_only_n166 : GoodIn wsX4_mergeOne (wsX8_only) := ggX4_mergeOne_X8_only
set_option maxRecDepth 20000 in
theorem ggX4_mergeOne_X0_put : GoodIn wsX4_mergeOne wsX0_put := goodIn_r _ [31, 32, 67] rfl (by decide +kernel)
set_option maxRecDepth 20000 in
theorem gX4_mergeOne_X0_put : GoodIn wsX4_mergeOne (wsV RX4 192 RX0 yX0_put wsX0_put) := goodIn_app (goodIn_r _ [27, 28, 29, 30] rfl (by decide +kernel)) ggX4_mergeOne_X0_put
theorem dX4_mergeOne_0 : decode cX4_mergeOne 0 = .ok (.aload_n 0, 1) := by decide +kernel
theorem dX4_mergeOne_1 : decode cX4_mergeOne 1 = .ok (.getfield 84, 3) := by decide +kernel
