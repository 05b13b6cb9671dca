theorem dX7_init_106 : decode cX7_init 106 = .ok (.aload_n 0, 1) := by decide +kernel
theorem dX7_init_107 : decode cX7_init 107 = .ok (.getfield 13, 3) := by decide +kernel
theorem dX7_init_110 : decode cX7_init 110 = .ok (.bipush 79, 2) := by decide +kernel
theorem dX7_init_112 : decode cX7_init 112 = .ok (.iconst 1, 1) := by decide +kernel
theorem dX7_init_113 : decode cX7_init 113 = .ok (.iastore, 1) := by decide +kernel
theorem dX7_init_114 : decode cX7_init 114 = .ok (.return_, 1) := by decide +kernel
theorem dX7_thrown_0 : decode cX7_thrown 0 = .ok (.aload_n 0, 1) := by decide +kernel
theorem dX7_thrown_1 : decode cX7_thrown 1 = .ok (.getfield 41, 3) := by decide +kernel
theorem dX7_thrown_4 : decode cX7_thrown 4 = .ok (.ireturn, 1) := by decide +kernel
theorem dX7_refused_0 : decode cX7_refused 0 = .ok (.aload_n 0, 1) := by decide +kernel
theorem dX7_refused_1 : decode cX7_refused 1 = .ok (.iload_n 1, 1) := by decide +kernel
theorem dX7_refused_2 : decode cX7_refused 2 = .ok (.putfield 41, 3) := by decide +kernel
theorem dX7_refused_5 : decode cX7_refused 5 = .ok (.iload_n 1, 1) := by decide +kernel
theorem dX7_refused_6 : decode cX7_refused 6 = .ok (.ifCond .le 7, 3) := by decide +kernel
theorem dX7_refused_9 : decode cX7_refused 9 = .ok (.iconst 1, 1) := by decide +kernel
theorem dX7_refused_10 : decode cX7_refused 10 = .ok (.goto 4, 3) := by decide +kernel
theorem dX7_refused_13 : decode cX7_refused 13 = .ok (.iconst 0, 1) := by decide +kernel
theorem dX7_refused_14 : decode cX7_refused 14 = .ok (.ireturn, 1) := by decide +kernel
theorem dX7_in_0 : decode cX7_in 0 = .ok (.lload_n 0, 1) := by decide +kernel
theorem dX7_in_1 : decode cX7_in 1 = .ok (.lload_n 2, 1) := by decide +kernel
theorem dX7_in_2 : decode cX7_in 2 = .ok (.lcmp, 1) := by decide +kernel
theorem dX7_in_3 : decode cX7_in 3 = .ok (.ifCond .lt 14, 3) := by decide +kernel
theorem dX7_in_6 : decode cX7_in 6 = .ok (.lload_n 0, 1) := by decide +kernel
theorem dX7_in_7 : decode cX7_in 7 = .ok (.lload 4, 2) := by decide +kernel
theorem dX7_in_9 : decode cX7_in 9 = .ok (.lcmp, 1) := by decide +kernel
theorem dX7_in_10 : decode cX7_in 10 = .ok (.ifCond .gt 7, 3) := by decide +kernel
theorem dX7_in_13 : decode cX7_in 13 = .ok (.iconst 1, 1) := by decide +kernel
theorem dX7_in_14 : decode cX7_in 14 = .ok (.goto 4, 3) := by decide +kernel
theorem dX7_in_17 : decode cX7_in 17 = .ok (.iconst 0, 1) := by decide +kernel
theorem dX7_in_18 : decode cX7_in 18 = .ok (.ireturn, 1) := by decide +kernel
theorem dX7_size_0 : decode cX7_size 0 = .ok (.iload_n 0, 1) := by decide +kernel
theorem dX7_size_1 : decode cX7_size 1 = .ok (.ifCond .ge 8, 3) := by decide +kernel
theorem dX7_size_4 : decode cX7_size 4 = .ok (.iload_n 0, 1) := by decide +kernel
theorem dX7_size_5 : decode cX7_size 5 = .ok (.ineg, 1) := by decide +kernel
theorem dX7_size_6 : decode cX7_size 6 = .ok (.goto 4, 3) := by decide +kernel
theorem dX7_size_9 : decode cX7_size 9 = .ok (.iload_n 0, 1) := by decide +kernel
theorem dX7_size_10 : decode cX7_size 10 = .ok (.ireturn, 1) := by decide +kernel
theorem dX7_copyState_0 : decode cX7_copyState 0 = .ok (.iconst 0, 1) := by decide +kernel
theorem dX7_copyState_1 : decode cX7_copyState 1 = .ok (.istore 4, 2) := by decide +kernel
theorem dX7_copyState_3 : decode cX7_copyState 3 = .ok (.iload 4, 2) := by decide +kernel
theorem dX7_copyState_5 : decode cX7_copyState 5 = .ok (.sipush 1343, 3) := by decide +kernel
theorem dX7_copyState_8 : decode cX7_copyState 8 = .ok (.if_icmp .ge 21, 3) := by decide +kernel
theorem dX7_copyState_11 : decode cX7_copyState 11 = .ok (.aload_n 2, 1) := by decide +kernel
theorem dX7_copyState_12 : decode cX7_copyState 12 = .ok (.iload_n 3, 1) := by decide +kernel
theorem dX7_copyState_13 : decode cX7_copyState 13 = .ok (.iload 4, 2) := by decide +kernel
theorem dX7_copyState_15 : decode cX7_copyState 15 = .ok (.iadd, 1) := by decide +kernel
theorem dX7_copyState_16 : decode cX7_copyState 16 = .ok (.aload_n 0, 1) := by decide +kernel
theorem dX7_copyState_17 : decode cX7_copyState 17 = .ok (.iload_n 1, 1) := by decide +kernel
theorem dX7_copyState_18 : decode cX7_copyState 18 = .ok (.iload 4, 2) := by decide +kernel
theorem dX7_copyState_20 : decode cX7_copyState 20 = .ok (.iadd, 1) := by decide +kernel
theorem dX7_copyState_21 : decode cX7_copyState 21 = .ok (.iaload, 1) := by decide +kernel
theorem dX7_copyState_22 : decode cX7_copyState 22 = .ok (.iastore, 1) := by decide +kernel
theorem dX7_copyState_23 : decode cX7_copyState 23 = .ok (.iinc 4 1, 3) := by decide +kernel
theorem dX7_copyState_26 : decode cX7_copyState 26 = .ok (.goto (-23), 3) := by decide +kernel
theorem dX7_copyState_29 : decode cX7_copyState 29 = .ok (.return_, 1) := by decide +kernel
theorem dX7_at_0 : decode cX7_at 0 = .ok (.bipush 111, 2) := by decide +kernel
theorem dX7_at_2 : decode cX7_at 2 = .ok (.bipush 77, 2) := by decide +kernel
theorem dX7_at_4 : decode cX7_at 4 = .ok (.iload_n 0, 1) := by decide +kernel
theorem dX7_at_5 : decode cX7_at 5 = .ok (.imul, 1) := by decide +kernel
theorem dX7_at_6 : decode cX7_at 6 = .ok (.iadd, 1) := by decide +kernel
theorem dX7_at_7 : decode cX7_at 7 = .ok (.ireturn, 1) := by decide +kernel
set_option maxRecDepth 20000 in
theorem ggX7_isSample_X7_in : GoodIn wsX7_isSample wsX7_in := goodIn_r _ [4] (by decide +kernel) (by decide +kernel)
set_option maxRecDepth 20000 in
theorem gX7_isSample_X7_in : GoodIn wsX7_isSample (va_wsS RX7 45 yX7_in wsX7_in) := goodIn_app (goodIn_of _ (by decide +kernel)) ggX7_isSample_X7_in
theorem dX7_isSample_0 : decode cX7_isSample 0 = .ok (.iload_n 1, 1) := by decide +kernel
theorem dX7_isSample_1 : decode cX7_isSample 1 = .ok (.i2l, 1) := by decide +kernel
theorem dX7_isSample_2 : decode cX7_isSample 2 = .ok (.lconst 0, 1) := by decide +kernel
theorem dX7_isSample_3 : decode cX7_isSample 3 = .ok (.aload_n 0, 1) := by decide +kernel
theorem dX7_isSample_4 : decode cX7_isSample 4 = .ok (.bipush 110, 2) := by decide +kernel
theorem dX7_isSample_6 : decode cX7_isSample 6 = .ok (.iaload, 1) := by decide +kernel
theorem dX7_isSample_7 : decode cX7_isSample 7 = .ok (.iconst 1, 1) := by decide +kernel
theorem dX7_isSample_8 : decode cX7_isSample 8 = .ok (.isub, 1) := by decide +kernel
theorem dX7_isSample_9 : decode cX7_isSample 9 = .ok (.i2l, 1) := by decide +kernel
theorem dX7_isSample_10 : decode cX7_isSample 10 = .ok (.invokestatic 45, 3) := by decide +kernel
theorem dX7_isSample_13 : decode cX7_isSample 13 = .ok (.ireturn, 1) := by decide +kernel
theorem dX7_pointsOf_0 : decode cX7_pointsOf 0 = .ok (.aload_n 0, 1) := by decide +kernel
theorem dX7_pointsOf_1 : decode cX7_pointsOf 1 = .ok (.iload_n 1, 1) := by decide +kernel
theorem dX7_pointsOf_2 : decode cX7_pointsOf 2 = .ok (.iconst 1, 1) := by decide +kernel
theorem dX7_pointsOf_3 : decode cX7_pointsOf 3 = .ok (.iadd, 1) := by decide +kernel
theorem dX7_pointsOf_4 : decode cX7_pointsOf 4 = .ok (.iaload, 1) := by decide +kernel
theorem dX7_pointsOf_5 : decode cX7_pointsOf 5 = .ok (.aload_n 0, 1) := by decide +kernel
theorem dX7_pointsOf_6 : decode cX7_pointsOf 6 = .ok (.iload_n 1, 1) := by decide +kernel
theorem dX7_pointsOf_7 : decode cX7_pointsOf 7 = .ok (.iconst 1, 1) := by decide +kernel
theorem dX7_pointsOf_8 : decode cX7_pointsOf 8 = .ok (.iadd, 1) := by decide +kernel
theorem dX7_pointsOf_9 : decode cX7_pointsOf 9 = .ok (.iconst 1, 1) := by decide +kernel
theorem dX7_pointsOf_10 : decode cX7_pointsOf 10 = .ok (.iadd, 1) := by decide +kernel
theorem dX7_pointsOf_11 : decode cX7_pointsOf 11 = .ok (.iaload, 1) := by decide +kernel
theorem dX7_pointsOf_12 : decode cX7_pointsOf 12 = .ok (.iadd, 1) := by decide +kernel
theorem dX7_pointsOf_13 : decode cX7_pointsOf 13 = .ok (.aload_n 0, 1) := by decide +kernel
theorem dX7_pointsOf_14 : decode cX7_pointsOf 14 = .ok (.iload_n 1, 1) := by decide +kernel
theorem dX7_pointsOf_15 : decode cX7_pointsOf 15 = .ok (.iconst 1, 1) := by decide +kernel
theorem dX7_pointsOf_16 : decode cX7_pointsOf 16 = .ok (.iadd, 1) := by decide +kernel
theorem dX7_pointsOf_17 : decode cX7_pointsOf 17 = .ok (.iconst 2, 1) := by decide +kernel
theorem dX7_pointsOf_18 : decode cX7_pointsOf 18 = .ok (.iadd, 1) := by decide +kernel
theorem dX7_pointsOf_19 : decode cX7_pointsOf 19 = .ok (.iaload, 1) := by decide +kernel
theorem dX7_pointsOf_20 : decode cX7_pointsOf 20 = .ok (.iadd, 1) := by decide +kernel
theorem dX7_pointsOf_21 : decode cX7_pointsOf 21 = .ok (.ireturn, 1) := by decide +kernel
theorem dX7_clearFigure_0 : decode cX7_clearFigure 0 = .ok (.iconst 0, 1) := by decide +kernel
theorem dX7_clearFigure_1 : decode cX7_clearFigure 1 = .ok (.istore_n 2, 1) := by decide +kernel
theorem dX7_clearFigure_2 : decode cX7_clearFigure 2 = .ok (.iload_n 2, 1) := by decide +kernel
theorem dX7_clearFigure_3 : decode cX7_clearFigure 3 = .ok (.bipush 76, 2) := by decide +kernel
theorem dX7_clearFigure_5 : decode cX7_clearFigure 5 = .ok (.if_icmp .ge 15, 3) := by decide +kernel
theorem dX7_clearFigure_8 : decode cX7_clearFigure 8 = .ok (.aload_n 0, 1) := by decide +kernel
theorem dX7_clearFigure_9 : decode cX7_clearFigure 9 = .ok (.iload_n 1, 1) := by decide +kernel
theorem dX7_clearFigure_10 : decode cX7_clearFigure 10 = .ok (.iload_n 2, 1) := by decide +kernel
theorem dX7_clearFigure_11 : decode cX7_clearFigure 11 = .ok (.iadd, 1) := by decide +kernel
theorem dX7_clearFigure_12 : decode cX7_clearFigure 12 = .ok (.iconst 0, 1) := by decide +kernel
theorem dX7_clearFigure_13 : decode cX7_clearFigure 13 = .ok (.iastore, 1) := by decide +kernel
theorem dX7_clearFigure_14 : decode cX7_clearFigure 14 = .ok (.iinc 2 1, 3) := by decide +kernel
theorem dX7_clearFigure_17 : decode cX7_clearFigure 17 = .ok (.goto (-15), 3) := by decide +kernel
theorem dX7_clearFigure_20 : decode cX7_clearFigure 20 = .ok (.return_, 1) := by decide +kernel
theorem dX7_next_0 : decode cX7_next 0 = .ok (.iload_n 1, 1) := by decide +kernel
theorem dX7_next_1 : decode cX7_next 1 = .ok (.bipush 39, 2) := by decide +kernel
theorem dX7_next_3 : decode cX7_next 3 = .ok (.if_icmp .le 6, 3) := by decide +kernel
theorem dX7_next_6 : decode cX7_next 6 = .ok (.bipush 41, 2) := by decide +kernel
theorem dX7_next_8 : decode cX7_next 8 = .ok (.ireturn, 1) := by decide +kernel
theorem dX7_next_9 : decode cX7_next 9 = .ok (.aload_n 0, 1) := by decide +kernel
theorem dX7_next_10 : decode cX7_next 10 = .ok (.iload_n 1, 1) := by decide +kernel
theorem dX7_next_11 : decode cX7_next 11 = .ok (.iload_n 2, 1) := by decide +kernel
theorem dX7_next_12 : decode cX7_next 12 = .ok (.iastore, 1) := by decide +kernel
theorem dX7_next_13 : decode cX7_next 13 = .ok (.iload_n 1, 1) := by decide +kernel
theorem dX7_next_14 : decode cX7_next 14 = .ok (.iconst 1, 1) := by decide +kernel
theorem dX7_next_15 : decode cX7_next 15 = .ok (.iadd, 1) := by decide +kernel
theorem dX7_next_16 : decode cX7_next 16 = .ok (.ireturn, 1) := by decide +kernel
theorem dX7_ahead_0 : decode cX7_ahead 0 = .ok (.iload_n 1, 1) := by decide +kernel
theorem dX7_ahead_1 : decode cX7_ahead 1 = .ok (.iload_n 0, 1) := by decide +kernel
theorem dX7_ahead_2 : decode cX7_ahead 2 = .ok (.if_icmp .le 17, 3) := by decide +kernel
theorem dX7_ahead_5 : decode cX7_ahead 5 = .ok (.iload_n 0, 1) := by decide +kernel
theorem dX7_ahead_6 : decode cX7_ahead 6 = .ok (.iload_n 2, 1) := by decide +kernel
theorem dX7_ahead_7 : decode cX7_ahead 7 = .ok (.idiv, 1) := by decide +kernel
theorem dX7_ahead_8 : decode cX7_ahead 8 = .ok (.iconst 1, 1) := by decide +kernel
theorem dX7_ahead_9 : decode cX7_ahead 9 = .ok (.iadd, 1) := by decide +kernel
theorem dX7_ahead_10 : decode cX7_ahead 10 = .ok (.iload_n 3, 1) := by decide +kernel
theorem dX7_ahead_11 : decode cX7_ahead 11 = .ok (.iadd, 1) := by decide +kernel
theorem dX7_ahead_12 : decode cX7_ahead 12 = .ok (.iload_n 2, 1) := by decide +kernel
theorem dX7_ahead_13 : decode cX7_ahead 13 = .ok (.imul, 1) := by decide +kernel
theorem dX7_ahead_14 : decode cX7_ahead 14 = .ok (.iload_n 0, 1) := by decide +kernel
theorem dX7_ahead_15 : decode cX7_ahead 15 = .ok (.isub, 1) := by decide +kernel
theorem dX7_ahead_16 : decode cX7_ahead 16 = .ok (.goto 12, 3) := by decide +kernel
theorem dX7_ahead_19 : decode cX7_ahead 19 = .ok (.iload_n 0, 1) := by decide +kernel
theorem dX7_ahead_20 : decode cX7_ahead 20 = .ok (.iload_n 0, 1) := by decide +kernel
theorem dX7_ahead_21 : decode cX7_ahead 21 = .ok (.iload_n 2, 1) := by decide +kernel
theorem dX7_ahead_22 : decode cX7_ahead 22 = .ok (.idiv, 1) := by decide +kernel
theorem dX7_ahead_23 : decode cX7_ahead 23 = .ok (.iload_n 3, 1) := by decide +kernel
theorem dX7_ahead_24 : decode cX7_ahead 24 = .ok (.isub, 1) := by decide +kernel
theorem dX7_ahead_25 : decode cX7_ahead 25 = .ok (.iload_n 2, 1) := by decide +kernel
theorem dX7_ahead_26 : decode cX7_ahead 26 = .ok (.imul, 1) := by decide +kernel
theorem dX7_ahead_27 : decode cX7_ahead 27 = .ok (.isub, 1) := by decide +kernel
theorem dX7_ahead_28 : decode cX7_ahead 28 = .ok (.ireturn, 1) := by decide +kernel
set_option maxRecDepth 20000 in
theorem ggX7_cross_X7_size : GoodIn wsX7_cross wsX7_size := goodIn_r _ [4] (by decide +kernel) (by decide +kernel)
set_option maxRecDepth 20000 in
theorem gX7_cross_X7_size : GoodIn wsX7_cross (va_wsS RX7 49 yX7_size wsX7_size) := goodIn_app (goodIn_of _ (by decide +kernel)) ggX7_cross_X7_size
set_option maxRecDepth 20000 in
theorem ggX7_cross_X7_ahead : GoodIn wsX7_cross wsX7_ahead := goodIn_r _ [7] (by decide +kernel) (by decide +kernel)
set_option maxRecDepth 20000 in
theorem gX7_cross_X7_ahead : GoodIn wsX7_cross (va_wsS RX7 53 yX7_ahead wsX7_ahead) := goodIn_app (goodIn_of _ (by decide +kernel)) ggX7_cross_X7_ahead
set_option maxRecDepth 20000 in
theorem ggX7_cross_X7_next : GoodIn wsX7_cross wsX7_next := goodIn_r _ [10] (by decide +kernel) (by decide +kernel)
set_option maxRecDepth 20000 in
theorem gX7_cross_X7_next : GoodIn wsX7_cross (va_wsS RX7 57 yX7_next wsX7_next) := goodIn_app (goodIn_of _ (by decide +kernel)) ggX7_cross_X7_next
theorem dX7_cross_0 : decode cX7_cross 0 = .ok (.iload 4, 2) := by decide +kernel
theorem dX7_cross_2 : decode cX7_cross 2 = .ok (.iload 6, 2) := by decide +kernel
theorem dX7_cross_4 : decode cX7_cross 4 = .ok (.idiv, 1) := by decide +kernel
theorem dX7_cross_5 : decode cX7_cross 5 = .ok (.iload_n 2, 1) := by decide +kernel
theorem dX7_cross_6 : decode cX7_cross 6 = .ok (.iload 6, 2) := by decide +kernel
theorem dX7_cross_8 : decode cX7_cross 8 = .ok (.idiv, 1) := by decide +kernel
theorem dX7_cross_9 : decode cX7_cross 9 = .ok (.isub, 1) := by decide +kernel
theorem dX7_cross_10 : decode cX7_cross 10 = .ok (.invokestatic 49, 3) := by decide +kernel
theorem dX7_cross_13 : decode cX7_cross 13 = .ok (.istore 7, 2) := by decide +kernel
theorem dX7_cross_15 : decode cX7_cross 15 = .ok (.iload 5, 2) := by decide +kernel
theorem dX7_cross_17 : decode cX7_cross 17 = .ok (.iload 6, 2) := by decide +kernel
theorem dX7_cross_19 : decode cX7_cross 19 = .ok (.idiv, 1) := by decide +kernel
theorem dX7_cross_20 : decode cX7_cross 20 = .ok (.iload_n 3, 1) := by decide +kernel
theorem dX7_cross_21 : decode cX7_cross 21 = .ok (.iload 6, 2) := by decide +kernel
theorem dX7_cross_23 : decode cX7_cross 23 = .ok (.idiv, 1) := by decide +kernel
theorem dX7_cross_24 : decode cX7_cross 24 = .ok (.isub, 1) := by decide +kernel
theorem dX7_cross_25 : decode cX7_cross 25 = .ok (.invokestatic 49, 3) := by decide +kernel
theorem dX7_cross_28 : decode cX7_cross 28 = .ok (.istore 8, 2) := by decide +kernel
theorem dX7_cross_30 : decode cX7_cross 30 = .ok (.iconst 0, 1) := by decide +kernel
theorem dX7_cross_31 : decode cX7_cross 31 = .ok (.istore 9, 2) := by decide +kernel
theorem dX7_cross_33 : decode cX7_cross 33 = .ok (.iconst 0, 1) := by decide +kernel
theorem dX7_cross_34 : decode cX7_cross 34 = .ok (.istore 10, 2) := by decide +kernel
theorem dX7_cross_36 : decode cX7_cross 36 = .ok (.iload_n 1, 1) := by decide +kernel
theorem dX7_cross_37 : decode cX7_cross 37 = .ok (.istore 11, 2) := by decide +kernel
theorem dX7_cross_39 : decode cX7_cross 39 = .ok (.iload 9, 2) := by decide +kernel
theorem dX7_cross_41 : decode cX7_cross 41 = .ok (.iload 7, 2) := by decide +kernel
theorem dX7_cross_43 : decode cX7_cross 43 = .ok (.if_icmp .lt 10, 3) := by decide +kernel
theorem dX7_cross_46 : decode cX7_cross 46 = .ok (.iload 10, 2) := by decide +kernel
theorem dX7_cross_48 : decode cX7_cross 48 = .ok (.iload 8, 2) := by decide +kernel
theorem dX7_cross_50 : decode cX7_cross 50 = .ok (.if_icmp .ge 137, 3) := by decide +kernel
theorem dX7_cross_53 : decode cX7_cross 53 = .ok (.iload 11, 2) := by decide +kernel
theorem dX7_cross_55 : decode cX7_cross 55 = .ok (.bipush 40, 2) := by decide +kernel
theorem dX7_cross_57 : decode cX7_cross 57 = .ok (.if_icmp .gt 130, 3) := by decide +kernel
theorem dX7_cross_60 : decode cX7_cross 60 = .ok (.iload 9, 2) := by decide +kernel
theorem dX7_cross_62 : decode cX7_cross 62 = .ok (.iload 7, 2) := by decide +kernel
theorem dX7_cross_64 : decode cX7_cross 64 = .ok (.if_icmp .ge 7, 3) := by decide +kernel
theorem dX7_cross_67 : decode cX7_cross 67 = .ok (.iconst 1, 1) := by decide +kernel
theorem dX7_cross_68 : decode cX7_cross 68 = .ok (.goto 4, 3) := by decide +kernel
theorem dX7_cross_71 : decode cX7_cross 71 = .ok (.iconst 0, 1) := by decide +kernel
theorem dX7_cross_72 : decode cX7_cross 72 = .ok (.istore 12, 2) := by decide +kernel
theorem dX7_cross_74 : decode cX7_cross 74 = .ok (.iload 12, 2) := by decide +kernel
theorem dX7_cross_76 : decode cX7_cross 76 = .ok (.ifCond .eq 56, 3) := by decide +kernel
theorem dX7_cross_79 : decode cX7_cross 79 = .ok (.iload 10, 2) := by decide +kernel
theorem dX7_cross_81 : decode cX7_cross 81 = .ok (.iload 8, 2) := by decide +kernel
theorem dX7_cross_83 : decode cX7_cross 83 = .ok (.if_icmp .ge 49, 3) := by decide +kernel
theorem dX7_cross_86 : decode cX7_cross 86 = .ok (.iload_n 2, 1) := by decide +kernel
theorem dX7_cross_87 : decode cX7_cross 87 = .ok (.iload 4, 2) := by decide +kernel
theorem dX7_cross_89 : decode cX7_cross 89 = .ok (.iload 6, 2) := by decide +kernel
theorem dX7_cross_91 : decode cX7_cross 91 = .ok (.iload 9, 2) := by decide +kernel
theorem dX7_cross_93 : decode cX7_cross 93 = .ok (.invokestatic 53, 3) := by decide +kernel
theorem dX7_cross_96 : decode cX7_cross 96 = .ok (.iload 5, 2) := by decide +kernel
theorem dX7_cross_98 : decode cX7_cross 98 = .ok (.iload_n 3, 1) := by decide +kernel
theorem dX7_cross_99 : decode cX7_cross 99 = .ok (.isub, 1) := by decide +kernel
theorem dX7_cross_100 : decode cX7_cross 100 = .ok (.invokestatic 49, 3) := by decide +kernel
theorem dX7_cross_103 : decode cX7_cross 103 = .ok (.imul, 1) := by decide +kernel
theorem dX7_cross_104 : decode cX7_cross 104 = .ok (.iload_n 3, 1) := by decide +kernel
theorem dX7_cross_105 : decode cX7_cross 105 = .ok (.iload 5, 2) := by decide +kernel
theorem dX7_cross_107 : decode cX7_cross 107 = .ok (.iload 6, 2) := by decide +kernel
theorem dX7_cross_109 : decode cX7_cross 109 = .ok (.iload 10, 2) := by decide +kernel
theorem dX7_cross_111 : decode cX7_cross 111 = .ok (.invokestatic 53, 3) := by decide +kernel
theorem dX7_cross_114 : decode cX7_cross 114 = .ok (.iload 4, 2) := by decide +kernel
theorem dX7_cross_116 : decode cX7_cross 116 = .ok (.iload_n 2, 1) := by decide +kernel
theorem dX7_cross_117 : decode cX7_cross 117 = .ok (.isub, 1) := by decide +kernel
theorem dX7_cross_118 : decode cX7_cross 118 = .ok (.invokestatic 49, 3) := by decide +kernel
theorem dX7_cross_121 : decode cX7_cross 121 = .ok (.imul, 1) := by decide +kernel
theorem dX7_cross_122 : decode cX7_cross 122 = .ok (.if_icmp .gt 7, 3) := by decide +kernel
theorem dX7_cross_125 : decode cX7_cross 125 = .ok (.iconst 1, 1) := by decide +kernel
theorem dX7_cross_126 : decode cX7_cross 126 = .ok (.goto 4, 3) := by decide +kernel
theorem dX7_cross_129 : decode cX7_cross 129 = .ok (.iconst 0, 1) := by decide +kernel
theorem dX7_cross_130 : decode cX7_cross 130 = .ok (.istore 12, 2) := by decide +kernel
theorem dX7_cross_132 : decode cX7_cross 132 = .ok (.iload 12, 2) := by decide +kernel
theorem dX7_cross_134 : decode cX7_cross 134 = .ok (.ifCond .eq 28, 3) := by decide +kernel
theorem dX7_cross_137 : decode cX7_cross 137 = .ok (.aload_n 0, 1) := by decide +kernel
theorem dX7_cross_138 : decode cX7_cross 138 = .ok (.iload 11, 2) := by decide +kernel
theorem dX7_cross_140 : decode cX7_cross 140 = .ok (.iload 4, 2) := by decide +kernel
theorem dX7_cross_142 : decode cX7_cross 142 = .ok (.iload_n 2, 1) := by decide +kernel
theorem dX7_cross_143 : decode cX7_cross 143 = .ok (.if_icmp .le 7, 3) := by decide +kernel
theorem dX7_cross_146 : decode cX7_cross 146 = .ok (.iconst 0, 1) := by decide +kernel
theorem dX7_cross_147 : decode cX7_cross 147 = .ok (.goto 4, 3) := by decide +kernel
theorem dX7_cross_150 : decode cX7_cross 150 = .ok (.iconst 2, 1) := by decide +kernel
theorem dX7_cross_151 : decode cX7_cross 151 = .ok (.invokestatic 57, 3) := by decide +kernel
theorem dX7_cross_154 : decode cX7_cross 154 = .ok (.istore 11, 2) := by decide +kernel
theorem dX7_cross_156 : decode cX7_cross 156 = .ok (.iinc 9 1, 3) := by decide +kernel
theorem dX7_cross_159 : decode cX7_cross 159 = .ok (.goto 25, 3) := by decide +kernel
theorem dX7_cross_162 : decode cX7_cross 162 = .ok (.aload_n 0, 1) := by decide +kernel
theorem dX7_cross_163 : decode cX7_cross 163 = .ok (.iload 11, 2) := by decide +kernel
theorem dX7_cross_165 : decode cX7_cross 165 = .ok (.iload 5, 2) := by decide +kernel
theorem dX7_cross_167 : decode cX7_cross 167 = .ok (.iload_n 3, 1) := by decide +kernel
theorem dX7_cross_168 : decode cX7_cross 168 = .ok (.if_icmp .le 7, 3) := by decide +kernel
theorem dX7_cross_171 : decode cX7_cross 171 = .ok (.iconst 1, 1) := by decide +kernel
theorem dX7_cross_172 : decode cX7_cross 172 = .ok (.goto 4, 3) := by decide +kernel
theorem dX7_cross_175 : decode cX7_cross 175 = .ok (.iconst 3, 1) := by decide +kernel
theorem dX7_cross_176 : decode cX7_cross 176 = .ok (.invokestatic 57, 3) := by decide +kernel
theorem dX7_cross_179 : decode cX7_cross 179 = .ok (.istore 11, 2) := by decide +kernel
theorem dX7_cross_181 : decode cX7_cross 181 = .ok (.iinc 10 1, 3) := by decide +kernel
theorem dX7_cross_184 : decode cX7_cross 184 = .ok (.goto (-145), 3) := by decide +kernel
theorem dX7_cross_187 : decode cX7_cross 187 = .ok (.iload 11, 2) := by decide +kernel
theorem dX7_cross_189 : decode cX7_cross 189 = .ok (.ireturn, 1) := by decide +kernel
set_option maxRecDepth 20000 in
theorem ggX7_signature_X7_next : GoodIn wsX7_signature wsX7_next := goodIn_r _ [4] (by decide +kernel) (by decide +kernel)
set_option maxRecDepth 20000 in
theorem gX7_signature_X7_next : GoodIn wsX7_signature (va_wsS RX7 57 yX7_next wsX7_next) := goodIn_app (goodIn_of _ (by decide +kernel)) ggX7_signature_X7_next
set_option maxRecDepth 20000 in
theorem ggX7_signature_X7_cross : GoodIn wsX7_signature wsX7_cross := goodIn_r _ [7, 8, 9, 3, 10, 11, 12, 13, 1, 2, 4] (by decide +kernel) (by decide +kernel)
set_option maxRecDepth 20000 in
theorem gX7_signature_X7_cross : GoodIn wsX7_signature (va_wsS RX7 61 yX7_cross wsX7_cross) := goodIn_app (goodIn_of _ (by decide +kernel)) ggX7_signature_X7_cross
theorem dX7_signature_0 : decode cX7_signature 0 = .ok (.iconst 0, 1) := by decide +kernel
theorem dX7_signature_1 : decode cX7_signature 1 = .ok (.istore 4, 2) := by decide +kernel
theorem dX7_signature_3 : decode cX7_signature 3 = .ok (.iconst 0, 1) := by decide +kernel
theorem dX7_signature_4 : decode cX7_signature 4 = .ok (.istore 5, 2) := by decide +kernel
theorem dX7_signature_6 : decode cX7_signature 6 = .ok (.iload 5, 2) := by decide +kernel
theorem dX7_signature_8 : decode cX7_signature 8 = .ok (.aload_n 0, 1) := by decide +kernel
theorem dX7_signature_9 : decode cX7_signature 9 = .ok (.iload_n 1, 1) := by decide +kernel
theorem dX7_signature_10 : decode cX7_signature 10 = .ok (.iaload, 1) := by decide +kernel
theorem dX7_signature_11 : decode cX7_signature 11 = .ok (.if_icmp .ge 97, 3) := by decide +kernel
theorem dX7_signature_14 : decode cX7_signature 14 = .ok (.iload 5, 2) := by decide +kernel
theorem dX7_signature_16 : decode cX7_signature 16 = .ok (.ifCond .le 13, 3) := by decide +kernel
theorem dX7_signature_19 : decode cX7_signature 19 = .ok (.aload_n 3, 1) := by decide +kernel
theorem dX7_signature_20 : decode cX7_signature 20 = .ok (.iload 4, 2) := by decide +kernel
theorem dX7_signature_22 : decode cX7_signature 22 = .ok (.iconst 4, 1) := by decide +kernel
theorem dX7_signature_23 : decode cX7_signature 23 = .ok (.invokestatic 57, 3) := by decide +kernel
theorem dX7_signature_26 : decode cX7_signature 26 = .ok (.goto 5, 3) := by decide +kernel
theorem dX7_signature_29 : decode cX7_signature 29 = .ok (.iload 4, 2) := by decide +kernel
theorem dX7_signature_31 : decode cX7_signature 31 = .ok (.istore 4, 2) := by decide +kernel
theorem dX7_signature_33 : decode cX7_signature 33 = .ok (.iconst 1, 1) := by decide +kernel
theorem dX7_signature_34 : decode cX7_signature 34 = .ok (.istore 6, 2) := by decide +kernel
theorem dX7_signature_36 : decode cX7_signature 36 = .ok (.iload 6, 2) := by decide +kernel
theorem dX7_signature_38 : decode cX7_signature 38 = .ok (.aload_n 0, 1) := by decide +kernel
theorem dX7_signature_39 : decode cX7_signature 39 = .ok (.iload_n 1, 1) := by decide +kernel
theorem dX7_signature_40 : decode cX7_signature 40 = .ok (.iconst 1, 1) := by decide +kernel
theorem dX7_signature_41 : decode cX7_signature 41 = .ok (.iadd, 1) := by decide +kernel
theorem dX7_signature_42 : decode cX7_signature 42 = .ok (.iload 5, 2) := by decide +kernel
theorem dX7_signature_44 : decode cX7_signature 44 = .ok (.iadd, 1) := by decide +kernel
theorem dX7_signature_45 : decode cX7_signature 45 = .ok (.iaload, 1) := by decide +kernel
theorem dX7_signature_46 : decode cX7_signature 46 = .ok (.if_icmp .ge 56, 3) := by decide +kernel
theorem dX7_signature_49 : decode cX7_signature 49 = .ok (.iload_n 1, 1) := by decide +kernel
theorem dX7_signature_50 : decode cX7_signature 50 = .ok (.iconst 4, 1) := by decide +kernel
theorem dX7_signature_51 : decode cX7_signature 51 = .ok (.iadd, 1) := by decide +kernel
theorem dX7_signature_52 : decode cX7_signature 52 = .ok (.bipush 24, 2) := by decide +kernel
theorem dX7_signature_54 : decode cX7_signature 54 = .ok (.iload 5, 2) := by decide +kernel
theorem dX7_signature_56 : decode cX7_signature 56 = .ok (.imul, 1) := by decide +kernel
theorem dX7_signature_57 : decode cX7_signature 57 = .ok (.iadd, 1) := by decide +kernel
theorem dX7_signature_58 : decode cX7_signature 58 = .ok (.iconst 2, 1) := by decide +kernel
theorem dX7_signature_59 : decode cX7_signature 59 = .ok (.iload 6, 2) := by decide +kernel
theorem dX7_signature_61 : decode cX7_signature 61 = .ok (.imul, 1) := by decide +kernel
theorem dX7_signature_62 : decode cX7_signature 62 = .ok (.iadd, 1) := by decide +kernel
theorem dX7_signature_63 : decode cX7_signature 63 = .ok (.istore 7, 2) := by decide +kernel
theorem dX7_signature_65 : decode cX7_signature 65 = .ok (.aload_n 3, 1) := by decide +kernel
theorem dX7_signature_66 : decode cX7_signature 66 = .ok (.iload 4, 2) := by decide +kernel
theorem dX7_signature_68 : decode cX7_signature 68 = .ok (.aload_n 0, 1) := by decide +kernel
theorem dX7_signature_69 : decode cX7_signature 69 = .ok (.iload 7, 2) := by decide +kernel
theorem dX7_signature_71 : decode cX7_signature 71 = .ok (.iconst 2, 1) := by decide +kernel
theorem dX7_signature_72 : decode cX7_signature 72 = .ok (.isub, 1) := by decide +kernel
theorem dX7_signature_73 : decode cX7_signature 73 = .ok (.iaload, 1) := by decide +kernel
theorem dX7_signature_74 : decode cX7_signature 74 = .ok (.aload_n 0, 1) := by decide +kernel
theorem dX7_signature_75 : decode cX7_signature 75 = .ok (.iload 7, 2) := by decide +kernel
theorem dX7_signature_77 : decode cX7_signature 77 = .ok (.iconst 1, 1) := by decide +kernel
theorem dX7_signature_78 : decode cX7_signature 78 = .ok (.isub, 1) := by decide +kernel
theorem dX7_signature_79 : decode cX7_signature 79 = .ok (.iaload, 1) := by decide +kernel
theorem dX7_signature_80 : decode cX7_signature 80 = .ok (.aload_n 0, 1) := by decide +kernel
theorem dX7_signature_81 : decode cX7_signature 81 = .ok (.iload 7, 2) := by decide +kernel
theorem dX7_signature_83 : decode cX7_signature 83 = .ok (.iaload, 1) := by decide +kernel
theorem dX7_signature_84 : decode cX7_signature 84 = .ok (.aload_n 0, 1) := by decide +kernel
theorem dX7_signature_85 : decode cX7_signature 85 = .ok (.iload 7, 2) := by decide +kernel
theorem dX7_signature_87 : decode cX7_signature 87 = .ok (.iconst 1, 1) := by decide +kernel
theorem dX7_signature_88 : decode cX7_signature 88 = .ok (.iadd, 1) := by decide +kernel
theorem dX7_signature_89 : decode cX7_signature 89 = .ok (.iaload, 1) := by decide +kernel
theorem dX7_signature_90 : decode cX7_signature 90 = .ok (.iload_n 2, 1) := by decide +kernel
theorem dX7_signature_91 : decode cX7_signature 91 = .ok (.invokestatic 61, 3) := by decide +kernel
theorem dX7_signature_94 : decode cX7_signature 94 = .ok (.istore 4, 2) := by decide +kernel
theorem dX7_signature_96 : decode cX7_signature 96 = .ok (.iinc 6 1, 3) := by decide +kernel
theorem dX7_signature_99 : decode cX7_signature 99 = .ok (.goto (-63), 3) := by decide +kernel
theorem dX7_signature_102 : decode cX7_signature 102 = .ok (.iinc 5 1, 3) := by decide +kernel
theorem dX7_signature_105 : decode cX7_signature 105 = .ok (.goto (-99), 3) := by decide +kernel
theorem dX7_signature_108 : decode cX7_signature 108 = .ok (.iload 4, 2) := by decide +kernel
theorem dX7_signature_110 : decode cX7_signature 110 = .ok (.ireturn, 1) := by decide +kernel
theorem dX7_alone_0 : decode cX7_alone 0 = .ok (.iload_n 0, 1) := by decide +kernel
theorem dX7_alone_1 : decode cX7_alone 1 = .ok (.iconst 4, 1) := by decide +kernel
theorem dX7_alone_2 : decode cX7_alone 2 = .ok (.if_icmp .ne 7, 3) := by decide +kernel
theorem dX7_alone_5 : decode cX7_alone 5 = .ok (.iconst 3, 1) := by decide +kernel
theorem dX7_alone_6 : decode cX7_alone 6 = .ok (.goto 4, 3) := by decide +kernel
theorem dX7_alone_9 : decode cX7_alone 9 = .ok (.iconst 2, 1) := by decide +kernel
theorem dX7_alone_10 : decode cX7_alone 10 = .ok (.ireturn, 1) := by decide +kernel
set_option maxRecDepth 20000 in
theorem ggX7_instead_X7_size : GoodIn wsX7_instead wsX7_size := goodIn_r _ [4] (by decide +kernel) (by decide +kernel)
set_option maxRecDepth 20000 in
theorem gX7_instead_X7_size : GoodIn wsX7_instead (va_wsS RX7 49 yX7_size wsX7_size) := goodIn_app (goodIn_of _ (by decide +kernel)) ggX7_instead_X7_size
theorem dX7_instead_0 : decode cX7_instead 0 = .ok (.iload_n 0, 1) := by decide +kernel
theorem dX7_instead_1 : decode cX7_instead 1 = .ok (.iload_n 1, 1) := by decide +kernel
theorem dX7_instead_2 : decode cX7_instead 2 = .ok (.if_icmp .ne 7, 3) := by decide +kernel
theorem dX7_instead_5 : decode cX7_instead 5 = .ok (.iconst 0, 1) := by decide +kernel
theorem dX7_instead_6 : decode cX7_instead 6 = .ok (.goto 32, 3) := by decide +kernel
theorem dX7_instead_9 : decode cX7_instead 9 = .ok (.iload_n 0, 1) := by decide +kernel
theorem dX7_instead_10 : decode cX7_instead 10 = .ok (.iconst 4, 1) := by decide +kernel
theorem dX7_instead_11 : decode cX7_instead 11 = .ok (.if_icmp .eq 8, 3) := by decide +kernel
theorem dX7_instead_14 : decode cX7_instead 14 = .ok (.iload_n 1, 1) := by decide +kernel
theorem dX7_instead_15 : decode cX7_instead 15 = .ok (.iconst 4, 1) := by decide +kernel
theorem dX7_instead_16 : decode cX7_instead 16 = .ok (.if_icmp .ne 7, 3) := by decide +kernel
theorem dX7_instead_19 : decode cX7_instead 19 = .ok (.iconst 5, 1) := by decide +kernel
theorem dX7_instead_20 : decode cX7_instead 20 = .ok (.goto 18, 3) := by decide +kernel
theorem dX7_instead_23 : decode cX7_instead 23 = .ok (.iload_n 0, 1) := by decide +kernel
theorem dX7_instead_24 : decode cX7_instead 24 = .ok (.iload_n 1, 1) := by decide +kernel
theorem dX7_instead_25 : decode cX7_instead 25 = .ok (.isub, 1) := by decide +kernel
theorem dX7_instead_26 : decode cX7_instead 26 = .ok (.invokestatic 49, 3) := by decide +kernel
theorem dX7_instead_29 : decode cX7_instead 29 = .ok (.iconst 2, 1) := by decide +kernel
theorem dX7_instead_30 : decode cX7_instead 30 = .ok (.if_icmp .ne 7, 3) := by decide +kernel
theorem dX7_instead_33 : decode cX7_instead 33 = .ok (.iconst 3, 1) := by decide +kernel
theorem dX7_instead_34 : decode cX7_instead 34 = .ok (.goto 4, 3) := by decide +kernel
theorem dX7_instead_37 : decode cX7_instead 37 = .ok (.iconst 2, 1) := by decide +kernel
theorem dX7_instead_38 : decode cX7_instead 38 = .ok (.ireturn, 1) := by decide +kernel
theorem dX7_least_0 : decode cX7_least 0 = .ok (.iload_n 0, 1) := by decide +kernel
theorem dX7_least_1 : decode cX7_least 1 = .ok (.iload_n 1, 1) := by decide +kernel
theorem dX7_least_2 : decode cX7_least 2 = .ok (.if_icmp .ge 7, 3) := by decide +kernel
theorem dX7_least_5 : decode cX7_least 5 = .ok (.iload_n 0, 1) := by decide +kernel
theorem dX7_least_6 : decode cX7_least 6 = .ok (.goto 4, 3) := by decide +kernel
theorem dX7_least_9 : decode cX7_least 9 = .ok (.iload_n 1, 1) := by decide +kernel
theorem dX7_least_10 : decode cX7_least 10 = .ok (.ireturn, 1) := by decide +kernel
set_option maxRecDepth 20000 in
theorem ggX7_distance_X7_alone : GoodIn wsX7_distance wsX7_alone := goodIn_r _ [7] (by decide +kernel) (by decide +kernel)
set_option maxRecDepth 20000 in
theorem gX7_distance_X7_alone : GoodIn wsX7_distance (va_wsS RX7 65 yX7_alone wsX7_alone) := goodIn_app (goodIn_of _ (by decide +kernel)) ggX7_distance_X7_alone
set_option maxRecDepth 20000 in
theorem ggX7_distance_X7_least : GoodIn wsX7_distance wsX7_least := goodIn_r _ [10] (by decide +kernel) (by decide +kernel)
set_option maxRecDepth 20000 in
theorem gX7_distance_X7_least : GoodIn wsX7_distance (va_wsS RX7 68 yX7_least wsX7_least) := goodIn_app (goodIn_of _ (by decide +kernel)) ggX7_distance_X7_least
set_option maxRecDepth 20000 in
theorem ggX7_distance_X7_instead : GoodIn wsX7_distance wsX7_instead := goodIn_r _ [13, 14, 15, 6, 16] (by decide +kernel) (by decide +kernel)
set_option maxRecDepth 20000 in
theorem gX7_distance_X7_instead : GoodIn wsX7_distance (va_wsS RX7 72 yX7_instead wsX7_instead) := goodIn_app (goodIn_of _ (by decide +kernel)) ggX7_distance_X7_instead
theorem dX7_distance_0 : decode cX7_distance 0 = .ok (.iconst 0, 1) := by decide +kernel
theorem dX7_distance_1 : decode cX7_distance 1 = .ok (.istore_n 3, 1) := by decide +kernel
theorem dX7_distance_2 : decode cX7_distance 2 = .ok (.iload_n 3, 1) := by decide +kernel
theorem dX7_distance_3 : decode cX7_distance 3 = .ok (.iload_n 1, 1) := by decide +kernel
theorem dX7_distance_4 : decode cX7_distance 4 = .ok (.if_icmp .gt 200, 3) := by decide +kernel
theorem dX7_distance_7 : decode cX7_distance 7 = .ok (.iconst 0, 1) := by decide +kernel
theorem dX7_distance_8 : decode cX7_distance 8 = .ok (.istore 4, 2) := by decide +kernel
theorem dX7_distance_10 : decode cX7_distance 10 = .ok (.iload 4, 2) := by decide +kernel
theorem dX7_distance_12 : decode cX7_distance 12 = .ok (.iload_n 2, 1) := by decide +kernel
theorem dX7_distance_13 : decode cX7_distance 13 = .ok (.if_icmp .gt 185, 3) := by decide +kernel
theorem dX7_distance_16 : decode cX7_distance 16 = .ok (.iload_n 3, 1) := by decide +kernel
theorem dX7_distance_17 : decode cX7_distance 17 = .ok (.ifCond .ne 12, 3) := by decide +kernel
theorem dX7_distance_20 : decode cX7_distance 20 = .ok (.iload 4, 2) := by decide +kernel
theorem dX7_distance_22 : decode cX7_distance 22 = .ok (.ifCond .ne 7, 3) := by decide +kernel
theorem dX7_distance_25 : decode cX7_distance 25 = .ok (.iconst 0, 1) := by decide +kernel
theorem dX7_distance_26 : decode cX7_distance 26 = .ok (.goto 6, 3) := by decide +kernel
theorem dX7_distance_29 : decode cX7_distance 29 = .ok (.sipush 1000, 3) := by decide +kernel
theorem dX7_distance_32 : decode cX7_distance 32 = .ok (.istore 5, 2) := by decide +kernel
theorem dX7_distance_34 : decode cX7_distance 34 = .ok (.iload_n 3, 1) := by decide +kernel
theorem dX7_distance_35 : decode cX7_distance 35 = .ok (.ifCond .le 37, 3) := by decide +kernel
theorem dX7_distance_38 : decode cX7_distance 38 = .ok (.iload 5, 2) := by decide +kernel
theorem dX7_distance_40 : decode cX7_distance 40 = .ok (.aload_n 0, 1) := by decide +kernel
theorem dX7_distance_41 : decode cX7_distance 41 = .ok (.getfield 38, 3) := by decide +kernel
theorem dX7_distance_44 : decode cX7_distance 44 = .ok (.bipush 41, 2) := by decide +kernel
theorem dX7_distance_46 : decode cX7_distance 46 = .ok (.iload_n 3, 1) := by decide +kernel
theorem dX7_distance_47 : decode cX7_distance 47 = .ok (.iconst 1, 1) := by decide +kernel
theorem dX7_distance_48 : decode cX7_distance 48 = .ok (.isub, 1) := by decide +kernel
theorem dX7_distance_49 : decode cX7_distance 49 = .ok (.imul, 1) := by decide +kernel
theorem dX7_distance_50 : decode cX7_distance 50 = .ok (.iload 4, 2) := by decide +kernel
theorem dX7_distance_52 : decode cX7_distance 52 = .ok (.iadd, 1) := by decide +kernel
theorem dX7_distance_53 : decode cX7_distance 53 = .ok (.iaload, 1) := by decide +kernel
theorem dX7_distance_54 : decode cX7_distance 54 = .ok (.aload_n 0, 1) := by decide +kernel
theorem dX7_distance_55 : decode cX7_distance 55 = .ok (.getfield 32, 3) := by decide +kernel
theorem dX7_distance_58 : decode cX7_distance 58 = .ok (.iload_n 3, 1) := by decide +kernel
theorem dX7_distance_59 : decode cX7_distance 59 = .ok (.iconst 1, 1) := by decide +kernel
theorem dX7_distance_60 : decode cX7_distance 60 = .ok (.isub, 1) := by decide +kernel
theorem dX7_distance_61 : decode cX7_distance 61 = .ok (.iaload, 1) := by decide +kernel
theorem dX7_distance_62 : decode cX7_distance 62 = .ok (.invokestatic 65, 3) := by decide +kernel
theorem dX7_distance_65 : decode cX7_distance 65 = .ok (.iadd, 1) := by decide +kernel
theorem dX7_distance_66 : decode cX7_distance 66 = .ok (.invokestatic 68, 3) := by decide +kernel
theorem dX7_distance_69 : decode cX7_distance 69 = .ok (.goto 5, 3) := by decide +kernel
theorem dX7_distance_72 : decode cX7_distance 72 = .ok (.iload 5, 2) := by decide +kernel
theorem dX7_distance_74 : decode cX7_distance 74 = .ok (.istore 5, 2) := by decide +kernel
theorem dX7_distance_76 : decode cX7_distance 76 = .ok (.iload 4, 2) := by decide +kernel
theorem dX7_distance_78 : decode cX7_distance 78 = .ok (.ifCond .le 38, 3) := by decide +kernel
theorem dX7_distance_81 : decode cX7_distance 81 = .ok (.iload 5, 2) := by decide +kernel
theorem dX7_distance_83 : decode cX7_distance 83 = .ok (.aload_n 0, 1) := by decide +kernel
theorem dX7_distance_84 : decode cX7_distance 84 = .ok (.getfield 38, 3) := by decide +kernel
theorem dX7_distance_87 : decode cX7_distance 87 = .ok (.bipush 41, 2) := by decide +kernel
theorem dX7_distance_89 : decode cX7_distance 89 = .ok (.iload_n 3, 1) := by decide +kernel
theorem dX7_distance_90 : decode cX7_distance 90 = .ok (.imul, 1) := by decide +kernel
theorem dX7_distance_91 : decode cX7_distance 91 = .ok (.iload 4, 2) := by decide +kernel
theorem dX7_distance_93 : decode cX7_distance 93 = .ok (.iadd, 1) := by decide +kernel
theorem dX7_distance_94 : decode cX7_distance 94 = .ok (.iconst 1, 1) := by decide +kernel
theorem dX7_distance_95 : decode cX7_distance 95 = .ok (.isub, 1) := by decide +kernel
theorem dX7_distance_96 : decode cX7_distance 96 = .ok (.iaload, 1) := by decide +kernel
theorem dX7_distance_97 : decode cX7_distance 97 = .ok (.aload_n 0, 1) := by decide +kernel
theorem dX7_distance_98 : decode cX7_distance 98 = .ok (.getfield 35, 3) := by decide +kernel
theorem dX7_distance_101 : decode cX7_distance 101 = .ok (.iload 4, 2) := by decide +kernel
theorem dX7_distance_103 : decode cX7_distance 103 = .ok (.iconst 1, 1) := by decide +kernel
theorem dX7_distance_104 : decode cX7_distance 104 = .ok (.isub, 1) := by decide +kernel
theorem dX7_distance_105 : decode cX7_distance 105 = .ok (.iaload, 1) := by decide +kernel
theorem dX7_distance_106 : decode cX7_distance 106 = .ok (.invokestatic 65, 3) := by decide +kernel
theorem dX7_distance_109 : decode cX7_distance 109 = .ok (.iadd, 1) := by decide +kernel
theorem dX7_distance_110 : decode cX7_distance 110 = .ok (.invokestatic 68, 3) := by decide +kernel
theorem dX7_distance_113 : decode cX7_distance 113 = .ok (.goto 5, 3) := by decide +kernel
theorem dX7_distance_116 : decode cX7_distance 116 = .ok (.iload 5, 2) := by decide +kernel
theorem dX7_distance_118 : decode cX7_distance 118 = .ok (.istore 5, 2) := by decide +kernel
theorem dX7_distance_120 : decode cX7_distance 120 = .ok (.iload_n 3, 1) := by decide +kernel
theorem dX7_distance_121 : decode cX7_distance 121 = .ok (.ifCond .le 53, 3) := by decide +kernel
theorem dX7_distance_124 : decode cX7_distance 124 = .ok (.iload 4, 2) := by decide +kernel
theorem dX7_distance_126 : decode cX7_distance 126 = .ok (.ifCond .le 48, 3) := by decide +kernel
theorem dX7_distance_129 : decode cX7_distance 129 = .ok (.iload 5, 2) := by decide +kernel
theorem dX7_distance_131 : decode cX7_distance 131 = .ok (.aload_n 0, 1) := by decide +kernel
theorem dX7_distance_132 : decode cX7_distance 132 = .ok (.getfield 38, 3) := by decide +kernel
theorem dX7_distance_135 : decode cX7_distance 135 = .ok (.bipush 41, 2) := by decide +kernel
theorem dX7_distance_137 : decode cX7_distance 137 = .ok (.iload_n 3, 1) := by decide +kernel
theorem dX7_distance_138 : decode cX7_distance 138 = .ok (.iconst 1, 1) := by decide +kernel
theorem dX7_distance_139 : decode cX7_distance 139 = .ok (.isub, 1) := by decide +kernel
theorem dX7_distance_140 : decode cX7_distance 140 = .ok (.imul, 1) := by decide +kernel
theorem dX7_distance_141 : decode cX7_distance 141 = .ok (.iload 4, 2) := by decide +kernel
theorem dX7_distance_143 : decode cX7_distance 143 = .ok (.iadd, 1) := by decide +kernel
theorem dX7_distance_144 : decode cX7_distance 144 = .ok (.iconst 1, 1) := by decide +kernel
theorem dX7_distance_145 : decode cX7_distance 145 = .ok (.isub, 1) := by decide +kernel
theorem dX7_distance_146 : decode cX7_distance 146 = .ok (.iaload, 1) := by decide +kernel
theorem dX7_distance_147 : decode cX7_distance 147 = .ok (.aload_n 0, 1) := by decide +kernel
theorem dX7_distance_148 : decode cX7_distance 148 = .ok (.getfield 32, 3) := by decide +kernel
theorem dX7_distance_151 : decode cX7_distance 151 = .ok (.iload_n 3, 1) := by decide +kernel
theorem dX7_distance_152 : decode cX7_distance 152 = .ok (.iconst 1, 1) := by decide +kernel
theorem dX7_distance_153 : decode cX7_distance 153 = .ok (.isub, 1) := by decide +kernel
theorem dX7_distance_154 : decode cX7_distance 154 = .ok (.iaload, 1) := by decide +kernel
theorem dX7_distance_155 : decode cX7_distance 155 = .ok (.aload_n 0, 1) := by decide +kernel
theorem dX7_distance_156 : decode cX7_distance 156 = .ok (.getfield 35, 3) := by decide +kernel
theorem dX7_distance_159 : decode cX7_distance 159 = .ok (.iload 4, 2) := by decide +kernel
theorem dX7_distance_161 : decode cX7_distance 161 = .ok (.iconst 1, 1) := by decide +kernel
theorem dX7_distance_162 : decode cX7_distance 162 = .ok (.isub, 1) := by decide +kernel
theorem dX7_distance_163 : decode cX7_distance 163 = .ok (.iaload, 1) := by decide +kernel
theorem dX7_distance_164 : decode cX7_distance 164 = .ok (.invokestatic 72, 3) := by decide +kernel
theorem dX7_distance_167 : decode cX7_distance 167 = .ok (.iadd, 1) := by decide +kernel
theorem dX7_distance_168 : decode cX7_distance 168 = .ok (.invokestatic 68, 3) := by decide +kernel
theorem dX7_distance_171 : decode cX7_distance 171 = .ok (.goto 5, 3) := by decide +kernel
theorem dX7_distance_174 : decode cX7_distance 174 = .ok (.iload 5, 2) := by decide +kernel
theorem dX7_distance_176 : decode cX7_distance 176 = .ok (.istore 5, 2) := by decide +kernel
theorem dX7_distance_178 : decode cX7_distance 178 = .ok (.aload_n 0, 1) := by decide +kernel
theorem dX7_distance_179 : decode cX7_distance 179 = .ok (.getfield 38, 3) := by decide +kernel
theorem dX7_distance_182 : decode cX7_distance 182 = .ok (.bipush 41, 2) := by decide +kernel
theorem dX7_distance_184 : decode cX7_distance 184 = .ok (.iload_n 3, 1) := by decide +kernel
theorem dX7_distance_185 : decode cX7_distance 185 = .ok (.imul, 1) := by decide +kernel
theorem dX7_distance_186 : decode cX7_distance 186 = .ok (.iload 4, 2) := by decide +kernel
