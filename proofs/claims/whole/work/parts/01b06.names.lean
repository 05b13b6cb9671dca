theorem dX7_undo_26 : decode cX7_undo 26 = .ok (.iconst 1, 1) := by decide +kernel
theorem dX7_undo_27 : decode cX7_undo 27 = .ok (.isub, 1) := by decide +kernel
theorem dX7_undo_28 : decode cX7_undo 28 = .ok (.putfield 156, 3) := by decide +kernel
theorem dX7_undo_31 : decode cX7_undo 31 = .ok (.aload_n 0, 1) := by decide +kernel
theorem dX7_undo_32 : decode cX7_undo 32 = .ok (.getfield 19, 3) := by decide +kernel
theorem dX7_undo_35 : decode cX7_undo 35 = .ok (.sipush 1343, 3) := by decide +kernel
theorem dX7_undo_38 : decode cX7_undo 38 = .ok (.aload_n 0, 1) := by decide +kernel
theorem dX7_undo_39 : decode cX7_undo 39 = .ok (.getfield 156, 3) := by decide +kernel
theorem dX7_undo_42 : decode cX7_undo 42 = .ok (.imul, 1) := by decide +kernel
theorem dX7_undo_43 : decode cX7_undo 43 = .ok (.aload_n 0, 1) := by decide +kernel
theorem dX7_undo_44 : decode cX7_undo 44 = .ok (.getfield 13, 3) := by decide +kernel
theorem dX7_undo_47 : decode cX7_undo 47 = .ok (.iconst 0, 1) := by decide +kernel
theorem dX7_undo_48 : decode cX7_undo 48 = .ok (.invokestatic 159, 3) := by decide +kernel
theorem dX7_undo_51 : decode cX7_undo 51 = .ok (.aload_n 0, 1) := by decide +kernel
theorem dX7_undo_52 : decode cX7_undo 52 = .ok (.getfield 156, 3) := by decide +kernel
theorem dX7_undo_55 : decode cX7_undo 55 = .ok (.ireturn, 1) := by decide +kernel
set_option maxRecDepth 20000 in
theorem ggX7_read_X7_in : GoodIn wsX7_read wsX7_in := goodIn_r _ [9] (by decide +kernel) (by decide +kernel)
set_option maxRecDepth 20000 in
theorem gX7_read_X7_in : GoodIn wsX7_read (va_wsS RX7 45 yX7_in wsX7_in) := goodIn_app (goodIn_of _ (by decide +kernel)) ggX7_read_X7_in
set_option maxRecDepth 20000 in
theorem ggX7_read_X7_refused : GoodIn wsX7_read wsX7_refused := goodIn_r _ [13, 14, 60, 61, 62, 63, 64, 65, 66, 67, 68, 69, 70, 71, 72, 73, 74, 75, 76, 77, 78] (by decide +kernel) (by decide +kernel)
set_option maxRecDepth 20000 in
theorem gX7_read_X7_refused : GoodIn wsX7_read (wsV RX7 102 RX7 yX7_refused wsX7_refused) := goodIn_app (goodIn_of _ (by decide +kernel)) ggX7_read_X7_refused
set_option maxRecDepth 20000 in
theorem ggX7_read_X7_readFigure_p0 : GoodIn wsX7_read [.code yX7_readFigure cX7_readFigure 9 none] := goodIn_r _ [18] (by decide +kernel) (by decide +kernel)
theorem ggX7_read_X7_readFigure_p1 : GoodIn wsX7_read wsX7_readFigure_r1 := goodIn_r _ [4, 5, 3, 19, 20, 21, 8, 22, 23, 24, 25, 26, 27, 28, 29, 30, 31, 32, 33, 34, 35, 36, 37, 38] (by decide +kernel) (by decide +kernel)
theorem ggX7_read_X7_readFigure_p2 : GoodIn wsX7_read wsX7_readFigure_r2 := goodIn_r _ [39, 40, 41, 42, 43, 44, 45, 46, 47, 48, 49, 50, 51, 52, 53, 54, 55, 56] (by decide +kernel) (by decide +kernel)
theorem ggX7_read_X7_readFigure_p3 : GoodIn wsX7_read wsX70 := goodIn_r _ [60, 61, 62, 63, 64, 65, 66, 67, 68, 69, 70, 71, 72, 73, 74, 75, 76, 77, 78] (by decide +kernel) (by decide +kernel)
theorem ggX7_read_X7_readFigure : GoodIn wsX7_read wsX7_readFigure := (goodIn_c2 ggX7_read_X7_readFigure_p0 (goodIn_app (goodIn_app ggX7_read_X7_readFigure_p1 ggX7_read_X7_readFigure_p2) ggX7_read_X7_readFigure_p3))
set_option maxRecDepth 20000 in
theorem gX7_read_X7_readFigure : GoodIn wsX7_read (wsV RX7 185 RX7 yX7_readFigure wsX7_readFigure) := goodIn_app (goodIn_of _ (by decide +kernel)) ggX7_read_X7_readFigure
set_option maxRecDepth 20000 in
theorem ggX7_read_X7_nameOf : GoodIn wsX7_read wsX7_nameOf := goodIn_r _ [59, 40, 41, 8, 42] (by decide +kernel) (by decide +kernel)
set_option maxRecDepth 20000 in
theorem gX7_read_X7_nameOf : GoodIn wsX7_read (va_wsS RX7 146 yX7_nameOf wsX7_nameOf) := goodIn_app (goodIn_of _ (by decide +kernel)) ggX7_read_X7_nameOf
theorem dX7_read_0 : decode cX7_read 0 = .ok (.aload_n 0, 1) := by decide +kernel
theorem dX7_read_1 : decode cX7_read 1 = .ok (.iload_n 1, 1) := by decide +kernel
theorem dX7_read_2 : decode cX7_read 2 = .ok (.i2l, 1) := by decide +kernel
theorem dX7_read_3 : decode cX7_read 3 = .ok (.lconst 0, 1) := by decide +kernel
theorem dX7_read_4 : decode cX7_read 4 = .ok (.ldc2_w 144, 3) := by decide +kernel
theorem dX7_read_7 : decode cX7_read 7 = .ok (.invokestatic 45, 3) := by decide +kernel
theorem dX7_read_10 : decode cX7_read 10 = .ok (.ifCond .eq 7, 3) := by decide +kernel
theorem dX7_read_13 : decode cX7_read 13 = .ok (.iconst 0, 1) := by decide +kernel
theorem dX7_read_14 : decode cX7_read 14 = .ok (.goto 4, 3) := by decide +kernel
theorem dX7_read_17 : decode cX7_read 17 = .ok (.iconst 1, 1) := by decide +kernel
theorem dX7_read_18 : decode cX7_read 18 = .ok (.invokevirtual 102, 3) := by decide +kernel
theorem dX7_read_21 : decode cX7_read 21 = .ok (.ifCond .eq 5, 3) := by decide +kernel
theorem dX7_read_24 : decode cX7_read 24 = .ok (.iconst 0, 1) := by decide +kernel
theorem dX7_read_25 : decode cX7_read 25 = .ok (.ireturn, 1) := by decide +kernel
theorem dX7_read_26 : decode cX7_read 26 = .ok (.aload_n 0, 1) := by decide +kernel
theorem dX7_read_27 : decode cX7_read 27 = .ok (.aload_n 0, 1) := by decide +kernel
theorem dX7_read_28 : decode cX7_read 28 = .ok (.getfield 13, 3) := by decide +kernel
theorem dX7_read_31 : decode cX7_read 31 = .ok (.iconst 0, 1) := by decide +kernel
theorem dX7_read_32 : decode cX7_read 32 = .ok (.aload_n 0, 1) := by decide +kernel
theorem dX7_read_33 : decode cX7_read 33 = .ok (.getfield 13, 3) := by decide +kernel
theorem dX7_read_36 : decode cX7_read 36 = .ok (.iconst (-1), 1) := by decide +kernel
theorem dX7_read_37 : decode cX7_read 37 = .ok (.invokevirtual 185, 3) := by decide +kernel
theorem dX7_read_40 : decode cX7_read 40 = .ok (.iload_n 1, 1) := by decide +kernel
theorem dX7_read_41 : decode cX7_read 41 = .ok (.ifCond .ne 10, 3) := by decide +kernel
theorem dX7_read_44 : decode cX7_read 44 = .ok (.aload_n 0, 1) := by decide +kernel
theorem dX7_read_45 : decode cX7_read 45 = .ok (.getfield 95, 3) := by decide +kernel
theorem dX7_read_48 : decode cX7_read 48 = .ok (.goto 49, 3) := by decide +kernel
theorem dX7_read_51 : decode cX7_read 51 = .ok (.iload_n 1, 1) := by decide +kernel
theorem dX7_read_52 : decode cX7_read 52 = .ok (.iconst 1, 1) := by decide +kernel
theorem dX7_read_53 : decode cX7_read 53 = .ok (.if_icmp .ne 28, 3) := by decide +kernel
theorem dX7_read_56 : decode cX7_read 56 = .ok (.aload_n 0, 1) := by decide +kernel
theorem dX7_read_57 : decode cX7_read 57 = .ok (.getfield 95, 3) := by decide +kernel
theorem dX7_read_60 : decode cX7_read 60 = .ok (.ifCond .ne 17, 3) := by decide +kernel
theorem dX7_read_63 : decode cX7_read 63 = .ok (.aload_n 0, 1) := by decide +kernel
theorem dX7_read_64 : decode cX7_read 64 = .ok (.getfield 13, 3) := by decide +kernel
theorem dX7_read_67 : decode cX7_read 67 = .ok (.aload_n 0, 1) := by decide +kernel
theorem dX7_read_68 : decode cX7_read 68 = .ok (.getfield 85, 3) := by decide +kernel
theorem dX7_read_71 : decode cX7_read 71 = .ok (.invokestatic 146, 3) := by decide +kernel
theorem dX7_read_74 : decode cX7_read 74 = .ok (.goto 23, 3) := by decide +kernel
theorem dX7_read_77 : decode cX7_read 77 = .ok (.iconst (-1), 1) := by decide +kernel
theorem dX7_read_78 : decode cX7_read 78 = .ok (.goto 19, 3) := by decide +kernel
theorem dX7_read_81 : decode cX7_read 81 = .ok (.iload_n 1, 1) := by decide +kernel
theorem dX7_read_82 : decode cX7_read 82 = .ok (.iconst 2, 1) := by decide +kernel
theorem dX7_read_83 : decode cX7_read 83 = .ok (.if_icmp .ne 10, 3) := by decide +kernel
theorem dX7_read_86 : decode cX7_read 86 = .ok (.aload_n 0, 1) := by decide +kernel
theorem dX7_read_87 : decode cX7_read 87 = .ok (.getfield 88, 3) := by decide +kernel
theorem dX7_read_90 : decode cX7_read 90 = .ok (.goto 7, 3) := by decide +kernel
theorem dX7_read_93 : decode cX7_read 93 = .ok (.aload_n 0, 1) := by decide +kernel
theorem dX7_read_94 : decode cX7_read 94 = .ok (.getfield 85, 3) := by decide +kernel
theorem dX7_read_97 : decode cX7_read 97 = .ok (.ireturn, 1) := by decide +kernel
set_option maxRecDepth 20000 in
theorem ggX7_nearest_X7_isSample : GoodIn wsX7_nearest wsX7_isSample := goodIn_r _ [5, 6, 7, 4, 8] (by decide +kernel) (by decide +kernel)
set_option maxRecDepth 20000 in
theorem gX7_nearest_X7_isSample : GoodIn wsX7_nearest (va_wsS RX7 140 yX7_isSample wsX7_isSample) := goodIn_app (goodIn_of _ (by decide +kernel)) ggX7_nearest_X7_isSample
set_option maxRecDepth 20000 in
theorem ggX7_nearest_X7_refused : GoodIn wsX7_nearest wsX7_refused := goodIn_r _ [12, 13, 52, 53, 54, 55, 56, 57, 58, 59, 60, 61, 62, 63, 64, 65, 66, 67, 68, 69, 70] (by decide +kernel) (by decide +kernel)
set_option maxRecDepth 20000 in
theorem gX7_nearest_X7_refused : GoodIn wsX7_nearest (wsV RX7 102 RX7 yX7_refused wsX7_refused) := goodIn_app (goodIn_of _ (by decide +kernel)) ggX7_nearest_X7_refused
set_option maxRecDepth 20000 in
theorem ggX7_nearest_X7_distanceTo_p0 : GoodIn wsX7_nearest [.code yX7_distanceTo cX7_distanceTo 7 (some .int)] := goodIn_r _ [17] (by decide +kernel) (by decide +kernel)
theorem ggX7_nearest_X7_distanceTo_p1 : GoodIn wsX7_nearest wsX7_distanceTo_r1 := goodIn_r _ [18, 19, 20, 21, 4, 22, 23, 24, 25, 26, 27, 28, 29, 30, 31, 32, 33, 34, 35, 36, 37, 38, 39, 40] (by decide +kernel) (by decide +kernel)
theorem ggX7_nearest_X7_distanceTo_p2 : GoodIn wsX7_nearest wsX7_distanceTo_r2 := goodIn_r _ [41, 42, 43, 44, 45, 46, 47, 48, 49, 50, 51] (by decide +kernel) (by decide +kernel)
theorem ggX7_nearest_X7_distanceTo_p3 : GoodIn wsX7_nearest wsX70 := goodIn_r _ [52, 53, 54, 55, 56, 57, 58, 59, 60, 61, 62, 63, 64, 65, 66, 67, 68, 69, 70] (by decide +kernel) (by decide +kernel)
theorem ggX7_nearest_X7_distanceTo : GoodIn wsX7_nearest wsX7_distanceTo := (goodIn_c2 ggX7_nearest_X7_distanceTo_p0 (goodIn_app (goodIn_app ggX7_nearest_X7_distanceTo_p1 ggX7_nearest_X7_distanceTo_p2) ggX7_nearest_X7_distanceTo_p3))
set_option maxRecDepth 20000 in
theorem gX7_nearest_X7_distanceTo : GoodIn wsX7_nearest (wsV RX7 91 RX7 yX7_distanceTo wsX7_distanceTo) := goodIn_app (goodIn_of _ (by decide +kernel)) ggX7_nearest_X7_distanceTo
theorem dX7_nearest_0 : decode cX7_nearest 0 = .ok (.aload_n 0, 1) := by decide +kernel
theorem dX7_nearest_1 : decode cX7_nearest 1 = .ok (.aload_n 0, 1) := by decide +kernel
theorem dX7_nearest_2 : decode cX7_nearest 2 = .ok (.getfield 13, 3) := by decide +kernel
theorem dX7_nearest_5 : decode cX7_nearest 5 = .ok (.iload_n 1, 1) := by decide +kernel
theorem dX7_nearest_6 : decode cX7_nearest 6 = .ok (.invokestatic 140, 3) := by decide +kernel
theorem dX7_nearest_9 : decode cX7_nearest 9 = .ok (.ifCond .eq 7, 3) := by decide +kernel
theorem dX7_nearest_12 : decode cX7_nearest 12 = .ok (.iconst 0, 1) := by decide +kernel
theorem dX7_nearest_13 : decode cX7_nearest 13 = .ok (.goto 4, 3) := by decide +kernel
theorem dX7_nearest_16 : decode cX7_nearest 16 = .ok (.iconst 1, 1) := by decide +kernel
theorem dX7_nearest_17 : decode cX7_nearest 17 = .ok (.invokevirtual 102, 3) := by decide +kernel
theorem dX7_nearest_20 : decode cX7_nearest 20 = .ok (.ifCond .eq 5, 3) := by decide +kernel
theorem dX7_nearest_23 : decode cX7_nearest 23 = .ok (.iconst 0, 1) := by decide +kernel
theorem dX7_nearest_24 : decode cX7_nearest 24 = .ok (.ireturn, 1) := by decide +kernel
theorem dX7_nearest_25 : decode cX7_nearest 25 = .ok (.iconst (-1), 1) := by decide +kernel
theorem dX7_nearest_26 : decode cX7_nearest 26 = .ok (.istore_n 2, 1) := by decide +kernel
theorem dX7_nearest_27 : decode cX7_nearest 27 = .ok (.iconst 0, 1) := by decide +kernel
theorem dX7_nearest_28 : decode cX7_nearest 28 = .ok (.istore_n 3, 1) := by decide +kernel
theorem dX7_nearest_29 : decode cX7_nearest 29 = .ok (.iload_n 3, 1) := by decide +kernel
theorem dX7_nearest_30 : decode cX7_nearest 30 = .ok (.aload_n 0, 1) := by decide +kernel
theorem dX7_nearest_31 : decode cX7_nearest 31 = .ok (.getfield 13, 3) := by decide +kernel
theorem dX7_nearest_34 : decode cX7_nearest 34 = .ok (.bipush 110, 2) := by decide +kernel
theorem dX7_nearest_36 : decode cX7_nearest 36 = .ok (.iaload, 1) := by decide +kernel
theorem dX7_nearest_37 : decode cX7_nearest 37 = .ok (.if_icmp .ge 129, 3) := by decide +kernel
theorem dX7_nearest_40 : decode cX7_nearest 40 = .ok (.aload_n 0, 1) := by decide +kernel
theorem dX7_nearest_41 : decode cX7_nearest 41 = .ok (.aload_n 0, 1) := by decide +kernel
theorem dX7_nearest_42 : decode cX7_nearest 42 = .ok (.getfield 13, 3) := by decide +kernel
theorem dX7_nearest_45 : decode cX7_nearest 45 = .ok (.iconst 0, 1) := by decide +kernel
theorem dX7_nearest_46 : decode cX7_nearest 46 = .ok (.aload_n 0, 1) := by decide +kernel
theorem dX7_nearest_47 : decode cX7_nearest 47 = .ok (.getfield 13, 3) := by decide +kernel
theorem dX7_nearest_50 : decode cX7_nearest 50 = .ok (.iload_n 3, 1) := by decide +kernel
theorem dX7_nearest_51 : decode cX7_nearest 51 = .ok (.aload_n 0, 1) := by decide +kernel
theorem dX7_nearest_52 : decode cX7_nearest 52 = .ok (.getfield 13, 3) := by decide +kernel
theorem dX7_nearest_55 : decode cX7_nearest 55 = .ok (.bipush 77, 2) := by decide +kernel
theorem dX7_nearest_57 : decode cX7_nearest 57 = .ok (.iaload, 1) := by decide +kernel
theorem dX7_nearest_58 : decode cX7_nearest 58 = .ok (.invokevirtual 91, 3) := by decide +kernel
theorem dX7_nearest_61 : decode cX7_nearest 61 = .ok (.istore 4, 2) := by decide +kernel
theorem dX7_nearest_63 : decode cX7_nearest 63 = .ok (.iconst 0, 1) := by decide +kernel
theorem dX7_nearest_64 : decode cX7_nearest 64 = .ok (.istore 5, 2) := by decide +kernel
theorem dX7_nearest_66 : decode cX7_nearest 66 = .ok (.iconst 0, 1) := by decide +kernel
theorem dX7_nearest_67 : decode cX7_nearest 67 = .ok (.istore 6, 2) := by decide +kernel
theorem dX7_nearest_69 : decode cX7_nearest 69 = .ok (.iload 6, 2) := by decide +kernel
theorem dX7_nearest_71 : decode cX7_nearest 71 = .ok (.aload_n 0, 1) := by decide +kernel
theorem dX7_nearest_72 : decode cX7_nearest 72 = .ok (.getfield 13, 3) := by decide +kernel
theorem dX7_nearest_75 : decode cX7_nearest 75 = .ok (.bipush 110, 2) := by decide +kernel
theorem dX7_nearest_77 : decode cX7_nearest 77 = .ok (.iaload, 1) := by decide +kernel
theorem dX7_nearest_78 : decode cX7_nearest 78 = .ok (.if_icmp .ge 63, 3) := by decide +kernel
theorem dX7_nearest_81 : decode cX7_nearest 81 = .ok (.aload_n 0, 1) := by decide +kernel
theorem dX7_nearest_82 : decode cX7_nearest 82 = .ok (.aload_n 0, 1) := by decide +kernel
theorem dX7_nearest_83 : decode cX7_nearest 83 = .ok (.getfield 13, 3) := by decide +kernel
theorem dX7_nearest_86 : decode cX7_nearest 86 = .ok (.iconst 0, 1) := by decide +kernel
theorem dX7_nearest_87 : decode cX7_nearest 87 = .ok (.aload_n 0, 1) := by decide +kernel
theorem dX7_nearest_88 : decode cX7_nearest 88 = .ok (.getfield 13, 3) := by decide +kernel
theorem dX7_nearest_91 : decode cX7_nearest 91 = .ok (.iload 6, 2) := by decide +kernel
theorem dX7_nearest_93 : decode cX7_nearest 93 = .ok (.aload_n 0, 1) := by decide +kernel
theorem dX7_nearest_94 : decode cX7_nearest 94 = .ok (.getfield 13, 3) := by decide +kernel
theorem dX7_nearest_97 : decode cX7_nearest 97 = .ok (.bipush 77, 2) := by decide +kernel
theorem dX7_nearest_99 : decode cX7_nearest 99 = .ok (.iaload, 1) := by decide +kernel
theorem dX7_nearest_100 : decode cX7_nearest 100 = .ok (.invokevirtual 91, 3) := by decide +kernel
theorem dX7_nearest_103 : decode cX7_nearest 103 = .ok (.istore 7, 2) := by decide +kernel
theorem dX7_nearest_105 : decode cX7_nearest 105 = .ok (.iload 5, 2) := by decide +kernel
theorem dX7_nearest_107 : decode cX7_nearest 107 = .ok (.iload 7, 2) := by decide +kernel
theorem dX7_nearest_109 : decode cX7_nearest 109 = .ok (.iload 4, 2) := by decide +kernel
theorem dX7_nearest_111 : decode cX7_nearest 111 = .ok (.if_icmp .lt 16, 3) := by decide +kernel
theorem dX7_nearest_114 : decode cX7_nearest 114 = .ok (.iload 7, 2) := by decide +kernel
theorem dX7_nearest_116 : decode cX7_nearest 116 = .ok (.iload 4, 2) := by decide +kernel
theorem dX7_nearest_118 : decode cX7_nearest 118 = .ok (.if_icmp .ne 13, 3) := by decide +kernel
theorem dX7_nearest_121 : decode cX7_nearest 121 = .ok (.iload 6, 2) := by decide +kernel
theorem dX7_nearest_123 : decode cX7_nearest 123 = .ok (.iload_n 3, 1) := by decide +kernel
theorem dX7_nearest_124 : decode cX7_nearest 124 = .ok (.if_icmp .ge 7, 3) := by decide +kernel
theorem dX7_nearest_127 : decode cX7_nearest 127 = .ok (.iconst 1, 1) := by decide +kernel
theorem dX7_nearest_128 : decode cX7_nearest 128 = .ok (.goto 4, 3) := by decide +kernel
theorem dX7_nearest_131 : decode cX7_nearest 131 = .ok (.iconst 0, 1) := by decide +kernel
theorem dX7_nearest_132 : decode cX7_nearest 132 = .ok (.iadd, 1) := by decide +kernel
theorem dX7_nearest_133 : decode cX7_nearest 133 = .ok (.istore 5, 2) := by decide +kernel
theorem dX7_nearest_135 : decode cX7_nearest 135 = .ok (.iinc 6 1, 3) := by decide +kernel
theorem dX7_nearest_138 : decode cX7_nearest 138 = .ok (.goto (-69), 3) := by decide +kernel
theorem dX7_nearest_141 : decode cX7_nearest 141 = .ok (.iload 5, 2) := by decide +kernel
theorem dX7_nearest_143 : decode cX7_nearest 143 = .ok (.iload_n 1, 1) := by decide +kernel
theorem dX7_nearest_144 : decode cX7_nearest 144 = .ok (.if_icmp .ne 14, 3) := by decide +kernel
theorem dX7_nearest_147 : decode cX7_nearest 147 = .ok (.sipush 1000, 3) := by decide +kernel
theorem dX7_nearest_150 : decode cX7_nearest 150 = .ok (.iload_n 3, 1) := by decide +kernel
theorem dX7_nearest_151 : decode cX7_nearest 151 = .ok (.imul, 1) := by decide +kernel
theorem dX7_nearest_152 : decode cX7_nearest 152 = .ok (.iload 4, 2) := by decide +kernel
theorem dX7_nearest_154 : decode cX7_nearest 154 = .ok (.iadd, 1) := by decide +kernel
theorem dX7_nearest_155 : decode cX7_nearest 155 = .ok (.goto 4, 3) := by decide +kernel
theorem dX7_nearest_158 : decode cX7_nearest 158 = .ok (.iload_n 2, 1) := by decide +kernel
theorem dX7_nearest_159 : decode cX7_nearest 159 = .ok (.istore_n 2, 1) := by decide +kernel
theorem dX7_nearest_160 : decode cX7_nearest 160 = .ok (.iinc 3 1, 3) := by decide +kernel
theorem dX7_nearest_163 : decode cX7_nearest 163 = .ok (.goto (-134), 3) := by decide +kernel
theorem dX7_nearest_166 : decode cX7_nearest 166 = .ok (.iload_n 2, 1) := by decide +kernel
theorem dX7_nearest_167 : decode cX7_nearest 167 = .ok (.ireturn, 1) := by decide +kernel
set_option maxRecDepth 20000 in
theorem ggX7_between_X7_isSample : GoodIn wsX7_between wsX7_isSample := goodIn_r _ [5, 6, 7, 4, 8] (by decide +kernel) (by decide +kernel)
set_option maxRecDepth 20000 in
theorem gX7_between_X7_isSample : GoodIn wsX7_between (va_wsS RX7 140 yX7_isSample wsX7_isSample) := goodIn_app (goodIn_of _ (by decide +kernel)) ggX7_between_X7_isSample
set_option maxRecDepth 20000 in
theorem ggX7_between_X7_refused : GoodIn wsX7_between wsX7_refused := goodIn_r _ [12, 13, 52, 53, 54, 55, 56, 57, 58, 59, 60, 61, 62, 63, 64, 65, 66, 67, 68, 69, 70] (by decide +kernel) (by decide +kernel)
set_option maxRecDepth 20000 in
theorem gX7_between_X7_refused : GoodIn wsX7_between (wsV RX7 102 RX7 yX7_refused wsX7_refused) := goodIn_app (goodIn_of _ (by decide +kernel)) ggX7_between_X7_refused
set_option maxRecDepth 20000 in
theorem ggX7_between_X7_at : GoodIn wsX7_between wsX7_at := goodIn_r _ [16] (by decide +kernel) (by decide +kernel)
set_option maxRecDepth 20000 in
theorem gX7_between_X7_at : GoodIn wsX7_between (va_wsS RX7 79 yX7_at wsX7_at) := goodIn_app (goodIn_of _ (by decide +kernel)) ggX7_between_X7_at
set_option maxRecDepth 20000 in
theorem ggX7_between_X7_distanceTo_p0 : GoodIn wsX7_between [.code yX7_distanceTo cX7_distanceTo 7 (some .int)] := goodIn_r _ [20] (by decide +kernel) (by decide +kernel)
theorem ggX7_between_X7_distanceTo_p1 : GoodIn wsX7_between wsX7_distanceTo_r1 := goodIn_r _ [21, 22, 23, 24, 4, 25, 26, 27, 28, 29, 30, 31, 32, 33, 34, 35, 36, 37, 14, 15, 16, 38, 39, 40] (by decide +kernel) (by decide +kernel)
theorem ggX7_between_X7_distanceTo_p2 : GoodIn wsX7_between wsX7_distanceTo_r2 := goodIn_r _ [41, 42, 43, 44, 45, 46, 47, 48, 49, 50, 51] (by decide +kernel) (by decide +kernel)
theorem ggX7_between_X7_distanceTo_p3 : GoodIn wsX7_between wsX70 := goodIn_r _ [52, 53, 54, 55, 56, 57, 58, 59, 60, 61, 62, 63, 64, 65, 66, 67, 68, 69, 70] (by decide +kernel) (by decide +kernel)
theorem ggX7_between_X7_distanceTo : GoodIn wsX7_between wsX7_distanceTo := (goodIn_c2 ggX7_between_X7_distanceTo_p0 (goodIn_app (goodIn_app ggX7_between_X7_distanceTo_p1 ggX7_between_X7_distanceTo_p2) ggX7_between_X7_distanceTo_p3))
set_option maxRecDepth 20000 in
theorem gX7_between_X7_distanceTo : GoodIn wsX7_between (wsV RX7 91 RX7 yX7_distanceTo wsX7_distanceTo) := goodIn_app (goodIn_of _ (by decide +kernel)) ggX7_between_X7_distanceTo
theorem dX7_between_0 : decode cX7_between 0 = .ok (.aload_n 0, 1) := by decide +kernel
theorem dX7_between_1 : decode cX7_between 1 = .ok (.aload_n 0, 1) := by decide +kernel
theorem dX7_between_2 : decode cX7_between 2 = .ok (.getfield 13, 3) := by decide +kernel
theorem dX7_between_5 : decode cX7_between 5 = .ok (.iload_n 1, 1) := by decide +kernel
theorem dX7_between_6 : decode cX7_between 6 = .ok (.invokestatic 140, 3) := by decide +kernel
theorem dX7_between_9 : decode cX7_between 9 = .ok (.ifCond .eq 18, 3) := by decide +kernel
theorem dX7_between_12 : decode cX7_between 12 = .ok (.aload_n 0, 1) := by decide +kernel
theorem dX7_between_13 : decode cX7_between 13 = .ok (.getfield 13, 3) := by decide +kernel
theorem dX7_between_16 : decode cX7_between 16 = .ok (.iload_n 2, 1) := by decide +kernel
theorem dX7_between_17 : decode cX7_between 17 = .ok (.invokestatic 140, 3) := by decide +kernel
theorem dX7_between_20 : decode cX7_between 20 = .ok (.ifCond .eq 7, 3) := by decide +kernel
theorem dX7_between_23 : decode cX7_between 23 = .ok (.iconst 0, 1) := by decide +kernel
theorem dX7_between_24 : decode cX7_between 24 = .ok (.goto 4, 3) := by decide +kernel
theorem dX7_between_27 : decode cX7_between 27 = .ok (.iconst 1, 1) := by decide +kernel
theorem dX7_between_28 : decode cX7_between 28 = .ok (.invokevirtual 102, 3) := by decide +kernel
theorem dX7_between_31 : decode cX7_between 31 = .ok (.ifCond .eq 5, 3) := by decide +kernel
theorem dX7_between_34 : decode cX7_between 34 = .ok (.iconst 0, 1) := by decide +kernel
theorem dX7_between_35 : decode cX7_between 35 = .ok (.ireturn, 1) := by decide +kernel
theorem dX7_between_36 : decode cX7_between 36 = .ok (.aload_n 0, 1) := by decide +kernel
theorem dX7_between_37 : decode cX7_between 37 = .ok (.aload_n 0, 1) := by decide +kernel
theorem dX7_between_38 : decode cX7_between 38 = .ok (.getfield 13, 3) := by decide +kernel
theorem dX7_between_41 : decode cX7_between 41 = .ok (.iload_n 1, 1) := by decide +kernel
theorem dX7_between_42 : decode cX7_between 42 = .ok (.invokestatic 79, 3) := by decide +kernel
theorem dX7_between_45 : decode cX7_between 45 = .ok (.aload_n 0, 1) := by decide +kernel
theorem dX7_between_46 : decode cX7_between 46 = .ok (.getfield 13, 3) := by decide +kernel
theorem dX7_between_49 : decode cX7_between 49 = .ok (.iload_n 2, 1) := by decide +kernel
theorem dX7_between_50 : decode cX7_between 50 = .ok (.aload_n 0, 1) := by decide +kernel
theorem dX7_between_51 : decode cX7_between 51 = .ok (.getfield 13, 3) := by decide +kernel
theorem dX7_between_54 : decode cX7_between 54 = .ok (.bipush 77, 2) := by decide +kernel
theorem dX7_between_56 : decode cX7_between 56 = .ok (.iaload, 1) := by decide +kernel
theorem dX7_between_57 : decode cX7_between 57 = .ok (.invokevirtual 91, 3) := by decide +kernel
theorem dX7_between_60 : decode cX7_between 60 = .ok (.ireturn, 1) := by decide +kernel
set_option maxRecDepth 20000 in
theorem ggX7_findClosest_X7_nameOf : GoodIn wsX7_findClosest wsX7_nameOf := goodIn_r _ [7, 8, 9, 6, 10] (by decide +kernel) (by decide +kernel)
set_option maxRecDepth 20000 in
theorem gX7_findClosest_X7_nameOf : GoodIn wsX7_findClosest (va_wsS RX7 146 yX7_nameOf wsX7_nameOf) := goodIn_app (goodIn_of _ (by decide +kernel)) ggX7_findClosest_X7_nameOf
set_option maxRecDepth 20000 in
theorem ggX7_findClosest_X7_at : GoodIn wsX7_findClosest wsX7_at := goodIn_r _ [10] (by decide +kernel) (by decide +kernel)
set_option maxRecDepth 20000 in
theorem gX7_findClosest_X7_at : GoodIn wsX7_findClosest (va_wsS RX7 79 yX7_at wsX7_at) := goodIn_app (goodIn_of _ (by decide +kernel)) ggX7_findClosest_X7_at
set_option maxRecDepth 20000 in
theorem ggX7_findClosest_X7_distanceTo_p0 : GoodIn wsX7_findClosest [.code yX7_distanceTo cX7_distanceTo 7 (some .int)] := goodIn_r _ [14] (by decide +kernel) (by decide +kernel)
theorem ggX7_findClosest_X7_distanceTo_p1 : GoodIn wsX7_findClosest wsX7_distanceTo_r1 := goodIn_r _ [15, 16, 17, 18, 6, 19, 20, 21, 22, 23, 24, 25, 26, 27, 28, 29, 30, 31, 8, 9, 10, 32, 33, 34] (by decide +kernel) (by decide +kernel)
theorem ggX7_findClosest_X7_distanceTo_p2 : GoodIn wsX7_findClosest wsX7_distanceTo_r2 := goodIn_r _ [35, 36, 37, 38, 39, 40, 41, 42, 43, 44, 45] (by decide +kernel) (by decide +kernel)
theorem ggX7_findClosest_X7_distanceTo_p3 : GoodIn wsX7_findClosest wsX70 := goodIn_r _ [46, 47, 48, 49, 50, 51, 52, 53, 54, 55, 56, 57, 58, 59, 60, 61, 62, 63, 64] (by decide +kernel) (by decide +kernel)
theorem ggX7_findClosest_X7_distanceTo : GoodIn wsX7_findClosest wsX7_distanceTo := (goodIn_c2 ggX7_findClosest_X7_distanceTo_p0 (goodIn_app (goodIn_app ggX7_findClosest_X7_distanceTo_p1 ggX7_findClosest_X7_distanceTo_p2) ggX7_findClosest_X7_distanceTo_p3))
set_option maxRecDepth 20000 in
theorem gX7_findClosest_X7_distanceTo : GoodIn wsX7_findClosest (wsV RX7 91 RX7 yX7_distanceTo wsX7_distanceTo) := goodIn_app (goodIn_of _ (by decide +kernel)) ggX7_findClosest_X7_distanceTo
theorem dX7_findClosest_0 : decode cX7_findClosest 0 = .ok (.aload_n 0, 1) := by decide +kernel
theorem dX7_findClosest_1 : decode cX7_findClosest 1 = .ok (.iconst (-1), 1) := by decide +kernel
theorem dX7_findClosest_2 : decode cX7_findClosest 2 = .ok (.putfield 206, 3) := by decide +kernel
theorem dX7_findClosest_5 : decode cX7_findClosest 5 = .ok (.aload_n 0, 1) := by decide +kernel
theorem dX7_findClosest_6 : decode cX7_findClosest 6 = .ok (.iconst (-1), 1) := by decide +kernel
theorem dX7_findClosest_7 : decode cX7_findClosest 7 = .ok (.putfield 209, 3) := by decide +kernel
theorem dX7_findClosest_10 : decode cX7_findClosest 10 = .ok (.iconst 0, 1) := by decide +kernel
theorem dX7_findClosest_11 : decode cX7_findClosest 11 = .ok (.istore_n 2, 1) := by decide +kernel
theorem dX7_findClosest_12 : decode cX7_findClosest 12 = .ok (.iload_n 2, 1) := by decide +kernel
theorem dX7_findClosest_13 : decode cX7_findClosest 13 = .ok (.aload_n 0, 1) := by decide +kernel
theorem dX7_findClosest_14 : decode cX7_findClosest 14 = .ok (.getfield 13, 3) := by decide +kernel
theorem dX7_findClosest_17 : decode cX7_findClosest 17 = .ok (.bipush 110, 2) := by decide +kernel
theorem dX7_findClosest_19 : decode cX7_findClosest 19 = .ok (.iaload, 1) := by decide +kernel
theorem dX7_findClosest_20 : decode cX7_findClosest 20 = .ok (.if_icmp .ge 133, 3) := by decide +kernel
theorem dX7_findClosest_23 : decode cX7_findClosest 23 = .ok (.iload_n 2, 1) := by decide +kernel
theorem dX7_findClosest_24 : decode cX7_findClosest 24 = .ok (.iconst 1, 1) := by decide +kernel
theorem dX7_findClosest_25 : decode cX7_findClosest 25 = .ok (.iadd, 1) := by decide +kernel
theorem dX7_findClosest_26 : decode cX7_findClosest 26 = .ok (.istore_n 3, 1) := by decide +kernel
theorem dX7_findClosest_27 : decode cX7_findClosest 27 = .ok (.iload_n 3, 1) := by decide +kernel
theorem dX7_findClosest_28 : decode cX7_findClosest 28 = .ok (.aload_n 0, 1) := by decide +kernel
theorem dX7_findClosest_29 : decode cX7_findClosest 29 = .ok (.getfield 13, 3) := by decide +kernel
theorem dX7_findClosest_32 : decode cX7_findClosest 32 = .ok (.bipush 110, 2) := by decide +kernel
theorem dX7_findClosest_34 : decode cX7_findClosest 34 = .ok (.iaload, 1) := by decide +kernel
theorem dX7_findClosest_35 : decode cX7_findClosest 35 = .ok (.if_icmp .ge 112, 3) := by decide +kernel
theorem dX7_findClosest_38 : decode cX7_findClosest 38 = .ok (.aload_n 0, 1) := by decide +kernel
theorem dX7_findClosest_39 : decode cX7_findClosest 39 = .ok (.getfield 13, 3) := by decide +kernel
theorem dX7_findClosest_42 : decode cX7_findClosest 42 = .ok (.iload_n 2, 1) := by decide +kernel
theorem dX7_findClosest_43 : decode cX7_findClosest 43 = .ok (.invokestatic 146, 3) := by decide +kernel
theorem dX7_findClosest_46 : decode cX7_findClosest 46 = .ok (.aload_n 0, 1) := by decide +kernel
theorem dX7_findClosest_47 : decode cX7_findClosest 47 = .ok (.getfield 13, 3) := by decide +kernel
theorem dX7_findClosest_50 : decode cX7_findClosest 50 = .ok (.iload_n 3, 1) := by decide +kernel
theorem dX7_findClosest_51 : decode cX7_findClosest 51 = .ok (.invokestatic 146, 3) := by decide +kernel
theorem dX7_findClosest_54 : decode cX7_findClosest 54 = .ok (.if_icmp .eq 87, 3) := by decide +kernel
theorem dX7_findClosest_57 : decode cX7_findClosest 57 = .ok (.aload_n 0, 1) := by decide +kernel
theorem dX7_findClosest_58 : decode cX7_findClosest 58 = .ok (.aload_n 0, 1) := by decide +kernel
theorem dX7_findClosest_59 : decode cX7_findClosest 59 = .ok (.getfield 13, 3) := by decide +kernel
theorem dX7_findClosest_62 : decode cX7_findClosest 62 = .ok (.iload_n 2, 1) := by decide +kernel
theorem dX7_findClosest_63 : decode cX7_findClosest 63 = .ok (.invokestatic 79, 3) := by decide +kernel
theorem dX7_findClosest_66 : decode cX7_findClosest 66 = .ok (.aload_n 0, 1) := by decide +kernel
theorem dX7_findClosest_67 : decode cX7_findClosest 67 = .ok (.getfield 13, 3) := by decide +kernel
theorem dX7_findClosest_70 : decode cX7_findClosest 70 = .ok (.iload_n 3, 1) := by decide +kernel
theorem dX7_findClosest_71 : decode cX7_findClosest 71 = .ok (.iload_n 1, 1) := by decide +kernel
theorem dX7_findClosest_72 : decode cX7_findClosest 72 = .ok (.invokevirtual 91, 3) := by decide +kernel
theorem dX7_findClosest_75 : decode cX7_findClosest 75 = .ok (.istore 4, 2) := by decide +kernel
theorem dX7_findClosest_77 : decode cX7_findClosest 77 = .ok (.aload_n 0, 1) := by decide +kernel
theorem dX7_findClosest_78 : decode cX7_findClosest 78 = .ok (.getfield 206, 3) := by decide +kernel
theorem dX7_findClosest_81 : decode cX7_findClosest 81 = .ok (.iconst (-1), 1) := by decide +kernel
theorem dX7_findClosest_82 : decode cX7_findClosest 82 = .ok (.if_icmp .eq 12, 3) := by decide +kernel
theorem dX7_findClosest_85 : decode cX7_findClosest 85 = .ok (.iload 4, 2) := by decide +kernel
theorem dX7_findClosest_87 : decode cX7_findClosest 87 = .ok (.aload_n 0, 1) := by decide +kernel
theorem dX7_findClosest_88 : decode cX7_findClosest 88 = .ok (.getfield 209, 3) := by decide +kernel
theorem dX7_findClosest_91 : decode cX7_findClosest 91 = .ok (.if_icmp .ge 7, 3) := by decide +kernel
theorem dX7_findClosest_94 : decode cX7_findClosest 94 = .ok (.iconst 1, 1) := by decide +kernel
theorem dX7_findClosest_95 : decode cX7_findClosest 95 = .ok (.goto 4, 3) := by decide +kernel
theorem dX7_findClosest_98 : decode cX7_findClosest 98 = .ok (.iconst 0, 1) := by decide +kernel
theorem dX7_findClosest_99 : decode cX7_findClosest 99 = .ok (.istore 5, 2) := by decide +kernel
theorem dX7_findClosest_101 : decode cX7_findClosest 101 = .ok (.aload_n 0, 1) := by decide +kernel
theorem dX7_findClosest_102 : decode cX7_findClosest 102 = .ok (.iload 5, 2) := by decide +kernel
theorem dX7_findClosest_104 : decode cX7_findClosest 104 = .ok (.ifCond .eq 12, 3) := by decide +kernel
theorem dX7_findClosest_107 : decode cX7_findClosest 107 = .ok (.bipush 100, 2) := by decide +kernel
theorem dX7_findClosest_109 : decode cX7_findClosest 109 = .ok (.iload_n 2, 1) := by decide +kernel
theorem dX7_findClosest_110 : decode cX7_findClosest 110 = .ok (.imul, 1) := by decide +kernel
theorem dX7_findClosest_111 : decode cX7_findClosest 111 = .ok (.iload_n 3, 1) := by decide +kernel
theorem dX7_findClosest_112 : decode cX7_findClosest 112 = .ok (.iadd, 1) := by decide +kernel
theorem dX7_findClosest_113 : decode cX7_findClosest 113 = .ok (.goto 7, 3) := by decide +kernel
theorem dX7_findClosest_116 : decode cX7_findClosest 116 = .ok (.aload_n 0, 1) := by decide +kernel
theorem dX7_findClosest_117 : decode cX7_findClosest 117 = .ok (.getfield 206, 3) := by decide +kernel
theorem dX7_findClosest_120 : decode cX7_findClosest 120 = .ok (.putfield 206, 3) := by decide +kernel
theorem dX7_findClosest_123 : decode cX7_findClosest 123 = .ok (.aload_n 0, 1) := by decide +kernel
theorem dX7_findClosest_124 : decode cX7_findClosest 124 = .ok (.iload 5, 2) := by decide +kernel
theorem dX7_findClosest_126 : decode cX7_findClosest 126 = .ok (.ifCond .eq 8, 3) := by decide +kernel
theorem dX7_findClosest_129 : decode cX7_findClosest 129 = .ok (.iload 4, 2) := by decide +kernel
theorem dX7_findClosest_131 : decode cX7_findClosest 131 = .ok (.goto 7, 3) := by decide +kernel
theorem dX7_findClosest_134 : decode cX7_findClosest 134 = .ok (.aload_n 0, 1) := by decide +kernel
theorem dX7_findClosest_135 : decode cX7_findClosest 135 = .ok (.getfield 209, 3) := by decide +kernel
theorem dX7_findClosest_138 : decode cX7_findClosest 138 = .ok (.putfield 209, 3) := by decide +kernel
theorem dX7_findClosest_141 : decode cX7_findClosest 141 = .ok (.iinc 3 1, 3) := by decide +kernel
theorem dX7_findClosest_144 : decode cX7_findClosest 144 = .ok (.goto (-117), 3) := by decide +kernel
theorem dX7_findClosest_147 : decode cX7_findClosest 147 = .ok (.iinc 2 1, 3) := by decide +kernel
theorem dX7_findClosest_150 : decode cX7_findClosest 150 = .ok (.goto (-138), 3) := by decide +kernel
theorem dX7_findClosest_153 : decode cX7_findClosest 153 = .ok (.return_, 1) := by decide +kernel
set_option maxRecDepth 20000 in
theorem ggX7_closest_X7_findClosest_p0 : GoodIn wsX7_closest [.code yX7_findClosest cX7_findClosest 6 none] := goodIn_r _ [8] (by decide +kernel) (by decide +kernel)
theorem ggX7_closest_X7_findClosest_p1 : GoodIn wsX7_closest wsX7_findClosest_r1 := goodIn_r _ [3, 9, 2, 10, 11, 7, 12, 13, 14, 15, 16, 17, 18, 19, 20, 21, 22, 23, 24, 25, 26, 27, 28, 29] (by decide +kernel) (by decide +kernel)
theorem ggX7_closest_X7_findClosest_p2 : GoodIn wsX7_closest wsX7_findClosest_r2 := goodIn_r _ [30, 31, 32, 33, 34, 35, 36, 37, 38, 39, 40, 41, 42, 43, 44, 45, 46, 47, 48, 49, 50] (by decide +kernel) (by decide +kernel)
theorem ggX7_closest_X7_findClosest_p3 : GoodIn wsX7_closest wsX70 := goodIn_r _ [51, 52, 53, 54, 55, 56, 57, 58, 59, 60, 61, 62, 63, 64, 65, 66, 67, 68, 69] (by decide +kernel) (by decide +kernel)
theorem ggX7_closest_X7_findClosest : GoodIn wsX7_closest wsX7_findClosest := (goodIn_c2 ggX7_closest_X7_findClosest_p0 (goodIn_app (goodIn_app ggX7_closest_X7_findClosest_p1 ggX7_closest_X7_findClosest_p2) ggX7_closest_X7_findClosest_p3))
set_option maxRecDepth 20000 in
theorem gX7_closest_X7_findClosest : GoodIn wsX7_closest (wsV RX7 212 RX7 yX7_findClosest wsX7_findClosest) := goodIn_app (goodIn_of _ (by decide +kernel)) ggX7_closest_X7_findClosest
theorem dX7_closest_0 : decode cX7_closest 0 = .ok (.aload_n 0, 1) := by decide +kernel
theorem dX7_closest_1 : decode cX7_closest 1 = .ok (.iconst 0, 1) := by decide +kernel
theorem dX7_closest_2 : decode cX7_closest 2 = .ok (.putfield 41, 3) := by decide +kernel
theorem dX7_closest_5 : decode cX7_closest 5 = .ok (.aload_n 0, 1) := by decide +kernel
theorem dX7_closest_6 : decode cX7_closest 6 = .ok (.aload_n 0, 1) := by decide +kernel
theorem dX7_closest_7 : decode cX7_closest 7 = .ok (.getfield 13, 3) := by decide +kernel
theorem dX7_closest_10 : decode cX7_closest 10 = .ok (.bipush 77, 2) := by decide +kernel
theorem dX7_closest_12 : decode cX7_closest 12 = .ok (.iaload, 1) := by decide +kernel
theorem dX7_closest_13 : decode cX7_closest 13 = .ok (.invokevirtual 212, 3) := by decide +kernel
theorem dX7_closest_16 : decode cX7_closest 16 = .ok (.aload_n 0, 1) := by decide +kernel
theorem dX7_closest_17 : decode cX7_closest 17 = .ok (.getfield 206, 3) := by decide +kernel
theorem dX7_closest_20 : decode cX7_closest 20 = .ok (.ireturn, 1) := by decide +kernel
set_option maxRecDepth 20000 in
theorem ggX7_byOthers_X7_at : GoodIn wsX7_byOthers wsX7_at := goodIn_r _ [8] (by decide +kernel) (by decide +kernel)
set_option maxRecDepth 20000 in
theorem gX7_byOthers_X7_at : GoodIn wsX7_byOthers (va_wsS RX7 79 yX7_at wsX7_at) := goodIn_app (goodIn_of _ (by decide +kernel)) ggX7_byOthers_X7_at
set_option maxRecDepth 20000 in
theorem ggX7_byOthers_X7_readFigure_p0 : GoodIn wsX7_byOthers [.code yX7_readFigure cX7_readFigure 9 none] := goodIn_r _ [12] (by decide +kernel) (by decide +kernel)
theorem ggX7_byOthers_X7_readFigure_p1 : GoodIn wsX7_byOthers wsX7_readFigure_r1 := goodIn_r _ [4, 13, 3, 14, 15, 16, 7, 17, 18, 19, 20, 21, 22, 23, 24, 25, 26, 27, 28, 29, 30, 31, 32, 33] (by decide +kernel) (by decide +kernel)
theorem ggX7_byOthers_X7_readFigure_p2 : GoodIn wsX7_byOthers wsX7_readFigure_r2 := goodIn_r _ [34, 5, 6, 8, 35, 36, 37, 38, 39, 40, 41, 42, 43, 44, 45, 46, 47, 48] (by decide +kernel) (by decide +kernel)
theorem ggX7_byOthers_X7_readFigure_p3 : GoodIn wsX7_byOthers wsX70 := goodIn_r _ [52, 53, 54, 55, 56, 57, 58, 59, 60, 61, 62, 63, 64, 65, 66, 67, 68, 69, 70] (by decide +kernel) (by decide +kernel)
theorem ggX7_byOthers_X7_readFigure : GoodIn wsX7_byOthers wsX7_readFigure := (goodIn_c2 ggX7_byOthers_X7_readFigure_p0 (goodIn_app (goodIn_app ggX7_byOthers_X7_readFigure_p1 ggX7_byOthers_X7_readFigure_p2) ggX7_byOthers_X7_readFigure_p3))
set_option maxRecDepth 20000 in
theorem gX7_byOthers_X7_readFigure : GoodIn wsX7_byOthers (wsV RX7 185 RX7 yX7_readFigure wsX7_readFigure) := goodIn_app (goodIn_of _ (by decide +kernel)) ggX7_byOthers_X7_readFigure
set_option maxRecDepth 20000 in
theorem ggX7_byOthers_X7_nameOf : GoodIn wsX7_byOthers wsX7_nameOf := goodIn_r _ [51, 5, 6, 7, 8] (by decide +kernel) (by decide +kernel)
set_option maxRecDepth 20000 in
theorem gX7_byOthers_X7_nameOf : GoodIn wsX7_byOthers (va_wsS RX7 146 yX7_nameOf wsX7_nameOf) := goodIn_app (goodIn_of _ (by decide +kernel)) ggX7_byOthers_X7_nameOf
theorem dX7_byOthers_0 : decode cX7_byOthers 0 = .ok (.aload_n 0, 1) := by decide +kernel
theorem dX7_byOthers_1 : decode cX7_byOthers 1 = .ok (.iconst 0, 1) := by decide +kernel
theorem dX7_byOthers_2 : decode cX7_byOthers 2 = .ok (.putfield 41, 3) := by decide +kernel
theorem dX7_byOthers_5 : decode cX7_byOthers 5 = .ok (.iconst 0, 1) := by decide +kernel
theorem dX7_byOthers_6 : decode cX7_byOthers 6 = .ok (.istore_n 1, 1) := by decide +kernel
theorem dX7_byOthers_7 : decode cX7_byOthers 7 = .ok (.iconst 0, 1) := by decide +kernel
theorem dX7_byOthers_8 : decode cX7_byOthers 8 = .ok (.istore_n 2, 1) := by decide +kernel
theorem dX7_byOthers_9 : decode cX7_byOthers 9 = .ok (.iload_n 2, 1) := by decide +kernel
theorem dX7_byOthers_10 : decode cX7_byOthers 10 = .ok (.aload_n 0, 1) := by decide +kernel
theorem dX7_byOthers_11 : decode cX7_byOthers 11 = .ok (.getfield 13, 3) := by decide +kernel
theorem dX7_byOthers_14 : decode cX7_byOthers 14 = .ok (.bipush 110, 2) := by decide +kernel
theorem dX7_byOthers_16 : decode cX7_byOthers 16 = .ok (.iaload, 1) := by decide +kernel
theorem dX7_byOthers_17 : decode cX7_byOthers 17 = .ok (.if_icmp .ge 63, 3) := by decide +kernel
theorem dX7_byOthers_20 : decode cX7_byOthers 20 = .ok (.aload_n 0, 1) := by decide +kernel
theorem dX7_byOthers_21 : decode cX7_byOthers 21 = .ok (.aload_n 0, 1) := by decide +kernel
theorem dX7_byOthers_22 : decode cX7_byOthers 22 = .ok (.getfield 13, 3) := by decide +kernel
theorem dX7_byOthers_25 : decode cX7_byOthers 25 = .ok (.iload_n 2, 1) := by decide +kernel
theorem dX7_byOthers_26 : decode cX7_byOthers 26 = .ok (.invokestatic 79, 3) := by decide +kernel
theorem dX7_byOthers_29 : decode cX7_byOthers 29 = .ok (.aload_n 0, 1) := by decide +kernel
theorem dX7_byOthers_30 : decode cX7_byOthers 30 = .ok (.getfield 13, 3) := by decide +kernel
theorem dX7_byOthers_33 : decode cX7_byOthers 33 = .ok (.iload_n 2, 1) := by decide +kernel
theorem dX7_byOthers_34 : decode cX7_byOthers 34 = .ok (.invokevirtual 185, 3) := by decide +kernel
theorem dX7_byOthers_37 : decode cX7_byOthers 37 = .ok (.iload_n 1, 1) := by decide +kernel
theorem dX7_byOthers_38 : decode cX7_byOthers 38 = .ok (.aload_n 0, 1) := by decide +kernel
theorem dX7_byOthers_39 : decode cX7_byOthers 39 = .ok (.getfield 95, 3) := by decide +kernel
theorem dX7_byOthers_42 : decode cX7_byOthers 42 = .ok (.ifCond .ne 29, 3) := by decide +kernel
theorem dX7_byOthers_45 : decode cX7_byOthers 45 = .ok (.aload_n 0, 1) := by decide +kernel
theorem dX7_byOthers_46 : decode cX7_byOthers 46 = .ok (.getfield 13, 3) := by decide +kernel
theorem dX7_byOthers_49 : decode cX7_byOthers 49 = .ok (.aload_n 0, 1) := by decide +kernel
theorem dX7_byOthers_50 : decode cX7_byOthers 50 = .ok (.getfield 85, 3) := by decide +kernel
theorem dX7_byOthers_53 : decode cX7_byOthers 53 = .ok (.invokestatic 146, 3) := by decide +kernel
theorem dX7_byOthers_56 : decode cX7_byOthers 56 = .ok (.aload_n 0, 1) := by decide +kernel
theorem dX7_byOthers_57 : decode cX7_byOthers 57 = .ok (.getfield 13, 3) := by decide +kernel
theorem dX7_byOthers_60 : decode cX7_byOthers 60 = .ok (.iload_n 2, 1) := by decide +kernel
theorem dX7_byOthers_61 : decode cX7_byOthers 61 = .ok (.invokestatic 146, 3) := by decide +kernel
theorem dX7_byOthers_64 : decode cX7_byOthers 64 = .ok (.if_icmp .ne 7, 3) := by decide +kernel
theorem dX7_byOthers_67 : decode cX7_byOthers 67 = .ok (.iconst 1, 1) := by decide +kernel
theorem dX7_byOthers_68 : decode cX7_byOthers 68 = .ok (.goto 4, 3) := by decide +kernel
theorem dX7_byOthers_71 : decode cX7_byOthers 71 = .ok (.iconst 0, 1) := by decide +kernel
theorem dX7_byOthers_72 : decode cX7_byOthers 72 = .ok (.iadd, 1) := by decide +kernel
theorem dX7_byOthers_73 : decode cX7_byOthers 73 = .ok (.istore_n 1, 1) := by decide +kernel
theorem dX7_byOthers_74 : decode cX7_byOthers 74 = .ok (.iinc 2 1, 3) := by decide +kernel
theorem dX7_byOthers_77 : decode cX7_byOthers 77 = .ok (.goto (-68), 3) := by decide +kernel
theorem dX7_byOthers_80 : decode cX7_byOthers 80 = .ok (.iload_n 1, 1) := by decide +kernel
theorem dX7_byOthers_81 : decode cX7_byOthers 81 = .ok (.ireturn, 1) := by decide +kernel
set_option maxRecDepth 20000 in
theorem ggX7_bestRuling_X7_samplesFit_p0 : GoodIn wsX7_bestRuling [.code yX7_samplesFit cX7_samplesFit 5 (some .boolean)] := goodIn_r _ [8] (by decide +kernel) (by decide +kernel)
theorem ggX7_bestRuling_X7_samplesFit_p1 : GoodIn wsX7_bestRuling [.fieldLink RX7 32 "RuledStrokesModel" "one" "[I", .methodLink RX7 79 yX7_at, .static yX7_at, .initialized RX7, .code yX7_at cX7_at 1 (some .int), .methodLink RX7 75 yX7_signature, .static yX7_signature, .code yX7_signature cX7_signature 8 (some .int), .methodLink RX7 57 yX7_next, .static yX7_next, .code yX7_next cX7_next 3 (some .int), .methodLink RX7 61 yX7_cross, .static yX7_cross, .code yX7_cross cX7_cross 13 (some .int), .methodLink RX7 49 yX7_size, .static yX7_size, .code yX7_size cX7_size 1 (some .int), .methodLink RX7 53 yX7_ahead, .static yX7_ahead, .code yX7_ahead cX7_ahead 4 (some .int)] := goodIn_r _ [9, 10, 11, 7, 12, 13, 14, 15, 16, 17, 18, 19, 20, 21, 22, 23, 24, 25, 26, 27] (by decide +kernel) (by decide +kernel)
theorem ggX7_bestRuling_X7_samplesFit_p2 : GoodIn wsX7_bestRuling wsX70 := goodIn_r _ [55, 56, 57, 58, 59, 60, 61, 62, 63, 64, 65, 66, 67, 68, 69, 70, 71, 72, 73] (by decide +kernel) (by decide +kernel)
theorem ggX7_bestRuling_X7_samplesFit : GoodIn wsX7_bestRuling wsX7_samplesFit := (goodIn_c2 ggX7_bestRuling_X7_samplesFit_p0 (goodIn_app ggX7_bestRuling_X7_samplesFit_p1 ggX7_bestRuling_X7_samplesFit_p2))
set_option maxRecDepth 20000 in
theorem gX7_bestRuling_X7_samplesFit : GoodIn wsX7_bestRuling (wsV RX7 197 RX7 yX7_samplesFit wsX7_samplesFit) := goodIn_app (goodIn_of _ (by decide +kernel)) ggX7_bestRuling_X7_samplesFit
set_option maxRecDepth 20000 in
theorem ggX7_bestRuling_X7_findClosest_p0 : GoodIn wsX7_bestRuling [.code yX7_findClosest cX7_findClosest 6 none] := goodIn_r _ [31] (by decide +kernel) (by decide +kernel)
theorem ggX7_bestRuling_X7_findClosest_p1 : GoodIn wsX7_bestRuling wsX7_findClosest_r1 := goodIn_r _ [32, 3, 2, 33, 34, 7, 35, 10, 11, 12, 36, 37, 38, 39, 9, 40, 13, 14, 15, 16, 17, 18, 19, 20] (by decide +kernel) (by decide +kernel)
theorem ggX7_bestRuling_X7_findClosest_p2 : GoodIn wsX7_bestRuling wsX7_findClosest_r2 := goodIn_r _ [21, 22, 23, 24, 25, 26, 27, 41, 42, 43, 44, 45, 46, 47, 48, 49, 50, 51, 52, 53, 54] (by decide +kernel) (by decide +kernel)
theorem ggX7_bestRuling_X7_findClosest_p3 : GoodIn wsX7_bestRuling wsX70 := goodIn_r _ [55, 56, 57, 58, 59, 60, 61, 62, 63, 64, 65, 66, 67, 68, 69, 70, 71, 72, 73] (by decide +kernel) (by decide +kernel)
theorem ggX7_bestRuling_X7_findClosest : GoodIn wsX7_bestRuling wsX7_findClosest := (goodIn_c2 ggX7_bestRuling_X7_findClosest_p0 (goodIn_app (goodIn_app ggX7_bestRuling_X7_findClosest_p1 ggX7_bestRuling_X7_findClosest_p2) ggX7_bestRuling_X7_findClosest_p3))
set_option maxRecDepth 20000 in
theorem gX7_bestRuling_X7_findClosest : GoodIn wsX7_bestRuling (wsV RX7 212 RX7 yX7_findClosest wsX7_findClosest) := goodIn_app (goodIn_of _ (by decide +kernel)) ggX7_bestRuling_X7_findClosest
theorem dX7_bestRuling_0 : decode cX7_bestRuling 0 = .ok (.aload_n 0, 1) := by decide +kernel
theorem dX7_bestRuling_1 : decode cX7_bestRuling 1 = .ok (.iconst 0, 1) := by decide +kernel
theorem dX7_bestRuling_2 : decode cX7_bestRuling 2 = .ok (.putfield 41, 3) := by decide +kernel
theorem dX7_bestRuling_5 : decode cX7_bestRuling 5 = .ok (.iconst (-1), 1) := by decide +kernel
theorem dX7_bestRuling_6 : decode cX7_bestRuling 6 = .ok (.istore_n 1, 1) := by decide +kernel
theorem dX7_bestRuling_7 : decode cX7_bestRuling 7 = .ok (.iconst (-1), 1) := by decide +kernel
theorem dX7_bestRuling_8 : decode cX7_bestRuling 8 = .ok (.istore_n 2, 1) := by decide +kernel
theorem dX7_bestRuling_9 : decode cX7_bestRuling 9 = .ok (.iconst 5, 1) := by decide +kernel
theorem dX7_bestRuling_10 : decode cX7_bestRuling 10 = .ok (.istore_n 3, 1) := by decide +kernel
theorem dX7_bestRuling_11 : decode cX7_bestRuling 11 = .ok (.iload_n 3, 1) := by decide +kernel
theorem dX7_bestRuling_12 : decode cX7_bestRuling 12 = .ok (.bipush 20, 2) := by decide +kernel
theorem dX7_bestRuling_14 : decode cX7_bestRuling 14 = .ok (.if_icmp .gt 57, 3) := by decide +kernel
theorem dX7_bestRuling_17 : decode cX7_bestRuling 17 = .ok (.aload_n 0, 1) := by decide +kernel
theorem dX7_bestRuling_18 : decode cX7_bestRuling 18 = .ok (.aload_n 0, 1) := by decide +kernel
theorem dX7_bestRuling_19 : decode cX7_bestRuling 19 = .ok (.getfield 13, 3) := by decide +kernel
theorem dX7_bestRuling_22 : decode cX7_bestRuling 22 = .ok (.iload_n 3, 1) := by decide +kernel
theorem dX7_bestRuling_23 : decode cX7_bestRuling 23 = .ok (.invokevirtual 197, 3) := by decide +kernel
theorem dX7_bestRuling_26 : decode cX7_bestRuling 26 = .ok (.ifCond .eq 39, 3) := by decide +kernel
theorem dX7_bestRuling_29 : decode cX7_bestRuling 29 = .ok (.aload_n 0, 1) := by decide +kernel
theorem dX7_bestRuling_30 : decode cX7_bestRuling 30 = .ok (.iload_n 3, 1) := by decide +kernel
theorem dX7_bestRuling_31 : decode cX7_bestRuling 31 = .ok (.invokevirtual 212, 3) := by decide +kernel
theorem dX7_bestRuling_34 : decode cX7_bestRuling 34 = .ok (.aload_n 0, 1) := by decide +kernel
theorem dX7_bestRuling_35 : decode cX7_bestRuling 35 = .ok (.getfield 209, 3) := by decide +kernel
theorem dX7_bestRuling_38 : decode cX7_bestRuling 38 = .ok (.iload_n 2, 1) := by decide +kernel
theorem dX7_bestRuling_39 : decode cX7_bestRuling 39 = .ok (.if_icmp .le 7, 3) := by decide +kernel
theorem dX7_bestRuling_42 : decode cX7_bestRuling 42 = .ok (.iload_n 3, 1) := by decide +kernel
theorem dX7_bestRuling_43 : decode cX7_bestRuling 43 = .ok (.goto 4, 3) := by decide +kernel
theorem dX7_bestRuling_46 : decode cX7_bestRuling 46 = .ok (.iload_n 1, 1) := by decide +kernel
theorem dX7_bestRuling_47 : decode cX7_bestRuling 47 = .ok (.istore_n 1, 1) := by decide +kernel
theorem dX7_bestRuling_48 : decode cX7_bestRuling 48 = .ok (.aload_n 0, 1) := by decide +kernel
theorem dX7_bestRuling_49 : decode cX7_bestRuling 49 = .ok (.getfield 209, 3) := by decide +kernel
theorem dX7_bestRuling_52 : decode cX7_bestRuling 52 = .ok (.iload_n 2, 1) := by decide +kernel
theorem dX7_bestRuling_53 : decode cX7_bestRuling 53 = .ok (.if_icmp .le 10, 3) := by decide +kernel
theorem dX7_bestRuling_56 : decode cX7_bestRuling 56 = .ok (.aload_n 0, 1) := by decide +kernel
theorem dX7_bestRuling_57 : decode cX7_bestRuling 57 = .ok (.getfield 209, 3) := by decide +kernel
theorem dX7_bestRuling_60 : decode cX7_bestRuling 60 = .ok (.goto 4, 3) := by decide +kernel
theorem dX7_bestRuling_63 : decode cX7_bestRuling 63 = .ok (.iload_n 2, 1) := by decide +kernel
theorem dX7_bestRuling_64 : decode cX7_bestRuling 64 = .ok (.istore_n 2, 1) := by decide +kernel
theorem dX7_bestRuling_65 : decode cX7_bestRuling 65 = .ok (.iinc 3 1, 3) := by decide +kernel
theorem dX7_bestRuling_68 : decode cX7_bestRuling 68 = .ok (.goto (-57), 3) := by decide +kernel
theorem dX7_bestRuling_71 : decode cX7_bestRuling 71 = .ok (.iload_n 1, 1) := by decide +kernel
theorem dX7_bestRuling_72 : decode cX7_bestRuling 72 = .ok (.ireturn, 1) := by decide +kernel
set_option maxRecDepth 20000 in
theorem ggX7_mirrored_X7_signature : GoodIn wsX7_mirrored wsX7_signature := goodIn_r _ [10, 11, 12, 9, 13, 14, 15, 16, 17, 18, 19, 20, 21, 22] (by decide +kernel) (by decide +kernel)
set_option maxRecDepth 20000 in
theorem gX7_mirrored_X7_signature : GoodIn wsX7_mirrored (va_wsS RX7 75 yX7_signature wsX7_signature) := goodIn_app (goodIn_of _ (by decide +kernel)) ggX7_mirrored_X7_signature
set_option maxRecDepth 20000 in
theorem ggX7_mirrored_X7_readFigure_p0 : GoodIn wsX7_mirrored [.code yX7_readFigure cX7_readFigure 9 none] := goodIn_r _ [26] (by decide +kernel) (by decide +kernel)
theorem ggX7_mirrored_X7_readFigure_p1 : GoodIn wsX7_mirrored wsX7_readFigure_r1 := goodIn_r _ [6, 27, 5, 28, 29, 30, 9, 31, 4, 32, 7, 8, 10, 11, 12, 13, 14, 15, 16, 17, 18, 19, 20, 21] (by decide +kernel) (by decide +kernel)
theorem ggX7_mirrored_X7_readFigure_p2 : GoodIn wsX7_mirrored wsX7_readFigure_r2 := goodIn_r _ [22, 33, 34, 35, 36, 37, 38, 39, 40, 41, 42, 43, 44, 45, 46, 47, 48, 49] (by decide +kernel) (by decide +kernel)
theorem ggX7_mirrored_X7_readFigure_p3 : GoodIn wsX7_mirrored wsX70 := goodIn_r _ [53, 54, 55, 56, 57, 58, 59, 60, 61, 62, 63, 64, 65, 66, 67, 68, 69, 70, 71] (by decide +kernel) (by decide +kernel)
theorem ggX7_mirrored_X7_readFigure : GoodIn wsX7_mirrored wsX7_readFigure := (goodIn_c2 ggX7_mirrored_X7_readFigure_p0 (goodIn_app (goodIn_app ggX7_mirrored_X7_readFigure_p1 ggX7_mirrored_X7_readFigure_p2) ggX7_mirrored_X7_readFigure_p3))
set_option maxRecDepth 20000 in
theorem gX7_mirrored_X7_readFigure : GoodIn wsX7_mirrored (wsV RX7 185 RX7 yX7_readFigure wsX7_readFigure) := goodIn_app (goodIn_of _ (by decide +kernel)) ggX7_mirrored_X7_readFigure
set_option maxRecDepth 20000 in
theorem ggX7_mirrored_X7_nameOf : GoodIn wsX7_mirrored wsX7_nameOf := goodIn_r _ [52, 33, 34, 9, 35] (by decide +kernel) (by decide +kernel)
set_option maxRecDepth 20000 in
theorem gX7_mirrored_X7_nameOf : GoodIn wsX7_mirrored (va_wsS RX7 146 yX7_nameOf wsX7_nameOf) := goodIn_app (goodIn_of _ (by decide +kernel)) ggX7_mirrored_X7_nameOf
theorem dX7_mirrored_0 : decode cX7_mirrored 0 = .ok (.aload_n 0, 1) := by decide +kernel
theorem dX7_mirrored_1 : decode cX7_mirrored 1 = .ok (.iconst 0, 1) := by decide +kernel
theorem dX7_mirrored_2 : decode cX7_mirrored 2 = .ok (.putfield 41, 3) := by decide +kernel
theorem dX7_mirrored_5 : decode cX7_mirrored 5 = .ok (.iconst 0, 1) := by decide +kernel
theorem dX7_mirrored_6 : decode cX7_mirrored 6 = .ok (.istore_n 1, 1) := by decide +kernel
theorem dX7_mirrored_7 : decode cX7_mirrored 7 = .ok (.iload_n 1, 1) := by decide +kernel
theorem dX7_mirrored_8 : decode cX7_mirrored 8 = .ok (.bipush 76, 2) := by decide +kernel
theorem dX7_mirrored_10 : decode cX7_mirrored 10 = .ok (.if_icmp .ge 21, 3) := by decide +kernel
theorem dX7_mirrored_13 : decode cX7_mirrored 13 = .ok (.aload_n 0, 1) := by decide +kernel
theorem dX7_mirrored_14 : decode cX7_mirrored 14 = .ok (.getfield 29, 3) := by decide +kernel
theorem dX7_mirrored_17 : decode cX7_mirrored 17 = .ok (.iload_n 1, 1) := by decide +kernel
theorem dX7_mirrored_18 : decode cX7_mirrored 18 = .ok (.aload_n 0, 1) := by decide +kernel
theorem dX7_mirrored_19 : decode cX7_mirrored 19 = .ok (.getfield 13, 3) := by decide +kernel
theorem dX7_mirrored_22 : decode cX7_mirrored 22 = .ok (.iload_n 1, 1) := by decide +kernel
theorem dX7_mirrored_23 : decode cX7_mirrored 23 = .ok (.iaload, 1) := by decide +kernel
theorem dX7_mirrored_24 : decode cX7_mirrored 24 = .ok (.iastore, 1) := by decide +kernel
theorem dX7_mirrored_25 : decode cX7_mirrored 25 = .ok (.iinc 1 1, 3) := by decide +kernel
theorem dX7_mirrored_28 : decode cX7_mirrored 28 = .ok (.goto (-21), 3) := by decide +kernel
theorem dX7_mirrored_31 : decode cX7_mirrored 31 = .ok (.iconst 0, 1) := by decide +kernel
theorem dX7_mirrored_32 : decode cX7_mirrored 32 = .ok (.istore_n 1, 1) := by decide +kernel
theorem dX7_mirrored_33 : decode cX7_mirrored 33 = .ok (.iload_n 1, 1) := by decide +kernel
theorem dX7_mirrored_34 : decode cX7_mirrored 34 = .ok (.aload_n 0, 1) := by decide +kernel
theorem dX7_mirrored_35 : decode cX7_mirrored 35 = .ok (.getfield 29, 3) := by decide +kernel
theorem dX7_mirrored_38 : decode cX7_mirrored 38 = .ok (.iconst 0, 1) := by decide +kernel
theorem dX7_mirrored_39 : decode cX7_mirrored 39 = .ok (.iaload, 1) := by decide +kernel
theorem dX7_mirrored_40 : decode cX7_mirrored 40 = .ok (.if_icmp .ge 55, 3) := by decide +kernel
theorem dX7_mirrored_43 : decode cX7_mirrored 43 = .ok (.iconst 0, 1) := by decide +kernel
theorem dX7_mirrored_44 : decode cX7_mirrored 44 = .ok (.istore_n 2, 1) := by decide +kernel
theorem dX7_mirrored_45 : decode cX7_mirrored 45 = .ok (.iload_n 2, 1) := by decide +kernel
theorem dX7_mirrored_46 : decode cX7_mirrored 46 = .ok (.aload_n 0, 1) := by decide +kernel
theorem dX7_mirrored_47 : decode cX7_mirrored 47 = .ok (.getfield 29, 3) := by decide +kernel
theorem dX7_mirrored_50 : decode cX7_mirrored 50 = .ok (.iconst 1, 1) := by decide +kernel
theorem dX7_mirrored_51 : decode cX7_mirrored 51 = .ok (.iload_n 1, 1) := by decide +kernel
theorem dX7_mirrored_52 : decode cX7_mirrored 52 = .ok (.iadd, 1) := by decide +kernel
theorem dX7_mirrored_53 : decode cX7_mirrored 53 = .ok (.iaload, 1) := by decide +kernel
theorem dX7_mirrored_54 : decode cX7_mirrored 54 = .ok (.if_icmp .ge 35, 3) := by decide +kernel
theorem dX7_mirrored_57 : decode cX7_mirrored 57 = .ok (.iconst 4, 1) := by decide +kernel
theorem dX7_mirrored_58 : decode cX7_mirrored 58 = .ok (.bipush 24, 2) := by decide +kernel
theorem dX7_mirrored_60 : decode cX7_mirrored 60 = .ok (.iload_n 1, 1) := by decide +kernel
theorem dX7_mirrored_61 : decode cX7_mirrored 61 = .ok (.imul, 1) := by decide +kernel
theorem dX7_mirrored_62 : decode cX7_mirrored 62 = .ok (.iadd, 1) := by decide +kernel
theorem dX7_mirrored_63 : decode cX7_mirrored 63 = .ok (.iconst 2, 1) := by decide +kernel
theorem dX7_mirrored_64 : decode cX7_mirrored 64 = .ok (.iload_n 2, 1) := by decide +kernel
theorem dX7_mirrored_65 : decode cX7_mirrored 65 = .ok (.imul, 1) := by decide +kernel
theorem dX7_mirrored_66 : decode cX7_mirrored 66 = .ok (.iadd, 1) := by decide +kernel
theorem dX7_mirrored_67 : decode cX7_mirrored 67 = .ok (.istore_n 3, 1) := by decide +kernel
theorem dX7_mirrored_68 : decode cX7_mirrored 68 = .ok (.aload_n 0, 1) := by decide +kernel
theorem dX7_mirrored_69 : decode cX7_mirrored 69 = .ok (.getfield 29, 3) := by decide +kernel
theorem dX7_mirrored_72 : decode cX7_mirrored 72 = .ok (.iload_n 3, 1) := by decide +kernel
theorem dX7_mirrored_73 : decode cX7_mirrored 73 = .ok (.bipush 60, 2) := by decide +kernel
theorem dX7_mirrored_75 : decode cX7_mirrored 75 = .ok (.aload_n 0, 1) := by decide +kernel
theorem dX7_mirrored_76 : decode cX7_mirrored 76 = .ok (.getfield 29, 3) := by decide +kernel
theorem dX7_mirrored_79 : decode cX7_mirrored 79 = .ok (.iload_n 3, 1) := by decide +kernel
theorem dX7_mirrored_80 : decode cX7_mirrored 80 = .ok (.iaload, 1) := by decide +kernel
theorem dX7_mirrored_81 : decode cX7_mirrored 81 = .ok (.isub, 1) := by decide +kernel
theorem dX7_mirrored_82 : decode cX7_mirrored 82 = .ok (.iastore, 1) := by decide +kernel
theorem dX7_mirrored_83 : decode cX7_mirrored 83 = .ok (.iinc 2 1, 3) := by decide +kernel
theorem dX7_mirrored_86 : decode cX7_mirrored 86 = .ok (.goto (-41), 3) := by decide +kernel
theorem dX7_mirrored_89 : decode cX7_mirrored 89 = .ok (.iinc 1 1, 3) := by decide +kernel
theorem dX7_mirrored_92 : decode cX7_mirrored 92 = .ok (.goto (-59), 3) := by decide +kernel
theorem dX7_mirrored_95 : decode cX7_mirrored 95 = .ok (.aload_n 0, 1) := by decide +kernel
theorem dX7_mirrored_96 : decode cX7_mirrored 96 = .ok (.getfield 29, 3) := by decide +kernel
theorem dX7_mirrored_99 : decode cX7_mirrored 99 = .ok (.iconst 0, 1) := by decide +kernel
theorem dX7_mirrored_100 : decode cX7_mirrored 100 = .ok (.aload_n 0, 1) := by decide +kernel
theorem dX7_mirrored_101 : decode cX7_mirrored 101 = .ok (.getfield 13, 3) := by decide +kernel
theorem dX7_mirrored_104 : decode cX7_mirrored 104 = .ok (.bipush 77, 2) := by decide +kernel
theorem dX7_mirrored_106 : decode cX7_mirrored 106 = .ok (.iaload, 1) := by decide +kernel
theorem dX7_mirrored_107 : decode cX7_mirrored 107 = .ok (.aload_n 0, 1) := by decide +kernel
theorem dX7_mirrored_108 : decode cX7_mirrored 108 = .ok (.getfield 32, 3) := by decide +kernel
theorem dX7_mirrored_111 : decode cX7_mirrored 111 = .ok (.invokestatic 75, 3) := by decide +kernel
theorem dX7_mirrored_114 : decode cX7_mirrored 114 = .ok (.bipush 40, 2) := by decide +kernel
theorem dX7_mirrored_116 : decode cX7_mirrored 116 = .ok (.if_icmp .le 5, 3) := by decide +kernel
theorem dX7_mirrored_119 : decode cX7_mirrored 119 = .ok (.iconst (-1), 1) := by decide +kernel
theorem dX7_mirrored_120 : decode cX7_mirrored 120 = .ok (.ireturn, 1) := by decide +kernel
theorem dX7_mirrored_121 : decode cX7_mirrored 121 = .ok (.aload_n 0, 1) := by decide +kernel
theorem dX7_mirrored_122 : decode cX7_mirrored 122 = .ok (.aload_n 0, 1) := by decide +kernel
theorem dX7_mirrored_123 : decode cX7_mirrored 123 = .ok (.getfield 29, 3) := by decide +kernel
theorem dX7_mirrored_126 : decode cX7_mirrored 126 = .ok (.iconst 0, 1) := by decide +kernel
theorem dX7_mirrored_127 : decode cX7_mirrored 127 = .ok (.aload_n 0, 1) := by decide +kernel
theorem dX7_mirrored_128 : decode cX7_mirrored 128 = .ok (.getfield 13, 3) := by decide +kernel
theorem dX7_mirrored_131 : decode cX7_mirrored 131 = .ok (.iconst (-1), 1) := by decide +kernel
theorem dX7_mirrored_132 : decode cX7_mirrored 132 = .ok (.invokevirtual 185, 3) := by decide +kernel
theorem dX7_mirrored_135 : decode cX7_mirrored 135 = .ok (.aload_n 0, 1) := by decide +kernel
theorem dX7_mirrored_136 : decode cX7_mirrored 136 = .ok (.getfield 95, 3) := by decide +kernel
theorem dX7_mirrored_139 : decode cX7_mirrored 139 = .ok (.ifCond .ne 17, 3) := by decide +kernel
theorem dX7_mirrored_142 : decode cX7_mirrored 142 = .ok (.aload_n 0, 1) := by decide +kernel
theorem dX7_mirrored_143 : decode cX7_mirrored 143 = .ok (.getfield 13, 3) := by decide +kernel
theorem dX7_mirrored_146 : decode cX7_mirrored 146 = .ok (.aload_n 0, 1) := by decide +kernel
theorem dX7_mirrored_147 : decode cX7_mirrored 147 = .ok (.getfield 85, 3) := by decide +kernel
theorem dX7_mirrored_150 : decode cX7_mirrored 150 = .ok (.invokestatic 146, 3) := by decide +kernel
theorem dX7_mirrored_153 : decode cX7_mirrored 153 = .ok (.goto 4, 3) := by decide +kernel
theorem dX7_mirrored_156 : decode cX7_mirrored 156 = .ok (.iconst (-1), 1) := by decide +kernel
theorem dX7_mirrored_157 : decode cX7_mirrored 157 = .ok (.ireturn, 1) := by decide +kernel
set_option maxRecDepth 20000 in
theorem ggX7_command_X7_isPoint : GoodIn wsX7_command wsX7_isPoint := goodIn_r _ [8, 9, 10, 11, 7, 12] (by decide +kernel) (by decide +kernel)
set_option maxRecDepth 20000 in
theorem gX7_command_X7_isPoint : GoodIn wsX7_command (va_wsS RX7 165 yX7_isPoint wsX7_isPoint) := goodIn_app (goodIn_of _ (by decide +kernel)) ggX7_command_X7_isPoint
set_option maxRecDepth 20000 in
theorem ggX7_command_X7_layPoint_p0 : GoodIn wsX7_command [.code yX7_layPoint cX7_layPoint 7 (some .boolean)] := goodIn_r _ [16] (by decide +kernel) (by decide +kernel)
theorem ggX7_command_X7_layPoint_p1 : GoodIn wsX7_command [.fieldLink RX7 32 "RuledStrokesModel" "one" "[I", .methodLink RX7 75 yX7_signature, .static yX7_signature, .initialized RX7, .code yX7_signature cX7_signature 8 (some .int), .methodLink RX7 57 yX7_next, .static yX7_next, .code yX7_next cX7_next 3 (some .int), .methodLink RX7 61 yX7_cross, .static yX7_cross, .code yX7_cross cX7_cross 13 (some .int), .methodLink RX7 49 yX7_size, .static yX7_size, .code yX7_size cX7_size 1 (some .int), .methodLink RX7 53 yX7_ahead, .static yX7_ahead, .code yX7_ahead cX7_ahead 4 (some .int)] := goodIn_r _ [17, 18, 19, 7, 20, 21, 22, 23, 24, 25, 26, 27, 28, 29, 30, 31, 32] (by decide +kernel) (by decide +kernel)
theorem ggX7_command_X7_layPoint_p2 : GoodIn wsX7_command wsX70 := goodIn_r _ [96, 97, 98, 99, 100, 101, 102, 103, 104, 105, 106, 107, 108, 109, 110, 111, 112, 113, 114] (by decide +kernel) (by decide +kernel)
theorem ggX7_command_X7_layPoint : GoodIn wsX7_command wsX7_layPoint := (goodIn_c2 ggX7_command_X7_layPoint_p0 (goodIn_app ggX7_command_X7_layPoint_p1 ggX7_command_X7_layPoint_p2))
set_option maxRecDepth 20000 in
theorem gX7_command_X7_layPoint : GoodIn wsX7_command (wsV RX7 169 RX7 yX7_layPoint wsX7_layPoint) := goodIn_app (goodIn_of _ (by decide +kernel)) ggX7_command_X7_layPoint
set_option maxRecDepth 20000 in
theorem ggX7_command_X7_canLearn_p0 : GoodIn wsX7_command [.code yX7_canLearn cX7_canLearn 4 (some .boolean)] := goodIn_r _ [36] (by decide +kernel) (by decide +kernel)
theorem ggX7_command_X7_canLearn_p1 : GoodIn wsX7_command wsX7_canLearn_r1 := goodIn_r _ [37, 38, 7, 39, 40, 41, 42, 43, 44, 45, 46, 17, 47, 18, 19, 20, 21, 22, 23, 24, 25, 26, 27, 28] (by decide +kernel) (by decide +kernel)
theorem ggX7_command_X7_canLearn_p2 : GoodIn wsX7_command wsX7_canLearn_r2 := goodIn_r _ [29, 30, 31, 32, 48, 49, 50, 51, 52, 53, 54, 55, 56, 57, 58, 59, 60, 61] (by decide +kernel) (by decide +kernel)
theorem ggX7_command_X7_canLearn_p3 : GoodIn wsX7_command wsX70 := goodIn_r _ [96, 97, 98, 99, 100, 101, 102, 103, 104, 105, 106, 107, 108, 109, 110, 111, 112, 113, 114] (by decide +kernel) (by decide +kernel)
theorem ggX7_command_X7_canLearn : GoodIn wsX7_command wsX7_canLearn := (goodIn_c2 ggX7_command_X7_canLearn_p0 (goodIn_app (goodIn_app ggX7_command_X7_canLearn_p1 ggX7_command_X7_canLearn_p2) ggX7_command_X7_canLearn_p3))
set_option maxRecDepth 20000 in
theorem gX7_command_X7_canLearn : GoodIn wsX7_command (wsV RX7 176 RX7 yX7_canLearn wsX7_canLearn) := goodIn_app (goodIn_of _ (by decide +kernel)) ggX7_command_X7_canLearn
set_option maxRecDepth 20000 in
theorem ggX7_command_X7_learnOn : GoodIn wsX7_command wsX7_learnOn := goodIn_r _ [64, 40, 41, 7, 42, 65, 66, 67] (by decide +kernel) (by decide +kernel)
set_option maxRecDepth 20000 in
theorem gX7_command_X7_learnOn : GoodIn wsX7_command (va_wsS RX7 179 yX7_learnOn wsX7_learnOn) := goodIn_app (goodIn_of _ (by decide +kernel)) ggX7_command_X7_learnOn
set_option maxRecDepth 20000 in
theorem ggX7_command_X7_isSample : GoodIn wsX7_command wsX7_isSample := goodIn_r _ [70, 10, 11, 7, 12] (by decide +kernel) (by decide +kernel)
set_option maxRecDepth 20000 in
theorem gX7_command_X7_isSample : GoodIn wsX7_command (va_wsS RX7 140 yX7_isSample wsX7_isSample) := goodIn_app (goodIn_of _ (by decide +kernel)) ggX7_command_X7_isSample
set_option maxRecDepth 20000 in
theorem ggX7_command_X7_forgetOn : GoodIn wsX7_command wsX7_forgetOn := goodIn_r _ [73, 40, 41, 7, 42] (by decide +kernel) (by decide +kernel)
set_option maxRecDepth 20000 in
theorem gX7_command_X7_forgetOn : GoodIn wsX7_command (va_wsS RX7 182 yX7_forgetOn wsX7_forgetOn) := goodIn_app (goodIn_of _ (by decide +kernel)) ggX7_command_X7_forgetOn
set_option maxRecDepth 20000 in
theorem ggX7_command_X7_isSetting : GoodIn wsX7_command wsX7_isSetting := goodIn_r _ [76, 77, 78, 79, 10, 11, 7, 12] (by decide +kernel) (by decide +kernel)
set_option maxRecDepth 20000 in
theorem gX7_command_X7_isSetting : GoodIn wsX7_command (va_wsS RX7 200 yX7_isSetting wsX7_isSetting) := goodIn_app (goodIn_of _ (by decide +kernel)) ggX7_command_X7_isSetting
set_option maxRecDepth 20000 in
theorem ggX7_command_X7_canSet_p0 : GoodIn wsX7_command [.code yX7_canSet cX7_canSet 4 (some .boolean)] := goodIn_r _ [83] (by decide +kernel) (by decide +kernel)
theorem ggX7_command_X7_canSet_p1 : GoodIn wsX7_command [.fieldLink RX7 32 "RuledStrokesModel" "one" "[I", .methodLink RX7 75 yX7_signature, .static yX7_signature, .initialized RX7, .code yX7_signature cX7_signature 8 (some .int), .methodLink RX7 57 yX7_next, .static yX7_next, .code yX7_next cX7_next 3 (some .int), .methodLink RX7 61 yX7_cross, .static yX7_cross, .code yX7_cross cX7_cross 13 (some .int), .methodLink RX7 49 yX7_size, .static yX7_size, .code yX7_size cX7_size 1 (some .int), .methodLink RX7 53 yX7_ahead, .static yX7_ahead, .code yX7_ahead cX7_ahead 4 (some .int), .methodLink RX7 197 yX7_samplesFit, .instanceMethod yX7_samplesFit, .selects RX7 yX7_samplesFit yX7_samplesFit, .code yX7_samplesFit cX7_samplesFit 5 (some .boolean), .methodLink RX7 79 yX7_at, .static yX7_at, .code yX7_at cX7_at 1 (some .int)] := goodIn_r _ [17, 18, 19, 7, 20, 21, 22, 23, 24, 25, 26, 27, 28, 29, 30, 31, 32, 84, 85, 86, 87, 40, 41, 42] (by decide +kernel) (by decide +kernel)
theorem ggX7_command_X7_canSet_p2 : GoodIn wsX7_command wsX70 := goodIn_r _ [96, 97, 98, 99, 100, 101, 102, 103, 104, 105, 106, 107, 108, 109, 110, 111, 112, 113, 114] (by decide +kernel) (by decide +kernel)
theorem ggX7_command_X7_canSet : GoodIn wsX7_command wsX7_canSet := (goodIn_c2 ggX7_command_X7_canSet_p0 (goodIn_app ggX7_command_X7_canSet_p1 ggX7_command_X7_canSet_p2))
set_option maxRecDepth 20000 in
theorem gX7_command_X7_canSet : GoodIn wsX7_command (wsV RX7 203 RX7 yX7_canSet wsX7_canSet) := goodIn_app (goodIn_of _ (by decide +kernel)) ggX7_command_X7_canSet
set_option maxRecDepth 20000 in
theorem ggX7_command_X7_readFigure_p0 : GoodIn wsX7_command [.code yX7_readFigure cX7_readFigure 9 none] := goodIn_r _ [91] (by decide +kernel) (by decide +kernel)
theorem ggX7_command_X7_readFigure_p1 : GoodIn wsX7_command wsX7_readFigure_r1 := goodIn_r _ [3, 4, 2, 43, 44, 45, 7, 46, 17, 47, 18, 19, 20, 21, 22, 23, 24, 25, 26, 27, 28, 29, 30, 31] (by decide +kernel) (by decide +kernel)
theorem ggX7_command_X7_readFigure_p2 : GoodIn wsX7_command wsX7_readFigure_r2 := goodIn_r _ [32, 40, 41, 42, 48, 49, 50, 51, 52, 53, 54, 55, 56, 57, 58, 59, 60, 61] (by decide +kernel) (by decide +kernel)
theorem ggX7_command_X7_readFigure_p3 : GoodIn wsX7_command wsX70 := goodIn_r _ [96, 97, 98, 99, 100, 101, 102, 103, 104, 105, 106, 107, 108, 109, 110, 111, 112, 113, 114] (by decide +kernel) (by decide +kernel)
theorem ggX7_command_X7_readFigure : GoodIn wsX7_command wsX7_readFigure := (goodIn_c2 ggX7_command_X7_readFigure_p0 (goodIn_app (goodIn_app ggX7_command_X7_readFigure_p1 ggX7_command_X7_readFigure_p2) ggX7_command_X7_readFigure_p3))
set_option maxRecDepth 20000 in
theorem gX7_command_X7_readFigure : GoodIn wsX7_command (wsV RX7 185 RX7 yX7_readFigure wsX7_readFigure) := goodIn_app (goodIn_of _ (by decide +kernel)) ggX7_command_X7_readFigure
set_option maxRecDepth 20000 in
theorem ggX7_command_X7_nameOf : GoodIn wsX7_command wsX7_nameOf := goodIn_r _ [39, 40, 41, 7, 42] (by decide +kernel) (by decide +kernel)
set_option maxRecDepth 20000 in
theorem gX7_command_X7_nameOf : GoodIn wsX7_command (va_wsS RX7 146 yX7_nameOf wsX7_nameOf) := goodIn_app (goodIn_of _ (by decide +kernel)) ggX7_command_X7_nameOf
set_option maxRecDepth 20000 in
theorem ggX7_command_X7_practiseOn_p0 : GoodIn wsX7_command [.code yX7_practiseOn cX7_practiseOn 4 (some .int)] := goodIn_r _ [95] (by decide +kernel) (by decide +kernel)
theorem ggX7_command_X7_practiseOn_p1 : GoodIn wsX7_command wsX7_practiseOn_r1 := goodIn_r _ [2, 3, 88, 89, 90, 7, 91, 4, 43, 44, 45, 46, 17, 47, 18, 19, 20, 21, 22, 23, 24, 25, 26, 27] (by decide +kernel) (by decide +kernel)
theorem ggX7_command_X7_practiseOn_p2 : GoodIn wsX7_command wsX7_practiseOn_r2 := goodIn_r _ [28, 29, 30, 31, 32, 40, 41, 42, 48, 49, 50, 51, 52, 53, 54, 55, 56, 57, 58, 59, 60, 61, 37, 38] (by decide +kernel) (by decide +kernel)
theorem ggX7_command_X7_practiseOn_p3 : GoodIn wsX7_command wsX7_practiseOn_r3 := goodIn_r _ [39, 65, 66, 67] (by decide +kernel) (by decide +kernel)
theorem ggX7_command_X7_practiseOn_p4 : GoodIn wsX7_command wsX70 := goodIn_r _ [96, 97, 98, 99, 100, 101, 102, 103, 104, 105, 106, 107, 108, 109, 110, 111, 112, 113, 114] (by decide +kernel) (by decide +kernel)
theorem ggX7_command_X7_practiseOn : GoodIn wsX7_command wsX7_practiseOn := (goodIn_c2 ggX7_command_X7_practiseOn_p0 (goodIn_app (goodIn_app ggX7_command_X7_practiseOn_p1 (goodIn_app ggX7_command_X7_practiseOn_p2 ggX7_command_X7_practiseOn_p3)) ggX7_command_X7_practiseOn_p4))
set_option maxRecDepth 20000 in
theorem gX7_command_X7_practiseOn : GoodIn wsX7_command (wsV RX7 188 RX7 yX7_practiseOn wsX7_practiseOn) := goodIn_app (goodIn_of _ (by decide +kernel)) ggX7_command_X7_practiseOn
theorem dX7_command_0 : decode cX7_command 0 = .ok (.iload_n 2, 1) := by decide +kernel
theorem dX7_command_1 : decode cX7_command 1 = .ok (.sipush 1000, 3) := by decide +kernel
theorem dX7_command_4 : decode cX7_command 4 = .ok (.idiv, 1) := by decide +kernel
theorem dX7_command_5 : decode cX7_command 5 = .ok (.istore_n 3, 1) := by decide +kernel
theorem dX7_command_6 : decode cX7_command 6 = .ok (.iload_n 2, 1) := by decide +kernel
theorem dX7_command_7 : decode cX7_command 7 = .ok (.bipush 100, 2) := by decide +kernel
theorem dX7_command_9 : decode cX7_command 9 = .ok (.irem, 1) := by decide +kernel
theorem dX7_command_10 : decode cX7_command 10 = .ok (.istore 4, 2) := by decide +kernel
theorem dX7_command_12 : decode cX7_command 12 = .ok (.iload_n 2, 1) := by decide +kernel
theorem dX7_command_13 : decode cX7_command 13 = .ok (.sipush 1000, 3) := by decide +kernel
theorem dX7_command_16 : decode cX7_command 16 = .ok (.irem, 1) := by decide +kernel
theorem dX7_command_17 : decode cX7_command 17 = .ok (.ifCond .ne 7, 3) := by decide +kernel
theorem dX7_command_20 : decode cX7_command 20 = .ok (.iconst 1, 1) := by decide +kernel
theorem dX7_command_21 : decode cX7_command 21 = .ok (.goto 4, 3) := by decide +kernel
theorem dX7_command_24 : decode cX7_command 24 = .ok (.iconst 0, 1) := by decide +kernel
theorem dX7_command_25 : decode cX7_command 25 = .ok (.istore 5, 2) := by decide +kernel
theorem dX7_command_27 : decode cX7_command 27 = .ok (.iload_n 1, 1) := by decide +kernel
theorem dX7_command_28 : decode cX7_command 28 = .ok (.tableswitch 383 1 9 #[52, 87, 119, 153, 189, 237, 284, 308, 351], 52) := by decide +kernel
theorem dX7_command_80 : decode cX7_command 80 = .ok (.iload_n 2, 1) := by decide +kernel
theorem dX7_command_81 : decode cX7_command 81 = .ok (.bipush 100, 2) := by decide +kernel
theorem dX7_command_83 : decode cX7_command 83 = .ok (.idiv, 1) := by decide +kernel
theorem dX7_command_84 : decode cX7_command 84 = .ok (.iload 4, 2) := by decide +kernel
theorem dX7_command_86 : decode cX7_command 86 = .ok (.invokestatic 165, 3) := by decide +kernel
theorem dX7_command_89 : decode cX7_command 89 = .ok (.ifCond .eq 24, 3) := by decide +kernel
theorem dX7_command_92 : decode cX7_command 92 = .ok (.aload_n 0, 1) := by decide +kernel
theorem dX7_command_93 : decode cX7_command 93 = .ok (.aload_n 0, 1) := by decide +kernel
theorem dX7_command_94 : decode cX7_command 94 = .ok (.getfield 16, 3) := by decide +kernel
theorem dX7_command_97 : decode cX7_command 97 = .ok (.iload_n 2, 1) := by decide +kernel
theorem dX7_command_98 : decode cX7_command 98 = .ok (.bipush 100, 2) := by decide +kernel
theorem dX7_command_100 : decode cX7_command 100 = .ok (.idiv, 1) := by decide +kernel
theorem dX7_command_101 : decode cX7_command 101 = .ok (.iload 4, 2) := by decide +kernel
theorem dX7_command_103 : decode cX7_command 103 = .ok (.invokevirtual 169, 3) := by decide +kernel
theorem dX7_command_106 : decode cX7_command 106 = .ok (.ifCond .eq 7, 3) := by decide +kernel
theorem dX7_command_109 : decode cX7_command 109 = .ok (.iconst 1, 1) := by decide +kernel
theorem dX7_command_110 : decode cX7_command 110 = .ok (.goto 4, 3) := by decide +kernel
theorem dX7_command_113 : decode cX7_command 113 = .ok (.iconst 0, 1) := by decide +kernel
theorem dX7_command_114 : decode cX7_command 114 = .ok (.ireturn, 1) := by decide +kernel
theorem dX7_command_115 : decode cX7_command 115 = .ok (.aload_n 0, 1) := by decide +kernel
theorem dX7_command_116 : decode cX7_command 116 = .ok (.getfield 16, 3) := by decide +kernel
theorem dX7_command_119 : decode cX7_command 119 = .ok (.bipush 76, 2) := by decide +kernel
theorem dX7_command_121 : decode cX7_command 121 = .ok (.iload_n 2, 1) := by decide +kernel
theorem dX7_command_122 : decode cX7_command 122 = .ok (.ifCond .ne 7, 3) := by decide +kernel
theorem dX7_command_125 : decode cX7_command 125 = .ok (.iconst 0, 1) := by decide +kernel
theorem dX7_command_126 : decode cX7_command 126 = .ok (.goto 10, 3) := by decide +kernel
theorem dX7_command_129 : decode cX7_command 129 = .ok (.aload_n 0, 1) := by decide +kernel
theorem dX7_command_130 : decode cX7_command 130 = .ok (.getfield 16, 3) := by decide +kernel
theorem dX7_command_133 : decode cX7_command 133 = .ok (.bipush 76, 2) := by decide +kernel
theorem dX7_command_135 : decode cX7_command 135 = .ok (.iaload, 1) := by decide +kernel
theorem dX7_command_136 : decode cX7_command 136 = .ok (.iastore, 1) := by decide +kernel
theorem dX7_command_137 : decode cX7_command 137 = .ok (.iload_n 2, 1) := by decide +kernel
theorem dX7_command_138 : decode cX7_command 138 = .ok (.ifCond .ne 7, 3) := by decide +kernel
theorem dX7_command_141 : decode cX7_command 141 = .ok (.iconst 1, 1) := by decide +kernel
theorem dX7_command_142 : decode cX7_command 142 = .ok (.goto 4, 3) := by decide +kernel
theorem dX7_command_145 : decode cX7_command 145 = .ok (.iconst 0, 1) := by decide +kernel
theorem dX7_command_146 : decode cX7_command 146 = .ok (.ireturn, 1) := by decide +kernel
theorem dX7_command_147 : decode cX7_command 147 = .ok (.iload 5, 2) := by decide +kernel
theorem dX7_command_149 : decode cX7_command 149 = .ok (.ifCond .eq 30, 3) := by decide +kernel
theorem dX7_command_152 : decode cX7_command 152 = .ok (.aload_n 0, 1) := by decide +kernel
theorem dX7_command_153 : decode cX7_command 153 = .ok (.aload_n 0, 1) := by decide +kernel
theorem dX7_command_154 : decode cX7_command 154 = .ok (.getfield 16, 3) := by decide +kernel
theorem dX7_command_157 : decode cX7_command 157 = .ok (.iload_n 3, 1) := by decide +kernel
theorem dX7_command_158 : decode cX7_command 158 = .ok (.invokevirtual 176, 3) := by decide +kernel
theorem dX7_command_161 : decode cX7_command 161 = .ok (.ifCond .eq 18, 3) := by decide +kernel
theorem dX7_command_164 : decode cX7_command 164 = .ok (.aload_n 0, 1) := by decide +kernel
theorem dX7_command_165 : decode cX7_command 165 = .ok (.getfield 16, 3) := by decide +kernel
theorem dX7_command_168 : decode cX7_command 168 = .ok (.iload_n 3, 1) := by decide +kernel
theorem dX7_command_169 : decode cX7_command 169 = .ok (.invokestatic 179, 3) := by decide +kernel
theorem dX7_command_172 : decode cX7_command 172 = .ok (.ifCond .lt 7, 3) := by decide +kernel
theorem dX7_command_175 : decode cX7_command 175 = .ok (.iconst 1, 1) := by decide +kernel
theorem dX7_command_176 : decode cX7_command 176 = .ok (.goto 4, 3) := by decide +kernel
theorem dX7_command_179 : decode cX7_command 179 = .ok (.iconst 0, 1) := by decide +kernel
theorem dX7_command_180 : decode cX7_command 180 = .ok (.ireturn, 1) := by decide +kernel
theorem dX7_command_181 : decode cX7_command 181 = .ok (.iload_n 2, 1) := by decide +kernel
theorem dX7_command_182 : decode cX7_command 182 = .ok (.iload 4, 2) := by decide +kernel
theorem dX7_command_184 : decode cX7_command 184 = .ok (.if_icmp .ne 31, 3) := by decide +kernel
theorem dX7_command_187 : decode cX7_command 187 = .ok (.aload_n 0, 1) := by decide +kernel
theorem dX7_command_188 : decode cX7_command 188 = .ok (.getfield 16, 3) := by decide +kernel
theorem dX7_command_191 : decode cX7_command 191 = .ok (.iload 4, 2) := by decide +kernel
theorem dX7_command_193 : decode cX7_command 193 = .ok (.invokestatic 140, 3) := by decide +kernel
theorem dX7_command_196 : decode cX7_command 196 = .ok (.ifCond .eq 19, 3) := by decide +kernel
theorem dX7_command_199 : decode cX7_command 199 = .ok (.aload_n 0, 1) := by decide +kernel
theorem dX7_command_200 : decode cX7_command 200 = .ok (.getfield 16, 3) := by decide +kernel
theorem dX7_command_203 : decode cX7_command 203 = .ok (.iload 4, 2) := by decide +kernel
theorem dX7_command_205 : decode cX7_command 205 = .ok (.invokestatic 182, 3) := by decide +kernel
theorem dX7_command_208 : decode cX7_command 208 = .ok (.ifCond .lt 7, 3) := by decide +kernel
theorem dX7_command_211 : decode cX7_command 211 = .ok (.iconst 1, 1) := by decide +kernel
theorem dX7_command_212 : decode cX7_command 212 = .ok (.goto 4, 3) := by decide +kernel
theorem dX7_command_215 : decode cX7_command 215 = .ok (.iconst 0, 1) := by decide +kernel
theorem dX7_command_216 : decode cX7_command 216 = .ok (.ireturn, 1) := by decide +kernel
theorem dX7_command_217 : decode cX7_command 217 = .ok (.iload_n 2, 1) := by decide +kernel
theorem dX7_command_218 : decode cX7_command 218 = .ok (.bipush 100, 2) := by decide +kernel
theorem dX7_command_220 : decode cX7_command 220 = .ok (.idiv, 1) := by decide +kernel
theorem dX7_command_221 : decode cX7_command 221 = .ok (.bipush 10, 2) := by decide +kernel
theorem dX7_command_223 : decode cX7_command 223 = .ok (.irem, 1) := by decide +kernel
theorem dX7_command_224 : decode cX7_command 224 = .ok (.ifCond .gt 26, 3) := by decide +kernel
theorem dX7_command_227 : decode cX7_command 227 = .ok (.iload_n 3, 1) := by decide +kernel
theorem dX7_command_228 : decode cX7_command 228 = .ok (.iload 4, 2) := by decide +kernel
theorem dX7_command_230 : decode cX7_command 230 = .ok (.invokestatic 200, 3) := by decide +kernel
theorem dX7_command_233 : decode cX7_command 233 = .ok (.ifCond .eq 17, 3) := by decide +kernel
theorem dX7_command_236 : decode cX7_command 236 = .ok (.aload_n 0, 1) := by decide +kernel
theorem dX7_command_237 : decode cX7_command 237 = .ok (.aload_n 0, 1) := by decide +kernel
theorem dX7_command_238 : decode cX7_command 238 = .ok (.getfield 16, 3) := by decide +kernel
theorem dX7_command_241 : decode cX7_command 241 = .ok (.iload_n 3, 1) := by decide +kernel
theorem dX7_command_242 : decode cX7_command 242 = .ok (.iload 4, 2) := by decide +kernel
theorem dX7_command_244 : decode cX7_command 244 = .ok (.invokevirtual 203, 3) := by decide +kernel
theorem dX7_command_247 : decode cX7_command 247 = .ok (.ifCond .ne 5, 3) := by decide +kernel
theorem dX7_command_250 : decode cX7_command 250 = .ok (.iconst 0, 1) := by decide +kernel
theorem dX7_command_251 : decode cX7_command 251 = .ok (.ireturn, 1) := by decide +kernel
theorem dX7_command_252 : decode cX7_command 252 = .ok (.aload_n 0, 1) := by decide +kernel
theorem dX7_command_253 : decode cX7_command 253 = .ok (.getfield 16, 3) := by decide +kernel
theorem dX7_command_256 : decode cX7_command 256 = .ok (.bipush 77, 2) := by decide +kernel
theorem dX7_command_258 : decode cX7_command 258 = .ok (.iload_n 3, 1) := by decide +kernel
theorem dX7_command_259 : decode cX7_command 259 = .ok (.iadd, 1) := by decide +kernel
theorem dX7_command_260 : decode cX7_command 260 = .ok (.iload 4, 2) := by decide +kernel
theorem dX7_command_262 : decode cX7_command 262 = .ok (.iastore, 1) := by decide +kernel
theorem dX7_command_263 : decode cX7_command 263 = .ok (.iconst 1, 1) := by decide +kernel
theorem dX7_command_264 : decode cX7_command 264 = .ok (.ireturn, 1) := by decide +kernel
theorem dX7_command_265 : decode cX7_command 265 = .ok (.aload_n 0, 1) := by decide +kernel
theorem dX7_command_266 : decode cX7_command 266 = .ok (.aload_n 0, 1) := by decide +kernel
theorem dX7_command_267 : decode cX7_command 267 = .ok (.getfield 16, 3) := by decide +kernel
theorem dX7_command_270 : decode cX7_command 270 = .ok (.iconst 0, 1) := by decide +kernel
theorem dX7_command_271 : decode cX7_command 271 = .ok (.aload_n 0, 1) := by decide +kernel
theorem dX7_command_272 : decode cX7_command 272 = .ok (.getfield 16, 3) := by decide +kernel
theorem dX7_command_275 : decode cX7_command 275 = .ok (.iconst (-1), 1) := by decide +kernel
theorem dX7_command_276 : decode cX7_command 276 = .ok (.invokevirtual 185, 3) := by decide +kernel
theorem dX7_command_279 : decode cX7_command 279 = .ok (.iload 5, 2) := by decide +kernel
theorem dX7_command_281 : decode cX7_command 281 = .ok (.ifCond .eq 29, 3) := by decide +kernel
theorem dX7_command_284 : decode cX7_command 284 = .ok (.aload_n 0, 1) := by decide +kernel
theorem dX7_command_285 : decode cX7_command 285 = .ok (.getfield 95, 3) := by decide +kernel
theorem dX7_command_288 : decode cX7_command 288 = .ok (.ifCond .ne 22, 3) := by decide +kernel
theorem dX7_command_291 : decode cX7_command 291 = .ok (.aload_n 0, 1) := by decide +kernel
theorem dX7_command_292 : decode cX7_command 292 = .ok (.getfield 16, 3) := by decide +kernel
theorem dX7_command_295 : decode cX7_command 295 = .ok (.aload_n 0, 1) := by decide +kernel
theorem dX7_command_296 : decode cX7_command 296 = .ok (.getfield 85, 3) := by decide +kernel
theorem dX7_command_299 : decode cX7_command 299 = .ok (.invokestatic 146, 3) := by decide +kernel
theorem dX7_command_302 : decode cX7_command 302 = .ok (.iload_n 3, 1) := by decide +kernel
theorem dX7_command_303 : decode cX7_command 303 = .ok (.if_icmp .ne 7, 3) := by decide +kernel
theorem dX7_command_306 : decode cX7_command 306 = .ok (.iconst 1, 1) := by decide +kernel
theorem dX7_command_307 : decode cX7_command 307 = .ok (.goto 4, 3) := by decide +kernel
theorem dX7_command_310 : decode cX7_command 310 = .ok (.iconst 0, 1) := by decide +kernel
theorem dX7_command_311 : decode cX7_command 311 = .ok (.ireturn, 1) := by decide +kernel
theorem dX7_command_312 : decode cX7_command 312 = .ok (.iload_n 2, 1) := by decide +kernel
theorem dX7_command_313 : decode cX7_command 313 = .ok (.iload 4, 2) := by decide +kernel
theorem dX7_command_315 : decode cX7_command 315 = .ok (.if_icmp .ne 19, 3) := by decide +kernel
theorem dX7_command_318 : decode cX7_command 318 = .ok (.aload_n 0, 1) := by decide +kernel
theorem dX7_command_319 : decode cX7_command 319 = .ok (.getfield 16, 3) := by decide +kernel
theorem dX7_command_322 : decode cX7_command 322 = .ok (.bipush 110, 2) := by decide +kernel
theorem dX7_command_324 : decode cX7_command 324 = .ok (.iaload, 1) := by decide +kernel
theorem dX7_command_325 : decode cX7_command 325 = .ok (.iload 4, 2) := by decide +kernel
theorem dX7_command_327 : decode cX7_command 327 = .ok (.if_icmp .lt 7, 3) := by decide +kernel
theorem dX7_command_330 : decode cX7_command 330 = .ok (.iconst 1, 1) := by decide +kernel
theorem dX7_command_331 : decode cX7_command 331 = .ok (.goto 4, 3) := by decide +kernel
theorem dX7_command_334 : decode cX7_command 334 = .ok (.iconst 0, 1) := by decide +kernel
theorem dX7_command_335 : decode cX7_command 335 = .ok (.ireturn, 1) := by decide +kernel
theorem dX7_command_336 : decode cX7_command 336 = .ok (.aload_n 0, 1) := by decide +kernel
theorem dX7_command_337 : decode cX7_command 337 = .ok (.aload_n 0, 1) := by decide +kernel
theorem dX7_command_338 : decode cX7_command 338 = .ok (.getfield 16, 3) := by decide +kernel
theorem dX7_command_341 : decode cX7_command 341 = .ok (.iconst 0, 1) := by decide +kernel
theorem dX7_command_342 : decode cX7_command 342 = .ok (.aload_n 0, 1) := by decide +kernel
theorem dX7_command_343 : decode cX7_command 343 = .ok (.getfield 16, 3) := by decide +kernel
theorem dX7_command_346 : decode cX7_command 346 = .ok (.iconst (-1), 1) := by decide +kernel
theorem dX7_command_347 : decode cX7_command 347 = .ok (.invokevirtual 185, 3) := by decide +kernel
theorem dX7_command_350 : decode cX7_command 350 = .ok (.iload_n 2, 1) := by decide +kernel
theorem dX7_command_351 : decode cX7_command 351 = .ok (.iload 4, 2) := by decide +kernel
theorem dX7_command_353 : decode cX7_command 353 = .ok (.if_icmp .ne 24, 3) := by decide +kernel
theorem dX7_command_356 : decode cX7_command 356 = .ok (.aload_n 0, 1) := by decide +kernel
theorem dX7_command_357 : decode cX7_command 357 = .ok (.getfield 85, 3) := by decide +kernel
theorem dX7_command_360 : decode cX7_command 360 = .ok (.iconst (-1), 1) := by decide +kernel
theorem dX7_command_361 : decode cX7_command 361 = .ok (.if_icmp .eq 16, 3) := by decide +kernel
theorem dX7_command_364 : decode cX7_command 364 = .ok (.aload_n 0, 1) := by decide +kernel
theorem dX7_command_365 : decode cX7_command 365 = .ok (.getfield 88, 3) := by decide +kernel
theorem dX7_command_368 : decode cX7_command 368 = .ok (.iload 4, 2) := by decide +kernel
theorem dX7_command_370 : decode cX7_command 370 = .ok (.if_icmp .gt 7, 3) := by decide +kernel
theorem dX7_command_373 : decode cX7_command 373 = .ok (.iconst 1, 1) := by decide +kernel
theorem dX7_command_374 : decode cX7_command 374 = .ok (.goto 4, 3) := by decide +kernel
theorem dX7_command_377 : decode cX7_command 377 = .ok (.iconst 0, 1) := by decide +kernel
theorem dX7_command_378 : decode cX7_command 378 = .ok (.ireturn, 1) := by decide +kernel
theorem dX7_command_379 : decode cX7_command 379 = .ok (.iload 5, 2) := by decide +kernel
theorem dX7_command_381 : decode cX7_command 381 = .ok (.ifCond .eq 28, 3) := by decide +kernel
theorem dX7_command_384 : decode cX7_command 384 = .ok (.aload_n 0, 1) := by decide +kernel
theorem dX7_command_385 : decode cX7_command 385 = .ok (.getfield 16, 3) := by decide +kernel
theorem dX7_command_388 : decode cX7_command 388 = .ok (.iconst 0, 1) := by decide +kernel
theorem dX7_command_389 : decode cX7_command 389 = .ok (.iaload, 1) := by decide +kernel
theorem dX7_command_390 : decode cX7_command 390 = .ok (.ifCond .le 19, 3) := by decide +kernel
theorem dX7_command_393 : decode cX7_command 393 = .ok (.aload_n 0, 1) := by decide +kernel
theorem dX7_command_394 : decode cX7_command 394 = .ok (.aload_n 0, 1) := by decide +kernel
theorem dX7_command_395 : decode cX7_command 395 = .ok (.getfield 16, 3) := by decide +kernel
theorem dX7_command_398 : decode cX7_command 398 = .ok (.iload_n 3, 1) := by decide +kernel
theorem dX7_command_399 : decode cX7_command 399 = .ok (.invokevirtual 188, 3) := by decide +kernel
theorem dX7_command_402 : decode cX7_command 402 = .ok (.ifCond .ne 7, 3) := by decide +kernel
theorem dX7_command_405 : decode cX7_command 405 = .ok (.iconst 1, 1) := by decide +kernel
theorem dX7_command_406 : decode cX7_command 406 = .ok (.goto 4, 3) := by decide +kernel
theorem dX7_command_409 : decode cX7_command 409 = .ok (.iconst 0, 1) := by decide +kernel
theorem dX7_command_410 : decode cX7_command 410 = .ok (.ireturn, 1) := by decide +kernel
theorem dX7_command_411 : decode cX7_command 411 = .ok (.iconst 0, 1) := by decide +kernel
theorem dX7_command_412 : decode cX7_command 412 = .ok (.ireturn, 1) := by decide +kernel
set_option maxRecDepth 20000 in
theorem ggX7_runScript_X7_in : GoodIn wsX7_runScript wsX7_in := goodIn_r _ [8] (by decide +kernel) (by decide +kernel)
set_option maxRecDepth 20000 in
theorem gX7_runScript_X7_in : GoodIn wsX7_runScript (va_wsS RX7 45 yX7_in wsX7_in) := goodIn_app (goodIn_of _ (by decide +kernel)) ggX7_runScript_X7_in
set_option maxRecDepth 20000 in
theorem ggX7_runScript_X7_refused : GoodIn wsX7_runScript wsX7_refused := goodIn_r _ [12, 13, 111, 112, 113, 114, 115, 116, 117, 118, 119, 120, 121, 122, 123, 124, 125, 126, 127, 128, 129] (by decide +kernel) (by decide +kernel)
set_option maxRecDepth 20000 in
theorem gX7_runScript_X7_refused : GoodIn wsX7_runScript (wsV RX7 102 RX7 yX7_refused wsX7_refused) := goodIn_app (goodIn_of _ (by decide +kernel)) ggX7_runScript_X7_refused
set_option maxRecDepth 20000 in
theorem ggX7_runScript_X7_copyState : GoodIn wsX7_runScript wsX7_copyState := goodIn_r _ [16] (by decide +kernel) (by decide +kernel)
set_option maxRecDepth 20000 in
theorem gX7_runScript_X7_copyState : GoodIn wsX7_runScript (va_wsS RX7 159 yX7_copyState wsX7_copyState) := goodIn_app (goodIn_of _ (by decide +kernel)) ggX7_runScript_X7_copyState
set_option maxRecDepth 20000 in
theorem ggX7_runScript_X7_command_p0 : GoodIn wsX7_runScript [.code yX7_command cX7_command 6 (some .boolean)] := goodIn_r _ [20] (by decide +kernel) (by decide +kernel)
theorem ggX7_runScript_X7_command_p1 : GoodIn wsX7_runScript wsX7_command_r1 := goodIn_r _ [4, 21, 22, 23, 24, 25, 7, 26, 27, 5, 6, 8, 28, 29, 30, 31, 32, 33, 34, 35, 36, 37, 38, 39] (by decide +kernel) (by decide +kernel)
theorem ggX7_runScript_X7_command_p2 : GoodIn wsX7_runScript wsX7_command_r2 := goodIn_r _ [40, 41, 42, 43, 44, 45, 46, 47, 48, 49, 50, 51, 52, 53, 54, 55, 56, 57, 58, 59, 60, 61, 62, 63] (by decide +kernel) (by decide +kernel)
theorem ggX7_runScript_X7_command_p3 : GoodIn wsX7_runScript wsX7_command_r3 := goodIn_r _ [64, 65, 66, 67, 68, 69, 70, 71, 72, 73, 74, 75, 76, 77, 78, 79, 80, 81, 82, 83, 84, 85, 86, 87] (by decide +kernel) (by decide +kernel)
theorem ggX7_runScript_X7_command_p4 : GoodIn wsX7_runScript wsX7_command_r4 := goodIn_r _ [88, 89, 90, 91, 92, 93, 94, 95, 96, 97, 98, 99, 100, 101, 102, 103, 104, 105, 106, 107, 108, 109, 110] (by decide +kernel) (by decide +kernel)
theorem ggX7_runScript_X7_command_p5 : GoodIn wsX7_runScript wsX70 := goodIn_r _ [111, 112, 113, 114, 115, 116, 117, 118, 119, 120, 121, 122, 123, 124, 125, 126, 127, 128, 129] (by decide +kernel) (by decide +kernel)
theorem ggX7_runScript_X7_command : GoodIn wsX7_runScript wsX7_command := (goodIn_c2 ggX7_runScript_X7_command_p0 (goodIn_app (goodIn_app ggX7_runScript_X7_command_p1 (goodIn_app ggX7_runScript_X7_command_p2 (goodIn_app ggX7_runScript_X7_command_p3 ggX7_runScript_X7_command_p4))) ggX7_runScript_X7_command_p5))
set_option maxRecDepth 20000 in
theorem gX7_runScript_X7_command : GoodIn wsX7_runScript (wsV RX7 218 RX7 yX7_command wsX7_command) := goodIn_app (goodIn_of _ (by decide +kernel)) ggX7_runScript_X7_command
theorem dX7_runScript_0 : decode cX7_runScript 0 = .ok (.lconst 1, 1) := by decide +kernel
theorem dX7_runScript_1 : decode cX7_runScript 1 = .ok (.lstore 4, 2) := by decide +kernel
theorem dX7_runScript_3 : decode cX7_runScript 3 = .ok (.iconst 0, 1) := by decide +kernel
theorem dX7_runScript_4 : decode cX7_runScript 4 = .ok (.istore 6, 2) := by decide +kernel
theorem dX7_runScript_6 : decode cX7_runScript 6 = .ok (.iload 6, 2) := by decide +kernel
theorem dX7_runScript_8 : decode cX7_runScript 8 = .ok (.iload_n 1, 1) := by decide +kernel
theorem dX7_runScript_9 : decode cX7_runScript 9 = .ok (.if_icmp .ge 23, 3) := by decide +kernel
theorem dX7_runScript_12 : decode cX7_runScript 12 = .ok (.iload 6, 2) := by decide +kernel
theorem dX7_runScript_14 : decode cX7_runScript 14 = .ok (.iconst 3, 1) := by decide +kernel
theorem dX7_runScript_15 : decode cX7_runScript 15 = .ok (.if_icmp .ge 17, 3) := by decide +kernel
theorem dX7_runScript_18 : decode cX7_runScript 18 = .ok (.lload 4, 2) := by decide +kernel
theorem dX7_runScript_20 : decode cX7_runScript 20 = .ok (.ldc2_w 216, 3) := by decide +kernel
theorem dX7_runScript_23 : decode cX7_runScript 23 = .ok (.lmul, 1) := by decide +kernel
theorem dX7_runScript_24 : decode cX7_runScript 24 = .ok (.lstore 4, 2) := by decide +kernel
theorem dX7_runScript_26 : decode cX7_runScript 26 = .ok (.iinc 6 1, 3) := by decide +kernel
theorem dX7_runScript_29 : decode cX7_runScript 29 = .ok (.goto (-23), 3) := by decide +kernel
theorem dX7_runScript_32 : decode cX7_runScript 32 = .ok (.aload_n 0, 1) := by decide +kernel
theorem dX7_runScript_33 : decode cX7_runScript 33 = .ok (.iload_n 1, 1) := by decide +kernel
theorem dX7_runScript_34 : decode cX7_runScript 34 = .ok (.i2l, 1) := by decide +kernel
theorem dX7_runScript_35 : decode cX7_runScript 35 = .ok (.lconst 1, 1) := by decide +kernel
theorem dX7_runScript_36 : decode cX7_runScript 36 = .ok (.ldc2_w 144, 3) := by decide +kernel
theorem dX7_runScript_39 : decode cX7_runScript 39 = .ok (.invokestatic 45, 3) := by decide +kernel
theorem dX7_runScript_42 : decode cX7_runScript 42 = .ok (.ifCond .eq 19, 3) := by decide +kernel
theorem dX7_runScript_45 : decode cX7_runScript 45 = .ok (.lload_n 2, 1) := by decide +kernel
theorem dX7_runScript_46 : decode cX7_runScript 46 = .ok (.lconst 0, 1) := by decide +kernel
theorem dX7_runScript_47 : decode cX7_runScript 47 = .ok (.lload 4, 2) := by decide +kernel
theorem dX7_runScript_49 : decode cX7_runScript 49 = .ok (.lconst 1, 1) := by decide +kernel
theorem dX7_runScript_50 : decode cX7_runScript 50 = .ok (.lsub, 1) := by decide +kernel
theorem dX7_runScript_51 : decode cX7_runScript 51 = .ok (.invokestatic 45, 3) := by decide +kernel
theorem dX7_runScript_54 : decode cX7_runScript 54 = .ok (.ifCond .eq 7, 3) := by decide +kernel
theorem dX7_runScript_57 : decode cX7_runScript 57 = .ok (.iconst 0, 1) := by decide +kernel
theorem dX7_runScript_58 : decode cX7_runScript 58 = .ok (.goto 4, 3) := by decide +kernel
theorem dX7_runScript_61 : decode cX7_runScript 61 = .ok (.iconst 1, 1) := by decide +kernel
theorem dX7_runScript_62 : decode cX7_runScript 62 = .ok (.invokevirtual 102, 3) := by decide +kernel
theorem dX7_runScript_65 : decode cX7_runScript 65 = .ok (.ifCond .eq 5, 3) := by decide +kernel
theorem dX7_runScript_68 : decode cX7_runScript 68 = .ok (.iconst 0, 1) := by decide +kernel
theorem dX7_runScript_69 : decode cX7_runScript 69 = .ok (.ireturn, 1) := by decide +kernel
theorem dX7_runScript_70 : decode cX7_runScript 70 = .ok (.aload_n 0, 1) := by decide +kernel
theorem dX7_runScript_71 : decode cX7_runScript 71 = .ok (.getfield 13, 3) := by decide +kernel
theorem dX7_runScript_74 : decode cX7_runScript 74 = .ok (.iconst 0, 1) := by decide +kernel
theorem dX7_runScript_75 : decode cX7_runScript 75 = .ok (.aload_n 0, 1) := by decide +kernel
theorem dX7_runScript_76 : decode cX7_runScript 76 = .ok (.getfield 16, 3) := by decide +kernel
theorem dX7_runScript_79 : decode cX7_runScript 79 = .ok (.iconst 0, 1) := by decide +kernel
theorem dX7_runScript_80 : decode cX7_runScript 80 = .ok (.invokestatic 159, 3) := by decide +kernel
theorem dX7_runScript_83 : decode cX7_runScript 83 = .ok (.iconst 0, 1) := by decide +kernel
theorem dX7_runScript_84 : decode cX7_runScript 84 = .ok (.istore 6, 2) := by decide +kernel
theorem dX7_runScript_86 : decode cX7_runScript 86 = .ok (.iload 6, 2) := by decide +kernel
theorem dX7_runScript_88 : decode cX7_runScript 88 = .ok (.iload_n 1, 1) := by decide +kernel
theorem dX7_runScript_89 : decode cX7_runScript 89 = .ok (.if_icmp .ge 50, 3) := by decide +kernel
theorem dX7_runScript_92 : decode cX7_runScript 92 = .ok (.lload 4, 2) := by decide +kernel
theorem dX7_runScript_94 : decode cX7_runScript 94 = .ok (.ldc2_w 216, 3) := by decide +kernel
theorem dX7_runScript_97 : decode cX7_runScript 97 = .ok (.ldiv, 1) := by decide +kernel
theorem dX7_runScript_98 : decode cX7_runScript 98 = .ok (.lstore 4, 2) := by decide +kernel
theorem dX7_runScript_100 : decode cX7_runScript 100 = .ok (.lload_n 2, 1) := by decide +kernel
theorem dX7_runScript_101 : decode cX7_runScript 101 = .ok (.lload 4, 2) := by decide +kernel
theorem dX7_runScript_103 : decode cX7_runScript 103 = .ok (.ldiv, 1) := by decide +kernel
theorem dX7_runScript_104 : decode cX7_runScript 104 = .ok (.ldc2_w 216, 3) := by decide +kernel
theorem dX7_runScript_107 : decode cX7_runScript 107 = .ok (.lrem, 1) := by decide +kernel
theorem dX7_runScript_108 : decode cX7_runScript 108 = .ok (.l2i, 1) := by decide +kernel
theorem dX7_runScript_109 : decode cX7_runScript 109 = .ok (.istore 7, 2) := by decide +kernel
theorem dX7_runScript_111 : decode cX7_runScript 111 = .ok (.aload_n 0, 1) := by decide +kernel
theorem dX7_runScript_112 : decode cX7_runScript 112 = .ok (.iload 7, 2) := by decide +kernel
theorem dX7_runScript_114 : decode cX7_runScript 114 = .ok (.sipush 10000, 3) := by decide +kernel
theorem dX7_runScript_117 : decode cX7_runScript 117 = .ok (.idiv, 1) := by decide +kernel
theorem dX7_runScript_118 : decode cX7_runScript 118 = .ok (.iload 7, 2) := by decide +kernel
theorem dX7_runScript_120 : decode cX7_runScript 120 = .ok (.sipush 10000, 3) := by decide +kernel
theorem dX7_runScript_123 : decode cX7_runScript 123 = .ok (.irem, 1) := by decide +kernel
theorem dX7_runScript_124 : decode cX7_runScript 124 = .ok (.invokevirtual 218, 3) := by decide +kernel
theorem dX7_runScript_127 : decode cX7_runScript 127 = .ok (.ifCond .ne 6, 3) := by decide +kernel
theorem dX7_runScript_130 : decode cX7_runScript 130 = .ok (.iload 6, 2) := by decide +kernel
theorem dX7_runScript_132 : decode cX7_runScript 132 = .ok (.ireturn, 1) := by decide +kernel
theorem dX7_runScript_133 : decode cX7_runScript 133 = .ok (.iinc 6 1, 3) := by decide +kernel
theorem dX7_runScript_136 : decode cX7_runScript 136 = .ok (.goto (-50), 3) := by decide +kernel
theorem dX7_runScript_139 : decode cX7_runScript 139 = .ok (.iconst (-1), 1) := by decide +kernel
theorem dX7_runScript_140 : decode cX7_runScript 140 = .ok (.ireturn, 1) := by decide +kernel
set_option maxRecDepth 20000 in
theorem ggX7_tryLearn_X7_canLearn_p0 : GoodIn wsX7_tryLearn [.code yX7_canLearn cX7_canLearn 4 (some .boolean)] := goodIn_r _ [6] (by decide +kernel) (by decide +kernel)
theorem ggX7_tryLearn_X7_canLearn_p1 : GoodIn wsX7_tryLearn wsX7_canLearn_r1 := goodIn_r _ [7, 8, 5, 9, 10, 11, 12, 13, 14, 15, 16, 17, 18, 19, 20, 21, 22, 23, 24, 25, 26, 27, 28, 29] (by decide +kernel) (by decide +kernel)
theorem ggX7_tryLearn_X7_canLearn_p2 : GoodIn wsX7_tryLearn wsX7_canLearn_r2 := goodIn_r _ [30, 31, 32, 33, 34, 35, 36, 37, 38, 39, 40, 41, 42, 43, 44, 45, 46, 47] (by decide +kernel) (by decide +kernel)
theorem ggX7_tryLearn_X7_canLearn_p3 : GoodIn wsX7_tryLearn wsX70 := goodIn_r _ [54, 55, 56, 57, 58, 59, 60, 61, 62, 63, 64, 65, 66, 67, 68, 69, 70, 71, 72] (by decide +kernel) (by decide +kernel)
theorem ggX7_tryLearn_X7_canLearn : GoodIn wsX7_tryLearn wsX7_canLearn := (goodIn_c2 ggX7_tryLearn_X7_canLearn_p0 (goodIn_app (goodIn_app ggX7_tryLearn_X7_canLearn_p1 ggX7_tryLearn_X7_canLearn_p2) ggX7_tryLearn_X7_canLearn_p3))
set_option maxRecDepth 20000 in
theorem gX7_tryLearn_X7_canLearn : GoodIn wsX7_tryLearn (wsV RX7 176 RX7 yX7_canLearn wsX7_canLearn) := goodIn_app (goodIn_of _ (by decide +kernel)) ggX7_tryLearn_X7_canLearn
set_option maxRecDepth 20000 in
theorem ggX7_tryLearn_X7_learnOn : GoodIn wsX7_tryLearn wsX7_learnOn := goodIn_r _ [50, 10, 11, 5, 12, 51, 52, 53] (by decide +kernel) (by decide +kernel)
set_option maxRecDepth 20000 in
theorem gX7_tryLearn_X7_learnOn : GoodIn wsX7_tryLearn (va_wsS RX7 179 yX7_learnOn wsX7_learnOn) := goodIn_app (goodIn_of _ (by decide +kernel)) ggX7_tryLearn_X7_learnOn
theorem dX7_tryLearn_0 : decode cX7_tryLearn 0 = .ok (.aload_n 0, 1) := by decide +kernel
theorem dX7_tryLearn_1 : decode cX7_tryLearn 1 = .ok (.aload_n 0, 1) := by decide +kernel
theorem dX7_tryLearn_2 : decode cX7_tryLearn 2 = .ok (.getfield 16, 3) := by decide +kernel
theorem dX7_tryLearn_5 : decode cX7_tryLearn 5 = .ok (.iload_n 1, 1) := by decide +kernel
theorem dX7_tryLearn_6 : decode cX7_tryLearn 6 = .ok (.invokevirtual 176, 3) := by decide +kernel
theorem dX7_tryLearn_9 : decode cX7_tryLearn 9 = .ok (.ifCond .eq 12, 3) := by decide +kernel
theorem dX7_tryLearn_12 : decode cX7_tryLearn 12 = .ok (.aload_n 0, 1) := by decide +kernel
theorem dX7_tryLearn_13 : decode cX7_tryLearn 13 = .ok (.getfield 16, 3) := by decide +kernel
theorem dX7_tryLearn_16 : decode cX7_tryLearn 16 = .ok (.iload_n 1, 1) := by decide +kernel
theorem dX7_tryLearn_17 : decode cX7_tryLearn 17 = .ok (.invokestatic 179, 3) := by decide +kernel
theorem dX7_tryLearn_20 : decode cX7_tryLearn 20 = .ok (.pop, 1) := by decide +kernel
theorem dX7_tryLearn_21 : decode cX7_tryLearn 21 = .ok (.return_, 1) := by decide +kernel
set_option maxRecDepth 20000 in
theorem ggX7_turn_X7_tryLearn_p0 : GoodIn wsX7_turn [.code yX7_tryLearn cX7_tryLearn 2 none] := goodIn_r _ [7] (by decide +kernel) (by decide +kernel)
theorem ggX7_turn_X7_tryLearn_p1 : GoodIn wsX7_turn wsX7_tryLearn_r1 := goodIn_r _ [1, 8, 9, 10, 6, 11, 12, 13, 14, 15, 16, 17, 18, 19, 20, 21, 22, 23, 24, 25, 26, 27, 28, 29] (by decide +kernel) (by decide +kernel)
theorem ggX7_turn_X7_tryLearn_p2 : GoodIn wsX7_turn wsX7_tryLearn_r2 := goodIn_r _ [30, 31, 32, 33, 34, 35, 36, 37, 38, 39, 40, 41, 42, 43, 44, 45, 46, 47, 48, 49, 50, 51, 52, 53] (by decide +kernel) (by decide +kernel)
theorem ggX7_turn_X7_tryLearn_p3 : GoodIn wsX7_turn wsX7_tryLearn_r3 := goodIn_r _ [54, 55, 56, 57, 58] (by decide +kernel) (by decide +kernel)
theorem ggX7_turn_X7_tryLearn_p4 : GoodIn wsX7_turn wsX70 := goodIn_r _ [74, 75, 76, 77, 78, 79, 80, 81, 82, 83, 84, 85, 86, 87, 88, 89, 90, 91, 92] (by decide +kernel) (by decide +kernel)
theorem ggX7_turn_X7_tryLearn : GoodIn wsX7_turn wsX7_tryLearn := (goodIn_c2 ggX7_turn_X7_tryLearn_p0 (goodIn_app (goodIn_app ggX7_turn_X7_tryLearn_p1 (goodIn_app ggX7_turn_X7_tryLearn_p2 ggX7_turn_X7_tryLearn_p3)) ggX7_turn_X7_tryLearn_p4))
set_option maxRecDepth 20000 in
theorem gX7_turn_X7_tryLearn : GoodIn wsX7_turn (wsV RX7 221 RX7 yX7_tryLearn wsX7_tryLearn) := goodIn_app (goodIn_of _ (by decide +kernel)) ggX7_turn_X7_tryLearn
set_option maxRecDepth 20000 in
theorem ggX7_turn_X7_practiseOn_p0 : GoodIn wsX7_turn [.code yX7_practiseOn cX7_practiseOn 4 (some .int)] := goodIn_r _ [62] (by decide +kernel) (by decide +kernel)
theorem ggX7_turn_X7_practiseOn_p1 : GoodIn wsX7_turn wsX7_practiseOn_r1 := goodIn_r _ [63, 64, 65, 66, 67, 6, 68, 69, 18, 19, 20, 21, 22, 23, 24, 25, 26, 27, 28, 29, 30, 31, 32, 33] (by decide +kernel) (by decide +kernel)
theorem ggX7_turn_X7_practiseOn_p2 : GoodIn wsX7_turn wsX7_practiseOn_r2 := goodIn_r _ [34, 35, 36, 37, 38, 15, 16, 17, 39, 40, 41, 42, 43, 44, 45, 46, 47, 48, 49, 50, 51, 52, 12, 13] (by decide +kernel) (by decide +kernel)
theorem ggX7_turn_X7_practiseOn_p3 : GoodIn wsX7_turn wsX7_practiseOn_r3 := goodIn_r _ [14, 56, 57, 58] (by decide +kernel) (by decide +kernel)
theorem ggX7_turn_X7_practiseOn_p4 : GoodIn wsX7_turn wsX70 := goodIn_r _ [74, 75, 76, 77, 78, 79, 80, 81, 82, 83, 84, 85, 86, 87, 88, 89, 90, 91, 92] (by decide +kernel) (by decide +kernel)
theorem ggX7_turn_X7_practiseOn : GoodIn wsX7_turn wsX7_practiseOn := (goodIn_c2 ggX7_turn_X7_practiseOn_p0 (goodIn_app (goodIn_app ggX7_turn_X7_practiseOn_p1 (goodIn_app ggX7_turn_X7_practiseOn_p2 ggX7_turn_X7_practiseOn_p3)) ggX7_turn_X7_practiseOn_p4))
set_option maxRecDepth 20000 in
theorem gX7_turn_X7_practiseOn : GoodIn wsX7_turn (wsV RX7 188 RX7 yX7_practiseOn wsX7_practiseOn) := goodIn_app (goodIn_of _ (by decide +kernel)) ggX7_turn_X7_practiseOn
set_option maxRecDepth 20000 in
theorem ggX7_turn_X7_layPoint_p0 : GoodIn wsX7_turn [.code yX7_layPoint cX7_layPoint 7 (some .boolean)] := goodIn_r _ [73] (by decide +kernel) (by decide +kernel)
theorem ggX7_turn_X7_layPoint_p1 : GoodIn wsX7_turn [.fieldLink RX7 32 "RuledStrokesModel" "one" "[I", .methodLink RX7 75 yX7_signature, .static yX7_signature, .initialized RX7, .code yX7_signature cX7_signature 8 (some .int), .methodLink RX7 57 yX7_next, .static yX7_next, .code yX7_next cX7_next 3 (some .int), .methodLink RX7 61 yX7_cross, .static yX7_cross, .code yX7_cross cX7_cross 13 (some .int), .methodLink RX7 49 yX7_size, .static yX7_size, .code yX7_size cX7_size 1 (some .int), .methodLink RX7 53 yX7_ahead, .static yX7_ahead, .code yX7_ahead cX7_ahead 4 (some .int)] := goodIn_r _ [22, 24, 25, 6, 26, 27, 28, 29, 30, 31, 32, 33, 34, 35, 36, 37, 38] (by decide +kernel) (by decide +kernel)
theorem ggX7_turn_X7_layPoint_p2 : GoodIn wsX7_turn wsX70 := goodIn_r _ [74, 75, 76, 77, 78, 79, 80, 81, 82, 83, 84, 85, 86, 87, 88, 89, 90, 91, 92] (by decide +kernel) (by decide +kernel)
theorem ggX7_turn_X7_layPoint : GoodIn wsX7_turn wsX7_layPoint := (goodIn_c2 ggX7_turn_X7_layPoint_p0 (goodIn_app ggX7_turn_X7_layPoint_p1 ggX7_turn_X7_layPoint_p2))
set_option maxRecDepth 20000 in
theorem gX7_turn_X7_layPoint : GoodIn wsX7_turn (wsV RX7 169 RX7 yX7_layPoint wsX7_layPoint) := goodIn_app (goodIn_of _ (by decide +kernel)) ggX7_turn_X7_layPoint
theorem dX7_turn_0 : decode cX7_turn 0 = .ok (.iload_n 1, 1) := by decide +kernel
theorem dX7_turn_1 : decode cX7_turn 1 = .ok (.bipush 16, 2) := by decide +kernel
theorem dX7_turn_3 : decode cX7_turn 3 = .ok (.irem, 1) := by decide +kernel
theorem dX7_turn_4 : decode cX7_turn 4 = .ok (.istore_n 2, 1) := by decide +kernel
theorem dX7_turn_5 : decode cX7_turn 5 = .ok (.iload_n 1, 1) := by decide +kernel
theorem dX7_turn_6 : decode cX7_turn 6 = .ok (.bipush 16, 2) := by decide +kernel
theorem dX7_turn_8 : decode cX7_turn 8 = .ok (.idiv, 1) := by decide +kernel
theorem dX7_turn_9 : decode cX7_turn 9 = .ok (.bipush 10, 2) := by decide +kernel
theorem dX7_turn_11 : decode cX7_turn 11 = .ok (.irem, 1) := by decide +kernel
theorem dX7_turn_12 : decode cX7_turn 12 = .ok (.istore_n 3, 1) := by decide +kernel
theorem dX7_turn_13 : decode cX7_turn 13 = .ok (.iload_n 2, 1) := by decide +kernel
theorem dX7_turn_14 : decode cX7_turn 14 = .ok (.ifCond .ne 11, 3) := by decide +kernel
theorem dX7_turn_17 : decode cX7_turn 17 = .ok (.aload_n 0, 1) := by decide +kernel
theorem dX7_turn_18 : decode cX7_turn 18 = .ok (.iload_n 3, 1) := by decide +kernel
theorem dX7_turn_19 : decode cX7_turn 19 = .ok (.invokevirtual 221, 3) := by decide +kernel
theorem dX7_turn_22 : decode cX7_turn 22 = .ok (.goto 83, 3) := by decide +kernel
theorem dX7_turn_25 : decode cX7_turn 25 = .ok (.iload_n 2, 1) := by decide +kernel
theorem dX7_turn_26 : decode cX7_turn 26 = .ok (.iconst 1, 1) := by decide +kernel
theorem dX7_turn_27 : decode cX7_turn 27 = .ok (.if_icmp .ne 25, 3) := by decide +kernel
theorem dX7_turn_30 : decode cX7_turn 30 = .ok (.aload_n 0, 1) := by decide +kernel
theorem dX7_turn_31 : decode cX7_turn 31 = .ok (.getfield 16, 3) := by decide +kernel
theorem dX7_turn_34 : decode cX7_turn 34 = .ok (.iconst 0, 1) := by decide +kernel
theorem dX7_turn_35 : decode cX7_turn 35 = .ok (.iaload, 1) := by decide +kernel
theorem dX7_turn_36 : decode cX7_turn 36 = .ok (.ifCond .le 69, 3) := by decide +kernel
theorem dX7_turn_39 : decode cX7_turn 39 = .ok (.aload_n 0, 1) := by decide +kernel
theorem dX7_turn_40 : decode cX7_turn 40 = .ok (.aload_n 0, 1) := by decide +kernel
theorem dX7_turn_41 : decode cX7_turn 41 = .ok (.getfield 16, 3) := by decide +kernel
theorem dX7_turn_44 : decode cX7_turn 44 = .ok (.iload_n 3, 1) := by decide +kernel
theorem dX7_turn_45 : decode cX7_turn 45 = .ok (.invokevirtual 188, 3) := by decide +kernel
theorem dX7_turn_48 : decode cX7_turn 48 = .ok (.pop, 1) := by decide +kernel
theorem dX7_turn_49 : decode cX7_turn 49 = .ok (.goto 56, 3) := by decide +kernel
theorem dX7_turn_52 : decode cX7_turn 52 = .ok (.iload_n 2, 1) := by decide +kernel
theorem dX7_turn_53 : decode cX7_turn 53 = .ok (.iconst 2, 1) := by decide +kernel
theorem dX7_turn_54 : decode cX7_turn 54 = .ok (.if_icmp .ne 14, 3) := by decide +kernel
theorem dX7_turn_57 : decode cX7_turn 57 = .ok (.aload_n 0, 1) := by decide +kernel
theorem dX7_turn_58 : decode cX7_turn 58 = .ok (.getfield 16, 3) := by decide +kernel
theorem dX7_turn_61 : decode cX7_turn 61 = .ok (.bipush 76, 2) := by decide +kernel
theorem dX7_turn_63 : decode cX7_turn 63 = .ok (.iconst 0, 1) := by decide +kernel
theorem dX7_turn_64 : decode cX7_turn 64 = .ok (.iastore, 1) := by decide +kernel
theorem dX7_turn_65 : decode cX7_turn 65 = .ok (.goto 40, 3) := by decide +kernel
theorem dX7_turn_68 : decode cX7_turn 68 = .ok (.aload_n 0, 1) := by decide +kernel
theorem dX7_turn_69 : decode cX7_turn 69 = .ok (.aload_n 0, 1) := by decide +kernel
theorem dX7_turn_70 : decode cX7_turn 70 = .ok (.getfield 16, 3) := by decide +kernel
theorem dX7_turn_73 : decode cX7_turn 73 = .ok (.iload_n 1, 1) := by decide +kernel
theorem dX7_turn_74 : decode cX7_turn 74 = .ok (.bipush 16, 2) := by decide +kernel
theorem dX7_turn_76 : decode cX7_turn 76 = .ok (.idiv, 1) := by decide +kernel
theorem dX7_turn_77 : decode cX7_turn 77 = .ok (.bipush 61, 2) := by decide +kernel
theorem dX7_turn_79 : decode cX7_turn 79 = .ok (.irem, 1) := by decide +kernel
theorem dX7_turn_80 : decode cX7_turn 80 = .ok (.iload_n 1, 1) := by decide +kernel
theorem dX7_turn_81 : decode cX7_turn 81 = .ok (.sipush 1024, 3) := by decide +kernel
theorem dX7_turn_84 : decode cX7_turn 84 = .ok (.idiv, 1) := by decide +kernel
theorem dX7_turn_85 : decode cX7_turn 85 = .ok (.bipush 61, 2) := by decide +kernel
theorem dX7_turn_87 : decode cX7_turn 87 = .ok (.irem, 1) := by decide +kernel
theorem dX7_turn_88 : decode cX7_turn 88 = .ok (.invokevirtual 169, 3) := by decide +kernel
theorem dX7_turn_91 : decode cX7_turn 91 = .ok (.ifCond .ne 14, 3) := by decide +kernel
theorem dX7_turn_94 : decode cX7_turn 94 = .ok (.aload_n 0, 1) := by decide +kernel
theorem dX7_turn_95 : decode cX7_turn 95 = .ok (.iload_n 1, 1) := by decide +kernel
theorem dX7_turn_96 : decode cX7_turn 96 = .ok (.ldc 224, 2) := by decide +kernel
theorem dX7_turn_98 : decode cX7_turn 98 = .ok (.idiv, 1) := by decide +kernel
theorem dX7_turn_99 : decode cX7_turn 99 = .ok (.bipush 10, 2) := by decide +kernel
theorem dX7_turn_101 : decode cX7_turn 101 = .ok (.irem, 1) := by decide +kernel
theorem dX7_turn_102 : decode cX7_turn 102 = .ok (.invokevirtual 221, 3) := by decide +kernel
theorem dX7_turn_105 : decode cX7_turn 105 = .ok (.return_, 1) := by decide +kernel
set_option maxRecDepth 20000 in
theorem ggX7_simulate_X7_in : GoodIn wsX7_simulate wsX7_in := goodIn_r _ [9] (by decide +kernel) (by decide +kernel)
set_option maxRecDepth 20000 in
theorem gX7_simulate_X7_in : GoodIn wsX7_simulate (va_wsS RX7 45 yX7_in wsX7_in) := goodIn_app (goodIn_of _ (by decide +kernel)) ggX7_simulate_X7_in
set_option maxRecDepth 20000 in
theorem ggX7_simulate_X7_refused : GoodIn wsX7_simulate wsX7_refused := goodIn_r _ [13, 14, 96, 97, 98, 99, 100, 101, 102, 103, 104, 105, 106, 107, 108, 109, 110, 111, 112, 113, 114] (by decide +kernel) (by decide +kernel)
set_option maxRecDepth 20000 in
theorem gX7_simulate_X7_refused : GoodIn wsX7_simulate (wsV RX7 102 RX7 yX7_refused wsX7_refused) := goodIn_app (goodIn_of _ (by decide +kernel)) ggX7_simulate_X7_refused
set_option maxRecDepth 20000 in
theorem ggX7_simulate_X7_copyState : GoodIn wsX7_simulate wsX7_copyState := goodIn_r _ [17] (by decide +kernel) (by decide +kernel)
set_option maxRecDepth 20000 in
theorem gX7_simulate_X7_copyState : GoodIn wsX7_simulate (va_wsS RX7 159 yX7_copyState wsX7_copyState) := goodIn_app (goodIn_of _ (by decide +kernel)) ggX7_simulate_X7_copyState
set_option maxRecDepth 20000 in
theorem ggX7_simulate_X7_turn_p0 : GoodIn wsX7_simulate [.code yX7_turn cX7_turn 4 none] := goodIn_r _ [21] (by decide +kernel) (by decide +kernel)
theorem ggX7_simulate_X7_turn_p1 : GoodIn wsX7_simulate wsX7_turn_r1 := goodIn_r _ [3, 22, 23, 24, 25, 8, 26, 27, 28, 29, 30, 31, 32, 33, 34, 35, 36, 37, 38, 39, 40, 41, 42, 43] (by decide +kernel) (by decide +kernel)
theorem ggX7_simulate_X7_turn_p2 : GoodIn wsX7_simulate wsX7_turn_r2 := goodIn_r _ [44, 45, 46, 47, 48, 49, 50, 51, 52, 53, 54, 55, 56, 57, 58, 59, 60, 61, 62, 63, 64, 65, 66, 67] (by decide +kernel) (by decide +kernel)
theorem ggX7_simulate_X7_turn_p3 : GoodIn wsX7_simulate wsX7_turn_r3 := goodIn_r _ [68, 69, 70, 71, 72, 73, 74, 75, 76, 77, 78, 79, 80, 81, 82, 83, 84, 85, 86, 87, 88, 89, 90, 91] (by decide +kernel) (by decide +kernel)
theorem ggX7_simulate_X7_turn_p4 : GoodIn wsX7_simulate wsX7_turn_r4 := goodIn_r _ [92] (by decide +kernel) (by decide +kernel)
theorem ggX7_simulate_X7_turn_p5 : GoodIn wsX7_simulate wsX70 := goodIn_r _ [96, 97, 98, 99, 100, 101, 102, 103, 104, 105, 106, 107, 108, 109, 110, 111, 112, 113, 114] (by decide +kernel) (by decide +kernel)
theorem ggX7_simulate_X7_turn : GoodIn wsX7_simulate wsX7_turn := (goodIn_c2 ggX7_simulate_X7_turn_p0 (goodIn_app (goodIn_app ggX7_simulate_X7_turn_p1 (goodIn_app ggX7_simulate_X7_turn_p2 (goodIn_app ggX7_simulate_X7_turn_p3 ggX7_simulate_X7_turn_p4))) ggX7_simulate_X7_turn_p5))
set_option maxRecDepth 20000 in
theorem gX7_simulate_X7_turn : GoodIn wsX7_simulate (wsV RX7 229 RX7 yX7_turn wsX7_turn) := goodIn_app (goodIn_of _ (by decide +kernel)) ggX7_simulate_X7_turn
set_option maxRecDepth 20000 in
theorem ggX7_simulate_X7_sum : GoodIn wsX7_simulate wsX7_sum := goodIn_r _ [95] (by decide +kernel) (by decide +kernel)
set_option maxRecDepth 20000 in
theorem gX7_simulate_X7_sum : GoodIn wsX7_simulate (va_wsS RX7 137 yX7_sum wsX7_sum) := goodIn_app (goodIn_of _ (by decide +kernel)) ggX7_simulate_X7_sum
theorem dX7_simulate_0 : decode cX7_simulate 0 = .ok (.aload_n 0, 1) := by decide +kernel
theorem dX7_simulate_1 : decode cX7_simulate 1 = .ok (.iload_n 3, 1) := by decide +kernel
theorem dX7_simulate_2 : decode cX7_simulate 2 = .ok (.i2l, 1) := by decide +kernel
theorem dX7_simulate_3 : decode cX7_simulate 3 = .ok (.lconst 1, 1) := by decide +kernel
theorem dX7_simulate_4 : decode cX7_simulate 4 = .ok (.ldc2_w 195, 3) := by decide +kernel
theorem dX7_simulate_7 : decode cX7_simulate 7 = .ok (.invokestatic 45, 3) := by decide +kernel
theorem dX7_simulate_10 : decode cX7_simulate 10 = .ok (.ifCond .eq 7, 3) := by decide +kernel
theorem dX7_simulate_13 : decode cX7_simulate 13 = .ok (.iconst 0, 1) := by decide +kernel
theorem dX7_simulate_14 : decode cX7_simulate 14 = .ok (.goto 4, 3) := by decide +kernel
theorem dX7_simulate_17 : decode cX7_simulate 17 = .ok (.iconst 1, 1) := by decide +kernel
theorem dX7_simulate_18 : decode cX7_simulate 18 = .ok (.invokevirtual 102, 3) := by decide +kernel
theorem dX7_simulate_21 : decode cX7_simulate 21 = .ok (.ifCond .eq 5, 3) := by decide +kernel
theorem dX7_simulate_24 : decode cX7_simulate 24 = .ok (.iconst 0, 1) := by decide +kernel
theorem dX7_simulate_25 : decode cX7_simulate 25 = .ok (.ireturn, 1) := by decide +kernel
theorem dX7_simulate_26 : decode cX7_simulate 26 = .ok (.aload_n 0, 1) := by decide +kernel
theorem dX7_simulate_27 : decode cX7_simulate 27 = .ok (.getfield 13, 3) := by decide +kernel
theorem dX7_simulate_30 : decode cX7_simulate 30 = .ok (.iconst 0, 1) := by decide +kernel
