theorem dX7_clearFigure_2 : decode cX7_clearFigure 2 = .ok (.iload_n 2, 1) := by decide +kernel
theorem dX7_clearFigure_3 : decode cX7_clearFigure 3 = .ok (.bipush 76, 2) := by decide +kernel
theorem dX7_clearFigure_5 : decode cX7_clearFigure 5 = .ok (.if_icmp .ge 15, 3) := by decide +kernel
theorem dX7_clearFigure_8 : decode cX7_clearFigure 8 = .ok (.aload_n 0, 1) := by decide +kernel
theorem dX7_clearFigure_9 : decode cX7_clearFigure 9 = .ok (.iload_n 1, 1) := by decide +kernel
theorem dX7_clearFigure_10 : decode cX7_clearFigure 10 = .ok (.iload_n 2, 1) := by decide +kernel
theorem dX7_clearFigure_11 : decode cX7_clearFigure 11 = .ok (.iadd, 1) := by decide +kernel
theorem dX7_clearFigure_12 : decode cX7_clearFigure 12 = .ok (.iconst 0, 1) := by decide +kernel
theorem dX7_clearFigure_13 : decode cX7_clearFigure 13 = .ok (.iastore, 1) := by decide +kernel
theorem dX7_clearFigure_14 : decode cX7_clearFigure 14 = .ok (.iinc 2 1, 3) := by decide +kernel
theorem dX7_clearFigure_17 : decode cX7_clearFigure 17 = .ok (.goto (-15), 3) := by decide +kernel
theorem dX7_clearFigure_20 : decode cX7_clearFigure 20 = .ok (.return_, 1) := by decide +kernel
theorem dX7_next_0 : decode cX7_next 0 = .ok (.iload_n 1, 1) := by decide +kernel
theorem dX7_next_1 : decode cX7_next 1 = .ok (.bipush 39, 2) := by decide +kernel
theorem dX7_next_3 : decode cX7_next 3 = .ok (.if_icmp .le 6, 3) := by decide +kernel
theorem dX7_next_6 : decode cX7_next 6 = .ok (.bipush 41, 2) := by decide +kernel
theorem dX7_next_8 : decode cX7_next 8 = .ok (.ireturn, 1) := by decide +kernel
theorem dX7_next_9 : decode cX7_next 9 = .ok (.aload_n 0, 1) := by decide +kernel
theorem dX7_next_10 : decode cX7_next 10 = .ok (.iload_n 1, 1) := by decide +kernel
theorem dX7_next_11 : decode cX7_next 11 = .ok (.iload_n 2, 1) := by decide +kernel
theorem dX7_next_12 : decode cX7_next 12 = .ok (.iastore, 1) := by decide +kernel
theorem dX7_next_13 : decode cX7_next 13 = .ok (.iload_n 1, 1) := by decide +kernel
theorem dX7_next_14 : decode cX7_next 14 = .ok (.iconst 1, 1) := by decide +kernel
theorem dX7_next_15 : decode cX7_next 15 = .ok (.iadd, 1) := by decide +kernel
theorem dX7_next_16 : decode cX7_next 16 = .ok (.ireturn, 1) := by decide +kernel
theorem dX7_ahead_0 : decode cX7_ahead 0 = .ok (.iload_n 1, 1) := by decide +kernel
theorem dX7_ahead_1 : decode cX7_ahead 1 = .ok (.iload_n 0, 1) := by decide +kernel
theorem dX7_ahead_2 : decode cX7_ahead 2 = .ok (.if_icmp .le 17, 3) := by decide +kernel
theorem dX7_ahead_5 : decode cX7_ahead 5 = .ok (.iload_n 0, 1) := by decide +kernel
theorem dX7_ahead_6 : decode cX7_ahead 6 = .ok (.iload_n 2, 1) := by decide +kernel
theorem dX7_ahead_7 : decode cX7_ahead 7 = .ok (.idiv, 1) := by decide +kernel
theorem dX7_ahead_8 : decode cX7_ahead 8 = .ok (.iconst 1, 1) := by decide +kernel
theorem dX7_ahead_9 : decode cX7_ahead 9 = .ok (.iadd, 1) := by decide +kernel
theorem dX7_ahead_10 : decode cX7_ahead 10 = .ok (.iload_n 3, 1) := by decide +kernel
theorem dX7_ahead_11 : decode cX7_ahead 11 = .ok (.iadd, 1) := by decide +kernel
theorem dX7_ahead_12 : decode cX7_ahead 12 = .ok (.iload_n 2, 1) := by decide +kernel
theorem dX7_ahead_13 : decode cX7_ahead 13 = .ok (.imul, 1) := by decide +kernel
theorem dX7_ahead_14 : decode cX7_ahead 14 = .ok (.iload_n 0, 1) := by decide +kernel
theorem dX7_ahead_15 : decode cX7_ahead 15 = .ok (.isub, 1) := by decide +kernel
theorem dX7_ahead_16 : decode cX7_ahead 16 = .ok (.goto 12, 3) := by decide +kernel
theorem dX7_ahead_19 : decode cX7_ahead 19 = .ok (.iload_n 0, 1) := by decide +kernel
theorem dX7_ahead_20 : decode cX7_ahead 20 = .ok (.iload_n 0, 1) := by decide +kernel
theorem dX7_ahead_21 : decode cX7_ahead 21 = .ok (.iload_n 2, 1) := by decide +kernel
theorem dX7_ahead_22 : decode cX7_ahead 22 = .ok (.idiv, 1) := by decide +kernel
theorem dX7_ahead_23 : decode cX7_ahead 23 = .ok (.iload_n 3, 1) := by decide +kernel
theorem dX7_ahead_24 : decode cX7_ahead 24 = .ok (.isub, 1) := by decide +kernel
theorem dX7_ahead_25 : decode cX7_ahead 25 = .ok (.iload_n 2, 1) := by decide +kernel
theorem dX7_ahead_26 : decode cX7_ahead 26 = .ok (.imul, 1) := by decide +kernel
theorem dX7_ahead_27 : decode cX7_ahead 27 = .ok (.isub, 1) := by decide +kernel
theorem dX7_ahead_28 : decode cX7_ahead 28 = .ok (.ireturn, 1) := by decide +kernel
set_option maxRecDepth 20000 in
theorem ggX7_cross_X7_size : GoodIn wsX7_cross wsX7_size := goodIn_r _ [4] (by decide +kernel) (by decide +kernel)
set_option maxRecDepth 20000 in
theorem gX7_cross_X7_size : GoodIn wsX7_cross (va_wsS RX7 49 yX7_size wsX7_size) := goodIn_app (goodIn_of _ (by decide +kernel)) ggX7_cross_X7_size
set_option maxRecDepth 20000 in
theorem ggX7_cross_X7_ahead : GoodIn wsX7_cross wsX7_ahead := goodIn_r _ [7] (by decide +kernel) (by decide +kernel)
set_option maxRecDepth 20000 in
theorem gX7_cross_X7_ahead : GoodIn wsX7_cross (va_wsS RX7 53 yX7_ahead wsX7_ahead) := goodIn_app (goodIn_of _ (by decide +kernel)) ggX7_cross_X7_ahead
set_option maxRecDepth 20000 in
theorem ggX7_cross_X7_next : GoodIn wsX7_cross wsX7_next := goodIn_r _ [10] (by decide +kernel) (by decide +kernel)
set_option maxRecDepth 20000 in
theorem gX7_cross_X7_next : GoodIn wsX7_cross (va_wsS RX7 57 yX7_next wsX7_next) := goodIn_app (goodIn_of _ (by decide +kernel)) ggX7_cross_X7_next
theorem dX7_cross_0 : decode cX7_cross 0 = .ok (.iload 4, 2) := by decide +kernel
theorem dX7_cross_2 : decode cX7_cross 2 = .ok (.iload 6, 2) := by decide +kernel
theorem dX7_cross_4 : decode cX7_cross 4 = .ok (.idiv, 1) := by decide +kernel
theorem dX7_cross_5 : decode cX7_cross 5 = .ok (.iload_n 2, 1) := by decide +kernel
theorem dX7_cross_6 : decode cX7_cross 6 = .ok (.iload 6, 2) := by decide +kernel
theorem dX7_cross_8 : decode cX7_cross 8 = .ok (.idiv, 1) := by decide +kernel
theorem dX7_cross_9 : decode cX7_cross 9 = .ok (.isub, 1) := by decide +kernel
theorem dX7_cross_10 : decode cX7_cross 10 = .ok (.invokestatic 49, 3) := by decide +kernel
theorem dX7_cross_13 : decode cX7_cross 13 = .ok (.istore 7, 2) := by decide +kernel
theorem dX7_cross_15 : decode cX7_cross 15 = .ok (.iload 5, 2) := by decide +kernel
theorem dX7_cross_17 : decode cX7_cross 17 = .ok (.iload 6, 2) := by decide +kernel
theorem dX7_cross_19 : decode cX7_cross 19 = .ok (.idiv, 1) := by decide +kernel
theorem dX7_cross_20 : decode cX7_cross 20 = .ok (.iload_n 3, 1) := by decide +kernel
theorem dX7_cross_21 : decode cX7_cross 21 = .ok (.iload 6, 2) := by decide +kernel
theorem dX7_cross_23 : decode cX7_cross 23 = .ok (.idiv, 1) := by decide +kernel
theorem dX7_cross_24 : decode cX7_cross 24 = .ok (.isub, 1) := by decide +kernel
theorem dX7_cross_25 : decode cX7_cross 25 = .ok (.invokestatic 49, 3) := by decide +kernel
theorem dX7_cross_28 : decode cX7_cross 28 = .ok (.istore 8, 2) := by decide +kernel
theorem dX7_cross_30 : decode cX7_cross 30 = .ok (.iconst 0, 1) := by decide +kernel
theorem dX7_cross_31 : decode cX7_cross 31 = .ok (.istore 9, 2) := by decide +kernel
theorem dX7_cross_33 : decode cX7_cross 33 = .ok (.iconst 0, 1) := by decide +kernel
theorem dX7_cross_34 : decode cX7_cross 34 = .ok (.istore 10, 2) := by decide +kernel
theorem dX7_cross_36 : decode cX7_cross 36 = .ok (.iload_n 1, 1) := by decide +kernel
theorem dX7_cross_37 : decode cX7_cross 37 = .ok (.istore 11, 2) := by decide +kernel
theorem dX7_cross_39 : decode cX7_cross 39 = .ok (.iload 9, 2) := by decide +kernel
theorem dX7_cross_41 : decode cX7_cross 41 = .ok (.iload 7, 2) := by decide +kernel
theorem dX7_cross_43 : decode cX7_cross 43 = .ok (.if_icmp .lt 10, 3) := by decide +kernel
theorem dX7_cross_46 : decode cX7_cross 46 = .ok (.iload 10, 2) := by decide +kernel
theorem dX7_cross_48 : decode cX7_cross 48 = .ok (.iload 8, 2) := by decide +kernel
theorem dX7_cross_50 : decode cX7_cross 50 = .ok (.if_icmp .ge 137, 3) := by decide +kernel
theorem dX7_cross_53 : decode cX7_cross 53 = .ok (.iload 11, 2) := by decide +kernel
theorem dX7_cross_55 : decode cX7_cross 55 = .ok (.bipush 40, 2) := by decide +kernel
theorem dX7_cross_57 : decode cX7_cross 57 = .ok (.if_icmp .gt 130, 3) := by decide +kernel
theorem dX7_cross_60 : decode cX7_cross 60 = .ok (.iload 9, 2) := by decide +kernel
theorem dX7_cross_62 : decode cX7_cross 62 = .ok (.iload 7, 2) := by decide +kernel
theorem dX7_cross_64 : decode cX7_cross 64 = .ok (.if_icmp .ge 7, 3) := by decide +kernel
theorem dX7_cross_67 : decode cX7_cross 67 = .ok (.iconst 1, 1) := by decide +kernel
theorem dX7_cross_68 : decode cX7_cross 68 = .ok (.goto 4, 3) := by decide +kernel
theorem dX7_cross_71 : decode cX7_cross 71 = .ok (.iconst 0, 1) := by decide +kernel
theorem dX7_cross_72 : decode cX7_cross 72 = .ok (.istore 12, 2) := by decide +kernel
theorem dX7_cross_74 : decode cX7_cross 74 = .ok (.iload 12, 2) := by decide +kernel
theorem dX7_cross_76 : decode cX7_cross 76 = .ok (.ifCond .eq 56, 3) := by decide +kernel
theorem dX7_cross_79 : decode cX7_cross 79 = .ok (.iload 10, 2) := by decide +kernel
theorem dX7_cross_81 : decode cX7_cross 81 = .ok (.iload 8, 2) := by decide +kernel
theorem dX7_cross_83 : decode cX7_cross 83 = .ok (.if_icmp .ge 49, 3) := by decide +kernel
theorem dX7_cross_86 : decode cX7_cross 86 = .ok (.iload_n 2, 1) := by decide +kernel
theorem dX7_cross_87 : decode cX7_cross 87 = .ok (.iload 4, 2) := by decide +kernel
theorem dX7_cross_89 : decode cX7_cross 89 = .ok (.iload 6, 2) := by decide +kernel
theorem dX7_cross_91 : decode cX7_cross 91 = .ok (.iload 9, 2) := by decide +kernel
theorem dX7_cross_93 : decode cX7_cross 93 = .ok (.invokestatic 53, 3) := by decide +kernel
theorem dX7_cross_96 : decode cX7_cross 96 = .ok (.iload 5, 2) := by decide +kernel
theorem dX7_cross_98 : decode cX7_cross 98 = .ok (.iload_n 3, 1) := by decide +kernel
theorem dX7_cross_99 : decode cX7_cross 99 = .ok (.isub, 1) := by decide +kernel
theorem dX7_cross_100 : decode cX7_cross 100 = .ok (.invokestatic 49, 3) := by decide +kernel
theorem dX7_cross_103 : decode cX7_cross 103 = .ok (.imul, 1) := by decide +kernel
theorem dX7_cross_104 : decode cX7_cross 104 = .ok (.iload_n 3, 1) := by decide +kernel
theorem dX7_cross_105 : decode cX7_cross 105 = .ok (.iload 5, 2) := by decide +kernel
theorem dX7_cross_107 : decode cX7_cross 107 = .ok (.iload 6, 2) := by decide +kernel
theorem dX7_cross_109 : decode cX7_cross 109 = .ok (.iload 10, 2) := by decide +kernel
theorem dX7_cross_111 : decode cX7_cross 111 = .ok (.invokestatic 53, 3) := by decide +kernel
theorem dX7_cross_114 : decode cX7_cross 114 = .ok (.iload 4, 2) := by decide +kernel
theorem dX7_cross_116 : decode cX7_cross 116 = .ok (.iload_n 2, 1) := by decide +kernel
theorem dX7_cross_117 : decode cX7_cross 117 = .ok (.isub, 1) := by decide +kernel
theorem dX7_cross_118 : decode cX7_cross 118 = .ok (.invokestatic 49, 3) := by decide +kernel
theorem dX7_cross_121 : decode cX7_cross 121 = .ok (.imul, 1) := by decide +kernel
theorem dX7_cross_122 : decode cX7_cross 122 = .ok (.if_icmp .gt 7, 3) := by decide +kernel
theorem dX7_cross_125 : decode cX7_cross 125 = .ok (.iconst 1, 1) := by decide +kernel
theorem dX7_cross_126 : decode cX7_cross 126 = .ok (.goto 4, 3) := by decide +kernel
theorem dX7_cross_129 : decode cX7_cross 129 = .ok (.iconst 0, 1) := by decide +kernel
theorem dX7_cross_130 : decode cX7_cross 130 = .ok (.istore 12, 2) := by decide +kernel
theorem dX7_cross_132 : decode cX7_cross 132 = .ok (.iload 12, 2) := by decide +kernel
theorem dX7_cross_134 : decode cX7_cross 134 = .ok (.ifCond .eq 28, 3) := by decide +kernel
theorem dX7_cross_137 : decode cX7_cross 137 = .ok (.aload_n 0, 1) := by decide +kernel
theorem dX7_cross_138 : decode cX7_cross 138 = .ok (.iload 11, 2) := by decide +kernel
theorem dX7_cross_140 : decode cX7_cross 140 = .ok (.iload 4, 2) := by decide +kernel
theorem dX7_cross_142 : decode cX7_cross 142 = .ok (.iload_n 2, 1) := by decide +kernel
theorem dX7_cross_143 : decode cX7_cross 143 = .ok (.if_icmp .le 7, 3) := by decide +kernel
theorem dX7_cross_146 : decode cX7_cross 146 = .ok (.iconst 0, 1) := by decide +kernel
theorem dX7_cross_147 : decode cX7_cross 147 = .ok (.goto 4, 3) := by decide +kernel
theorem dX7_cross_150 : decode cX7_cross 150 = .ok (.iconst 2, 1) := by decide +kernel
theorem dX7_cross_151 : decode cX7_cross 151 = .ok (.invokestatic 57, 3) := by decide +kernel
theorem dX7_cross_154 : decode cX7_cross 154 = .ok (.istore 11, 2) := by decide +kernel
theorem dX7_cross_156 : decode cX7_cross 156 = .ok (.iinc 9 1, 3) := by decide +kernel
theorem dX7_cross_159 : decode cX7_cross 159 = .ok (.goto 25, 3) := by decide +kernel
theorem dX7_cross_162 : decode cX7_cross 162 = .ok (.aload_n 0, 1) := by decide +kernel
theorem dX7_cross_163 : decode cX7_cross 163 = .ok (.iload 11, 2) := by decide +kernel
theorem dX7_cross_165 : decode cX7_cross 165 = .ok (.iload 5, 2) := by decide +kernel
theorem dX7_cross_167 : decode cX7_cross 167 = .ok (.iload_n 3, 1) := by decide +kernel
theorem dX7_cross_168 : decode cX7_cross 168 = .ok (.if_icmp .le 7, 3) := by decide +kernel
theorem dX7_cross_171 : decode cX7_cross 171 = .ok (.iconst 1, 1) := by decide +kernel
theorem dX7_cross_172 : decode cX7_cross 172 = .ok (.goto 4, 3) := by decide +kernel
theorem dX7_cross_175 : decode cX7_cross 175 = .ok (.iconst 3, 1) := by decide +kernel
theorem dX7_cross_176 : decode cX7_cross 176 = .ok (.invokestatic 57, 3) := by decide +kernel
theorem dX7_cross_179 : decode cX7_cross 179 = .ok (.istore 11, 2) := by decide +kernel
theorem dX7_cross_181 : decode cX7_cross 181 = .ok (.iinc 10 1, 3) := by decide +kernel
theorem dX7_cross_184 : decode cX7_cross 184 = .ok (.goto (-145), 3) := by decide +kernel
theorem dX7_cross_187 : decode cX7_cross 187 = .ok (.iload 11, 2) := by decide +kernel
theorem dX7_cross_189 : decode cX7_cross 189 = .ok (.ireturn, 1) := by decide +kernel
set_option maxRecDepth 20000 in
theorem ggX7_signature_X7_next : GoodIn wsX7_signature wsX7_next := goodIn_r _ [4] (by decide +kernel) (by decide +kernel)
set_option maxRecDepth 20000 in
theorem gX7_signature_X7_next : GoodIn wsX7_signature (va_wsS RX7 57 yX7_next wsX7_next) := goodIn_app (goodIn_of _ (by decide +kernel)) ggX7_signature_X7_next
set_option maxRecDepth 20000 in
theorem ggX7_signature_X7_cross : GoodIn wsX7_signature wsX7_cross := goodIn_r _ [7, 8, 9, 3, 10, 11, 12, 13, 1, 2, 4] (by decide +kernel) (by decide +kernel)
set_option maxRecDepth 20000 in
theorem gX7_signature_X7_cross : GoodIn wsX7_signature (va_wsS RX7 61 yX7_cross wsX7_cross) := goodIn_app (goodIn_of _ (by decide +kernel)) ggX7_signature_X7_cross
theorem dX7_signature_0 : decode cX7_signature 0 = .ok (.iconst 0, 1) := by decide +kernel
theorem dX7_signature_1 : decode cX7_signature 1 = .ok (.istore 4, 2) := by decide +kernel
theorem dX7_signature_3 : decode cX7_signature 3 = .ok (.iconst 0, 1) := by decide +kernel
theorem dX7_signature_4 : decode cX7_signature 4 = .ok (.istore 5, 2) := by decide +kernel
theorem dX7_signature_6 : decode cX7_signature 6 = .ok (.iload 5, 2) := by decide +kernel
theorem dX7_signature_8 : decode cX7_signature 8 = .ok (.aload_n 0, 1) := by decide +kernel
theorem dX7_signature_9 : decode cX7_signature 9 = .ok (.iload_n 1, 1) := by decide +kernel
theorem dX7_signature_10 : decode cX7_signature 10 = .ok (.iaload, 1) := by decide +kernel
theorem dX7_signature_11 : decode cX7_signature 11 = .ok (.if_icmp .ge 97, 3) := by decide +kernel
theorem dX7_signature_14 : decode cX7_signature 14 = .ok (.iload 5, 2) := by decide +kernel
theorem dX7_signature_16 : decode cX7_signature 16 = .ok (.ifCond .le 13, 3) := by decide +kernel
theorem dX7_signature_19 : decode cX7_signature 19 = .ok (.aload_n 3, 1) := by decide +kernel
theorem dX7_signature_20 : decode cX7_signature 20 = .ok (.iload 4, 2) := by decide +kernel
theorem dX7_signature_22 : decode cX7_signature 22 = .ok (.iconst 4, 1) := by decide +kernel
theorem dX7_signature_23 : decode cX7_signature 23 = .ok (.invokestatic 57, 3) := by decide +kernel
theorem dX7_signature_26 : decode cX7_signature 26 = .ok (.goto 5, 3) := by decide +kernel
theorem dX7_signature_29 : decode cX7_signature 29 = .ok (.iload 4, 2) := by decide +kernel
theorem dX7_signature_31 : decode cX7_signature 31 = .ok (.istore 4, 2) := by decide +kernel
theorem dX7_signature_33 : decode cX7_signature 33 = .ok (.iconst 1, 1) := by decide +kernel
theorem dX7_signature_34 : decode cX7_signature 34 = .ok (.istore 6, 2) := by decide +kernel
theorem dX7_signature_36 : decode cX7_signature 36 = .ok (.iload 6, 2) := by decide +kernel
theorem dX7_signature_38 : decode cX7_signature 38 = .ok (.aload_n 0, 1) := by decide +kernel
theorem dX7_signature_39 : decode cX7_signature 39 = .ok (.iload_n 1, 1) := by decide +kernel
theorem dX7_signature_40 : decode cX7_signature 40 = .ok (.iconst 1, 1) := by decide +kernel
theorem dX7_signature_41 : decode cX7_signature 41 = .ok (.iadd, 1) := by decide +kernel
theorem dX7_signature_42 : decode cX7_signature 42 = .ok (.iload 5, 2) := by decide +kernel
theorem dX7_signature_44 : decode cX7_signature 44 = .ok (.iadd, 1) := by decide +kernel
theorem dX7_signature_45 : decode cX7_signature 45 = .ok (.iaload, 1) := by decide +kernel
theorem dX7_signature_46 : decode cX7_signature 46 = .ok (.if_icmp .ge 56, 3) := by decide +kernel
theorem dX7_signature_49 : decode cX7_signature 49 = .ok (.iload_n 1, 1) := by decide +kernel
theorem dX7_signature_50 : decode cX7_signature 50 = .ok (.iconst 4, 1) := by decide +kernel
theorem dX7_signature_51 : decode cX7_signature 51 = .ok (.iadd, 1) := by decide +kernel
theorem dX7_signature_52 : decode cX7_signature 52 = .ok (.bipush 24, 2) := by decide +kernel
theorem dX7_signature_54 : decode cX7_signature 54 = .ok (.iload 5, 2) := by decide +kernel
theorem dX7_signature_56 : decode cX7_signature 56 = .ok (.imul, 1) := by decide +kernel
theorem dX7_signature_57 : decode cX7_signature 57 = .ok (.iadd, 1) := by decide +kernel
theorem dX7_signature_58 : decode cX7_signature 58 = .ok (.iconst 2, 1) := by decide +kernel
theorem dX7_signature_59 : decode cX7_signature 59 = .ok (.iload 6, 2) := by decide +kernel
theorem dX7_signature_61 : decode cX7_signature 61 = .ok (.imul, 1) := by decide +kernel
theorem dX7_signature_62 : decode cX7_signature 62 = .ok (.iadd, 1) := by decide +kernel
theorem dX7_signature_63 : decode cX7_signature 63 = .ok (.istore 7, 2) := by decide +kernel
theorem dX7_signature_65 : decode cX7_signature 65 = .ok (.aload_n 3, 1) := by decide +kernel
theorem dX7_signature_66 : decode cX7_signature 66 = .ok (.iload 4, 2) := by decide +kernel
theorem dX7_signature_68 : decode cX7_signature 68 = .ok (.aload_n 0, 1) := by decide +kernel
theorem dX7_signature_69 : decode cX7_signature 69 = .ok (.iload 7, 2) := by decide +kernel
theorem dX7_signature_71 : decode cX7_signature 71 = .ok (.iconst 2, 1) := by decide +kernel
theorem dX7_signature_72 : decode cX7_signature 72 = .ok (.isub, 1) := by decide +kernel
theorem dX7_signature_73 : decode cX7_signature 73 = .ok (.iaload, 1) := by decide +kernel
theorem dX7_signature_74 : decode cX7_signature 74 = .ok (.aload_n 0, 1) := by decide +kernel
theorem dX7_signature_75 : decode cX7_signature 75 = .ok (.iload 7, 2) := by decide +kernel
theorem dX7_signature_77 : decode cX7_signature 77 = .ok (.iconst 1, 1) := by decide +kernel
theorem dX7_signature_78 : decode cX7_signature 78 = .ok (.isub, 1) := by decide +kernel
theorem dX7_signature_79 : decode cX7_signature 79 = .ok (.iaload, 1) := by decide +kernel
theorem dX7_signature_80 : decode cX7_signature 80 = .ok (.aload_n 0, 1) := by decide +kernel
theorem dX7_signature_81 : decode cX7_signature 81 = .ok (.iload 7, 2) := by decide +kernel
theorem dX7_signature_83 : decode cX7_signature 83 = .ok (.iaload, 1) := by decide +kernel
theorem dX7_signature_84 : decode cX7_signature 84 = .ok (.aload_n 0, 1) := by decide +kernel
theorem dX7_signature_85 : decode cX7_signature 85 = .ok (.iload 7, 2) := by decide +kernel
theorem dX7_signature_87 : decode cX7_signature 87 = .ok (.iconst 1, 1) := by decide +kernel
theorem dX7_signature_88 : decode cX7_signature 88 = .ok (.iadd, 1) := by decide +kernel
theorem dX7_signature_89 : decode cX7_signature 89 = .ok (.iaload, 1) := by decide +kernel
theorem dX7_signature_90 : decode cX7_signature 90 = .ok (.iload_n 2, 1) := by decide +kernel
theorem dX7_signature_91 : decode cX7_signature 91 = .ok (.invokestatic 61, 3) := by decide +kernel
theorem dX7_signature_94 : decode cX7_signature 94 = .ok (.istore 4, 2) := by decide +kernel
theorem dX7_signature_96 : decode cX7_signature 96 = .ok (.iinc 6 1, 3) := by decide +kernel
theorem dX7_signature_99 : decode cX7_signature 99 = .ok (.goto (-63), 3) := by decide +kernel
theorem dX7_signature_102 : decode cX7_signature 102 = .ok (.iinc 5 1, 3) := by decide +kernel
theorem dX7_signature_105 : decode cX7_signature 105 = .ok (.goto (-99), 3) := by decide +kernel
theorem dX7_signature_108 : decode cX7_signature 108 = .ok (.iload 4, 2) := by decide +kernel
theorem dX7_signature_110 : decode cX7_signature 110 = .ok (.ireturn, 1) := by decide +kernel
theorem dX7_alone_0 : decode cX7_alone 0 = .ok (.iload_n 0, 1) := by decide +kernel
theorem dX7_alone_1 : decode cX7_alone 1 = .ok (.iconst 4, 1) := by decide +kernel
theorem dX7_alone_2 : decode cX7_alone 2 = .ok (.if_icmp .ne 7, 3) := by decide +kernel
theorem dX7_alone_5 : decode cX7_alone 5 = .ok (.iconst 3, 1) := by decide +kernel
theorem dX7_alone_6 : decode cX7_alone 6 = .ok (.goto 4, 3) := by decide +kernel
theorem dX7_alone_9 : decode cX7_alone 9 = .ok (.iconst 2, 1) := by decide +kernel
theorem dX7_alone_10 : decode cX7_alone 10 = .ok (.ireturn, 1) := by decide +kernel
set_option maxRecDepth 20000 in
theorem ggX7_instead_X7_size : GoodIn wsX7_instead wsX7_size := goodIn_r _ [4] (by decide +kernel) (by decide +kernel)
set_option maxRecDepth 20000 in
theorem gX7_instead_X7_size : GoodIn wsX7_instead (va_wsS RX7 49 yX7_size wsX7_size) := goodIn_app (goodIn_of _ (by decide +kernel)) ggX7_instead_X7_size
theorem dX7_instead_0 : decode cX7_instead 0 = .ok (.iload_n 0, 1) := by decide +kernel
theorem dX7_instead_1 : decode cX7_instead 1 = .ok (.iload_n 1, 1) := by decide +kernel
theorem dX7_instead_2 : decode cX7_instead 2 = .ok (.if_icmp .ne 7, 3) := by decide +kernel
theorem dX7_instead_5 : decode cX7_instead 5 = .ok (.iconst 0, 1) := by decide +kernel
theorem dX7_instead_6 : decode cX7_instead 6 = .ok (.goto 32, 3) := by decide +kernel
theorem dX7_instead_9 : decode cX7_instead 9 = .ok (.iload_n 0, 1) := by decide +kernel
theorem dX7_instead_10 : decode cX7_instead 10 = .ok (.iconst 4, 1) := by decide +kernel
theorem dX7_instead_11 : decode cX7_instead 11 = .ok (.if_icmp .eq 8, 3) := by decide +kernel
theorem dX7_instead_14 : decode cX7_instead 14 = .ok (.iload_n 1, 1) := by decide +kernel
theorem dX7_instead_15 : decode cX7_instead 15 = .ok (.iconst 4, 1) := by decide +kernel
theorem dX7_instead_16 : decode cX7_instead 16 = .ok (.if_icmp .ne 7, 3) := by decide +kernel
theorem dX7_instead_19 : decode cX7_instead 19 = .ok (.iconst 5, 1) := by decide +kernel
theorem dX7_instead_20 : decode cX7_instead 20 = .ok (.goto 18, 3) := by decide +kernel
theorem dX7_instead_23 : decode cX7_instead 23 = .ok (.iload_n 0, 1) := by decide +kernel
theorem dX7_instead_24 : decode cX7_instead 24 = .ok (.iload_n 1, 1) := by decide +kernel
theorem dX7_instead_25 : decode cX7_instead 25 = .ok (.isub, 1) := by decide +kernel
theorem dX7_instead_26 : decode cX7_instead 26 = .ok (.invokestatic 49, 3) := by decide +kernel
theorem dX7_instead_29 : decode cX7_instead 29 = .ok (.iconst 2, 1) := by decide +kernel
theorem dX7_instead_30 : decode cX7_instead 30 = .ok (.if_icmp .ne 7, 3) := by decide +kernel
theorem dX7_instead_33 : decode cX7_instead 33 = .ok (.iconst 3, 1) := by decide +kernel
theorem dX7_instead_34 : decode cX7_instead 34 = .ok (.goto 4, 3) := by decide +kernel
theorem dX7_instead_37 : decode cX7_instead 37 = .ok (.iconst 2, 1) := by decide +kernel
theorem dX7_instead_38 : decode cX7_instead 38 = .ok (.ireturn, 1) := by decide +kernel
theorem dX7_least_0 : decode cX7_least 0 = .ok (.iload_n 0, 1) := by decide +kernel
theorem dX7_least_1 : decode cX7_least 1 = .ok (.iload_n 1, 1) := by decide +kernel
theorem dX7_least_2 : decode cX7_least 2 = .ok (.if_icmp .ge 7, 3) := by decide +kernel
theorem dX7_least_5 : decode cX7_least 5 = .ok (.iload_n 0, 1) := by decide +kernel
theorem dX7_least_6 : decode cX7_least 6 = .ok (.goto 4, 3) := by decide +kernel
theorem dX7_least_9 : decode cX7_least 9 = .ok (.iload_n 1, 1) := by decide +kernel
theorem dX7_least_10 : decode cX7_least 10 = .ok (.ireturn, 1) := by decide +kernel
set_option maxRecDepth 20000 in
theorem ggX7_distance_X7_alone : GoodIn wsX7_distance wsX7_alone := goodIn_r _ [7] (by decide +kernel) (by decide +kernel)
set_option maxRecDepth 20000 in
theorem gX7_distance_X7_alone : GoodIn wsX7_distance (va_wsS RX7 65 yX7_alone wsX7_alone) := goodIn_app (goodIn_of _ (by decide +kernel)) ggX7_distance_X7_alone
set_option maxRecDepth 20000 in
theorem ggX7_distance_X7_least : GoodIn wsX7_distance wsX7_least := goodIn_r _ [10] (by decide +kernel) (by decide +kernel)
set_option maxRecDepth 20000 in
theorem gX7_distance_X7_least : GoodIn wsX7_distance (va_wsS RX7 68 yX7_least wsX7_least) := goodIn_app (goodIn_of _ (by decide +kernel)) ggX7_distance_X7_least
set_option maxRecDepth 20000 in
theorem ggX7_distance_X7_instead : GoodIn wsX7_distance wsX7_instead := goodIn_r _ [13, 14, 15, 6, 16] (by decide +kernel) (by decide +kernel)
set_option maxRecDepth 20000 in
theorem gX7_distance_X7_instead : GoodIn wsX7_distance (va_wsS RX7 72 yX7_instead wsX7_instead) := goodIn_app (goodIn_of _ (by decide +kernel)) ggX7_distance_X7_instead
theorem dX7_distance_0 : decode cX7_distance 0 = .ok (.iconst 0, 1) := by decide +kernel
theorem dX7_distance_1 : decode cX7_distance 1 = .ok (.istore_n 3, 1) := by decide +kernel
theorem dX7_distance_2 : decode cX7_distance 2 = .ok (.iload_n 3, 1) := by decide +kernel
theorem dX7_distance_3 : decode cX7_distance 3 = .ok (.iload_n 1, 1) := by decide +kernel
theorem dX7_distance_4 : decode cX7_distance 4 = .ok (.if_icmp .gt 200, 3) := by decide +kernel
theorem dX7_distance_7 : decode cX7_distance 7 = .ok (.iconst 0, 1) := by decide +kernel
theorem dX7_distance_8 : decode cX7_distance 8 = .ok (.istore 4, 2) := by decide +kernel
theorem dX7_distance_10 : decode cX7_distance 10 = .ok (.iload 4, 2) := by decide +kernel
theorem dX7_distance_12 : decode cX7_distance 12 = .ok (.iload_n 2, 1) := by decide +kernel
theorem dX7_distance_13 : decode cX7_distance 13 = .ok (.if_icmp .gt 185, 3) := by decide +kernel
theorem dX7_distance_16 : decode cX7_distance 16 = .ok (.iload_n 3, 1) := by decide +kernel
theorem dX7_distance_17 : decode cX7_distance 17 = .ok (.ifCond .ne 12, 3) := by decide +kernel
theorem dX7_distance_20 : decode cX7_distance 20 = .ok (.iload 4, 2) := by decide +kernel
theorem dX7_distance_22 : decode cX7_distance 22 = .ok (.ifCond .ne 7, 3) := by decide +kernel
theorem dX7_distance_25 : decode cX7_distance 25 = .ok (.iconst 0, 1) := by decide +kernel
theorem dX7_distance_26 : decode cX7_distance 26 = .ok (.goto 6, 3) := by decide +kernel
theorem dX7_distance_29 : decode cX7_distance 29 = .ok (.sipush 1000, 3) := by decide +kernel
theorem dX7_distance_32 : decode cX7_distance 32 = .ok (.istore 5, 2) := by decide +kernel
theorem dX7_distance_34 : decode cX7_distance 34 = .ok (.iload_n 3, 1) := by decide +kernel
theorem dX7_distance_35 : decode cX7_distance 35 = .ok (.ifCond .le 37, 3) := by decide +kernel
theorem dX7_distance_38 : decode cX7_distance 38 = .ok (.iload 5, 2) := by decide +kernel
theorem dX7_distance_40 : decode cX7_distance 40 = .ok (.aload_n 0, 1) := by decide +kernel
theorem dX7_distance_41 : decode cX7_distance 41 = .ok (.getfield 38, 3) := by decide +kernel
theorem dX7_distance_44 : decode cX7_distance 44 = .ok (.bipush 41, 2) := by decide +kernel
theorem dX7_distance_46 : decode cX7_distance 46 = .ok (.iload_n 3, 1) := by decide +kernel
theorem dX7_distance_47 : decode cX7_distance 47 = .ok (.iconst 1, 1) := by decide +kernel
theorem dX7_distance_48 : decode cX7_distance 48 = .ok (.isub, 1) := by decide +kernel
theorem dX7_distance_49 : decode cX7_distance 49 = .ok (.imul, 1) := by decide +kernel
theorem dX7_distance_50 : decode cX7_distance 50 = .ok (.iload 4, 2) := by decide +kernel
theorem dX7_distance_52 : decode cX7_distance 52 = .ok (.iadd, 1) := by decide +kernel
theorem dX7_distance_53 : decode cX7_distance 53 = .ok (.iaload, 1) := by decide +kernel
theorem dX7_distance_54 : decode cX7_distance 54 = .ok (.aload_n 0, 1) := by decide +kernel
theorem dX7_distance_55 : decode cX7_distance 55 = .ok (.getfield 32, 3) := by decide +kernel
theorem dX7_distance_58 : decode cX7_distance 58 = .ok (.iload_n 3, 1) := by decide +kernel
theorem dX7_distance_59 : decode cX7_distance 59 = .ok (.iconst 1, 1) := by decide +kernel
theorem dX7_distance_60 : decode cX7_distance 60 = .ok (.isub, 1) := by decide +kernel
theorem dX7_distance_61 : decode cX7_distance 61 = .ok (.iaload, 1) := by decide +kernel
theorem dX7_distance_62 : decode cX7_distance 62 = .ok (.invokestatic 65, 3) := by decide +kernel
theorem dX7_distance_65 : decode cX7_distance 65 = .ok (.iadd, 1) := by decide +kernel
theorem dX7_distance_66 : decode cX7_distance 66 = .ok (.invokestatic 68, 3) := by decide +kernel
theorem dX7_distance_69 : decode cX7_distance 69 = .ok (.goto 5, 3) := by decide +kernel
theorem dX7_distance_72 : decode cX7_distance 72 = .ok (.iload 5, 2) := by decide +kernel
theorem dX7_distance_74 : decode cX7_distance 74 = .ok (.istore 5, 2) := by decide +kernel
theorem dX7_distance_76 : decode cX7_distance 76 = .ok (.iload 4, 2) := by decide +kernel
theorem dX7_distance_78 : decode cX7_distance 78 = .ok (.ifCond .le 38, 3) := by decide +kernel
theorem dX7_distance_81 : decode cX7_distance 81 = .ok (.iload 5, 2) := by decide +kernel
theorem dX7_distance_83 : decode cX7_distance 83 = .ok (.aload_n 0, 1) := by decide +kernel
theorem dX7_distance_84 : decode cX7_distance 84 = .ok (.getfield 38, 3) := by decide +kernel
theorem dX7_distance_87 : decode cX7_distance 87 = .ok (.bipush 41, 2) := by decide +kernel
theorem dX7_distance_89 : decode cX7_distance 89 = .ok (.iload_n 3, 1) := by decide +kernel
theorem dX7_distance_90 : decode cX7_distance 90 = .ok (.imul, 1) := by decide +kernel
theorem dX7_distance_91 : decode cX7_distance 91 = .ok (.iload 4, 2) := by decide +kernel
theorem dX7_distance_93 : decode cX7_distance 93 = .ok (.iadd, 1) := by decide +kernel
theorem dX7_distance_94 : decode cX7_distance 94 = .ok (.iconst 1, 1) := by decide +kernel
theorem dX7_distance_95 : decode cX7_distance 95 = .ok (.isub, 1) := by decide +kernel
theorem dX7_distance_96 : decode cX7_distance 96 = .ok (.iaload, 1) := by decide +kernel
theorem dX7_distance_97 : decode cX7_distance 97 = .ok (.aload_n 0, 1) := by decide +kernel
theorem dX7_distance_98 : decode cX7_distance 98 = .ok (.getfield 35, 3) := by decide +kernel
theorem dX7_distance_101 : decode cX7_distance 101 = .ok (.iload 4, 2) := by decide +kernel
theorem dX7_distance_103 : decode cX7_distance 103 = .ok (.iconst 1, 1) := by decide +kernel
theorem dX7_distance_104 : decode cX7_distance 104 = .ok (.isub, 1) := by decide +kernel
theorem dX7_distance_105 : decode cX7_distance 105 = .ok (.iaload, 1) := by decide +kernel
theorem dX7_distance_106 : decode cX7_distance 106 = .ok (.invokestatic 65, 3) := by decide +kernel
theorem dX7_distance_109 : decode cX7_distance 109 = .ok (.iadd, 1) := by decide +kernel
theorem dX7_distance_110 : decode cX7_distance 110 = .ok (.invokestatic 68, 3) := by decide +kernel
theorem dX7_distance_113 : decode cX7_distance 113 = .ok (.goto 5, 3) := by decide +kernel
theorem dX7_distance_116 : decode cX7_distance 116 = .ok (.iload 5, 2) := by decide +kernel
theorem dX7_distance_118 : decode cX7_distance 118 = .ok (.istore 5, 2) := by decide +kernel
theorem dX7_distance_120 : decode cX7_distance 120 = .ok (.iload_n 3, 1) := by decide +kernel
theorem dX7_distance_121 : decode cX7_distance 121 = .ok (.ifCond .le 53, 3) := by decide +kernel
theorem dX7_distance_124 : decode cX7_distance 124 = .ok (.iload 4, 2) := by decide +kernel
theorem dX7_distance_126 : decode cX7_distance 126 = .ok (.ifCond .le 48, 3) := by decide +kernel
theorem dX7_distance_129 : decode cX7_distance 129 = .ok (.iload 5, 2) := by decide +kernel
theorem dX7_distance_131 : decode cX7_distance 131 = .ok (.aload_n 0, 1) := by decide +kernel
theorem dX7_distance_132 : decode cX7_distance 132 = .ok (.getfield 38, 3) := by decide +kernel
theorem dX7_distance_135 : decode cX7_distance 135 = .ok (.bipush 41, 2) := by decide +kernel
theorem dX7_distance_137 : decode cX7_distance 137 = .ok (.iload_n 3, 1) := by decide +kernel
theorem dX7_distance_138 : decode cX7_distance 138 = .ok (.iconst 1, 1) := by decide +kernel
theorem dX7_distance_139 : decode cX7_distance 139 = .ok (.isub, 1) := by decide +kernel
theorem dX7_distance_140 : decode cX7_distance 140 = .ok (.imul, 1) := by decide +kernel
theorem dX7_distance_141 : decode cX7_distance 141 = .ok (.iload 4, 2) := by decide +kernel
theorem dX7_distance_143 : decode cX7_distance 143 = .ok (.iadd, 1) := by decide +kernel
theorem dX7_distance_144 : decode cX7_distance 144 = .ok (.iconst 1, 1) := by decide +kernel
theorem dX7_distance_145 : decode cX7_distance 145 = .ok (.isub, 1) := by decide +kernel
theorem dX7_distance_146 : decode cX7_distance 146 = .ok (.iaload, 1) := by decide +kernel
theorem dX7_distance_147 : decode cX7_distance 147 = .ok (.aload_n 0, 1) := by decide +kernel
theorem dX7_distance_148 : decode cX7_distance 148 = .ok (.getfield 32, 3) := by decide +kernel
theorem dX7_distance_151 : decode cX7_distance 151 = .ok (.iload_n 3, 1) := by decide +kernel
theorem dX7_distance_152 : decode cX7_distance 152 = .ok (.iconst 1, 1) := by decide +kernel
theorem dX7_distance_153 : decode cX7_distance 153 = .ok (.isub, 1) := by decide +kernel
theorem dX7_distance_154 : decode cX7_distance 154 = .ok (.iaload, 1) := by decide +kernel
theorem dX7_distance_155 : decode cX7_distance 155 = .ok (.aload_n 0, 1) := by decide +kernel
theorem dX7_distance_156 : decode cX7_distance 156 = .ok (.getfield 35, 3) := by decide +kernel
theorem dX7_distance_159 : decode cX7_distance 159 = .ok (.iload 4, 2) := by decide +kernel
theorem dX7_distance_161 : decode cX7_distance 161 = .ok (.iconst 1, 1) := by decide +kernel
theorem dX7_distance_162 : decode cX7_distance 162 = .ok (.isub, 1) := by decide +kernel
theorem dX7_distance_163 : decode cX7_distance 163 = .ok (.iaload, 1) := by decide +kernel
theorem dX7_distance_164 : decode cX7_distance 164 = .ok (.invokestatic 72, 3) := by decide +kernel
theorem dX7_distance_167 : decode cX7_distance 167 = .ok (.iadd, 1) := by decide +kernel
theorem dX7_distance_168 : decode cX7_distance 168 = .ok (.invokestatic 68, 3) := by decide +kernel
theorem dX7_distance_171 : decode cX7_distance 171 = .ok (.goto 5, 3) := by decide +kernel
theorem dX7_distance_174 : decode cX7_distance 174 = .ok (.iload 5, 2) := by decide +kernel
theorem dX7_distance_176 : decode cX7_distance 176 = .ok (.istore 5, 2) := by decide +kernel
theorem dX7_distance_178 : decode cX7_distance 178 = .ok (.aload_n 0, 1) := by decide +kernel
theorem dX7_distance_179 : decode cX7_distance 179 = .ok (.getfield 38, 3) := by decide +kernel
theorem dX7_distance_182 : decode cX7_distance 182 = .ok (.bipush 41, 2) := by decide +kernel
theorem dX7_distance_184 : decode cX7_distance 184 = .ok (.iload_n 3, 1) := by decide +kernel
theorem dX7_distance_185 : decode cX7_distance 185 = .ok (.imul, 1) := by decide +kernel
theorem dX7_distance_186 : decode cX7_distance 186 = .ok (.iload 4, 2) := by decide +kernel
theorem dX7_distance_188 : decode cX7_distance 188 = .ok (.iadd, 1) := by decide +kernel
theorem dX7_distance_189 : decode cX7_distance 189 = .ok (.iload 5, 2) := by decide +kernel
theorem dX7_distance_191 : decode cX7_distance 191 = .ok (.iastore, 1) := by decide +kernel
theorem dX7_distance_192 : decode cX7_distance 192 = .ok (.iinc 4 1, 3) := by decide +kernel
theorem dX7_distance_195 : decode cX7_distance 195 = .ok (.goto (-185), 3) := by decide +kernel
theorem dX7_distance_198 : decode cX7_distance 198 = .ok (.iinc 3 1, 3) := by decide +kernel
theorem dX7_distance_201 : decode cX7_distance 201 = .ok (.goto (-199), 3) := by decide +kernel
theorem dX7_distance_204 : decode cX7_distance 204 = .ok (.aload_n 0, 1) := by decide +kernel
theorem dX7_distance_205 : decode cX7_distance 205 = .ok (.getfield 38, 3) := by decide +kernel
theorem dX7_distance_208 : decode cX7_distance 208 = .ok (.bipush 41, 2) := by decide +kernel
theorem dX7_distance_210 : decode cX7_distance 210 = .ok (.iload_n 1, 1) := by decide +kernel
theorem dX7_distance_211 : decode cX7_distance 211 = .ok (.imul, 1) := by decide +kernel
theorem dX7_distance_212 : decode cX7_distance 212 = .ok (.iload_n 2, 1) := by decide +kernel
theorem dX7_distance_213 : decode cX7_distance 213 = .ok (.iadd, 1) := by decide +kernel
theorem dX7_distance_214 : decode cX7_distance 214 = .ok (.iaload, 1) := by decide +kernel
theorem dX7_distance_215 : decode cX7_distance 215 = .ok (.ireturn, 1) := by decide +kernel
set_option maxRecDepth 20000 in
theorem ggX7_distanceTo_X7_signature : GoodIn wsX7_distanceTo wsX7_signature := goodIn_r _ [6, 7, 8, 5, 9, 10, 11, 12, 13, 14, 15, 16, 17, 18] (by decide +kernel) (by decide +kernel)
set_option maxRecDepth 20000 in
theorem gX7_distanceTo_X7_signature : GoodIn wsX7_distanceTo (va_wsS RX7 75 yX7_signature wsX7_signature) := goodIn_app (goodIn_of _ (by decide +kernel)) ggX7_distanceTo_X7_signature
set_option maxRecDepth 20000 in
theorem ggX7_distanceTo_X7_at : GoodIn wsX7_distanceTo wsX7_at := goodIn_r _ [21] (by decide +kernel) (by decide +kernel)
set_option maxRecDepth 20000 in
theorem gX7_distanceTo_X7_at : GoodIn wsX7_distanceTo (va_wsS RX7 79 yX7_at wsX7_at) := goodIn_app (goodIn_of _ (by decide +kernel)) ggX7_distanceTo_X7_at
set_option maxRecDepth 20000 in
theorem ggX7_distanceTo_X7_distance_p0 : GoodIn wsX7_distanceTo [.code yX7_distance cX7_distance 6 (some .int)] := goodIn_r _ [25] (by decide +kernel) (by decide +kernel)
theorem ggX7_distanceTo_X7_distance_p1 : GoodIn wsX7_distanceTo [.fieldLink RX7 38 "RuledStrokesModel" "costs" "[I", .fieldLink RX7 32 "RuledStrokesModel" "one" "[I", .fieldLink RX7 35 "RuledStrokesModel" "two" "[I", .methodLink RX7 65 yX7_alone, .static yX7_alone, .initialized RX7, .code yX7_alone cX7_alone 1 (some .int), .methodLink RX7 68 yX7_least, .static yX7_least, .code yX7_least cX7_least 2 (some .int), .methodLink RX7 72 yX7_instead, .static yX7_instead, .code yX7_instead cX7_instead 2 (some .int), .methodLink RX7 49 yX7_size, .static yX7_size, .code yX7_size cX7_size 1 (some .int)] := goodIn_r _ [26, 1, 2, 27, 28, 5, 29, 30, 31, 32, 33, 34, 35, 13, 14, 15] (by decide +kernel) (by decide +kernel)
theorem ggX7_distanceTo_X7_distance_p2 : GoodIn wsX7_distanceTo wsX70 := goodIn_r _ [36, 37, 38, 39, 40, 41, 42, 43, 44, 45, 46, 47, 48, 49, 50, 51, 52, 53, 54] (by decide +kernel) (by decide +kernel)
theorem ggX7_distanceTo_X7_distance : GoodIn wsX7_distanceTo wsX7_distance := (goodIn_c2 ggX7_distanceTo_X7_distance_p0 (goodIn_app ggX7_distanceTo_X7_distance_p1 ggX7_distanceTo_X7_distance_p2))
set_option maxRecDepth 20000 in
theorem gX7_distanceTo_X7_distance : GoodIn wsX7_distanceTo (wsV RX7 82 RX7 yX7_distance wsX7_distance) := goodIn_app (goodIn_of _ (by decide +kernel)) ggX7_distanceTo_X7_distance
theorem dX7_distanceTo_0 : decode cX7_distanceTo 0 = .ok (.aload_n 1, 1) := by decide +kernel
theorem dX7_distanceTo_1 : decode cX7_distanceTo 1 = .ok (.iload_n 2, 1) := by decide +kernel
theorem dX7_distanceTo_2 : decode cX7_distanceTo 2 = .ok (.iload 5, 2) := by decide +kernel
theorem dX7_distanceTo_4 : decode cX7_distanceTo 4 = .ok (.aload_n 0, 1) := by decide +kernel
theorem dX7_distanceTo_5 : decode cX7_distanceTo 5 = .ok (.getfield 32, 3) := by decide +kernel
theorem dX7_distanceTo_8 : decode cX7_distanceTo 8 = .ok (.invokestatic 75, 3) := by decide +kernel
theorem dX7_distanceTo_11 : decode cX7_distanceTo 11 = .ok (.istore 6, 2) := by decide +kernel
theorem dX7_distanceTo_13 : decode cX7_distanceTo 13 = .ok (.aload_n 0, 1) := by decide +kernel
theorem dX7_distanceTo_14 : decode cX7_distanceTo 14 = .ok (.iload 6, 2) := by decide +kernel
theorem dX7_distanceTo_16 : decode cX7_distanceTo 16 = .ok (.aload_n 3, 1) := by decide +kernel
theorem dX7_distanceTo_17 : decode cX7_distanceTo 17 = .ok (.iload 4, 2) := by decide +kernel
theorem dX7_distanceTo_19 : decode cX7_distanceTo 19 = .ok (.invokestatic 79, 3) := by decide +kernel
theorem dX7_distanceTo_22 : decode cX7_distanceTo 22 = .ok (.iload 5, 2) := by decide +kernel
theorem dX7_distanceTo_24 : decode cX7_distanceTo 24 = .ok (.aload_n 0, 1) := by decide +kernel
theorem dX7_distanceTo_25 : decode cX7_distanceTo 25 = .ok (.getfield 35, 3) := by decide +kernel
theorem dX7_distanceTo_28 : decode cX7_distanceTo 28 = .ok (.invokestatic 75, 3) := by decide +kernel
theorem dX7_distanceTo_31 : decode cX7_distanceTo 31 = .ok (.invokevirtual 82, 3) := by decide +kernel
theorem dX7_distanceTo_34 : decode cX7_distanceTo 34 = .ok (.ireturn, 1) := by decide +kernel
set_option maxRecDepth 20000 in
theorem ggX7_readFigure_X7_distanceTo_p0 : GoodIn wsX7_readFigure [.code yX7_distanceTo cX7_distanceTo 7 (some .int)] := goodIn_r _ [8] (by decide +kernel) (by decide +kernel)
theorem ggX7_readFigure_X7_distanceTo_p1 : GoodIn wsX7_readFigure wsX7_distanceTo_r1 := goodIn_r _ [9, 10, 11, 12, 7, 13, 14, 15, 16, 17, 18, 19, 20, 21, 22, 23, 24, 25, 26, 27, 28, 29, 30, 31] (by decide +kernel) (by decide +kernel)
theorem ggX7_readFigure_X7_distanceTo_p2 : GoodIn wsX7_readFigure wsX7_distanceTo_r2 := goodIn_r _ [32, 33, 34, 35, 36, 37, 38, 39, 40, 41, 42] (by decide +kernel) (by decide +kernel)
theorem ggX7_readFigure_X7_distanceTo_p3 : GoodIn wsX7_readFigure wsX70 := goodIn_r _ [43, 44, 45, 46, 47, 48, 49, 50, 51, 52, 53, 54, 55, 56, 57, 58, 59, 60, 61] (by decide +kernel) (by decide +kernel)
theorem ggX7_readFigure_X7_distanceTo : GoodIn wsX7_readFigure wsX7_distanceTo := (goodIn_c2 ggX7_readFigure_X7_distanceTo_p0 (goodIn_app (goodIn_app ggX7_readFigure_X7_distanceTo_p1 ggX7_readFigure_X7_distanceTo_p2) ggX7_readFigure_X7_distanceTo_p3))
set_option maxRecDepth 20000 in
theorem gX7_readFigure_X7_distanceTo : GoodIn wsX7_readFigure (wsV RX7 91 RX7 yX7_distanceTo wsX7_distanceTo) := goodIn_app (goodIn_of _ (by decide +kernel)) ggX7_readFigure_X7_distanceTo
set_option maxRecDepth 20000 in
theorem ggX7_readFigure_X7_at : GoodIn wsX7_readFigure wsX7_at := goodIn_r _ [28] (by decide +kernel) (by decide +kernel)
set_option maxRecDepth 20000 in
theorem gX7_readFigure_X7_at : GoodIn wsX7_readFigure (va_wsS RX7 79 yX7_at wsX7_at) := goodIn_app (goodIn_of _ (by decide +kernel)) ggX7_readFigure_X7_at
theorem dX7_readFigure_0 : decode cX7_readFigure 0 = .ok (.aload_n 3, 1) := by decide +kernel
theorem dX7_readFigure_1 : decode cX7_readFigure 1 = .ok (.bipush 77, 2) := by decide +kernel
theorem dX7_readFigure_3 : decode cX7_readFigure 3 = .ok (.iaload, 1) := by decide +kernel
theorem dX7_readFigure_4 : decode cX7_readFigure 4 = .ok (.istore 5, 2) := by decide +kernel
theorem dX7_readFigure_6 : decode cX7_readFigure 6 = .ok (.aload_n 0, 1) := by decide +kernel
theorem dX7_readFigure_7 : decode cX7_readFigure 7 = .ok (.iconst (-1), 1) := by decide +kernel
theorem dX7_readFigure_8 : decode cX7_readFigure 8 = .ok (.putfield 85, 3) := by decide +kernel
theorem dX7_readFigure_11 : decode cX7_readFigure 11 = .ok (.aload_n 0, 1) := by decide +kernel
theorem dX7_readFigure_12 : decode cX7_readFigure 12 = .ok (.iconst (-1), 1) := by decide +kernel
theorem dX7_readFigure_13 : decode cX7_readFigure 13 = .ok (.putfield 88, 3) := by decide +kernel
theorem dX7_readFigure_16 : decode cX7_readFigure 16 = .ok (.iconst 0, 1) := by decide +kernel
theorem dX7_readFigure_17 : decode cX7_readFigure 17 = .ok (.istore 6, 2) := by decide +kernel
theorem dX7_readFigure_19 : decode cX7_readFigure 19 = .ok (.iload 6, 2) := by decide +kernel
theorem dX7_readFigure_21 : decode cX7_readFigure 21 = .ok (.aload_n 3, 1) := by decide +kernel
theorem dX7_readFigure_22 : decode cX7_readFigure 22 = .ok (.bipush 110, 2) := by decide +kernel
theorem dX7_readFigure_24 : decode cX7_readFigure 24 = .ok (.iaload, 1) := by decide +kernel
theorem dX7_readFigure_25 : decode cX7_readFigure 25 = .ok (.if_icmp .ge 89, 3) := by decide +kernel
theorem dX7_readFigure_28 : decode cX7_readFigure 28 = .ok (.iload 6, 2) := by decide +kernel
theorem dX7_readFigure_30 : decode cX7_readFigure 30 = .ok (.iload 4, 2) := by decide +kernel
theorem dX7_readFigure_32 : decode cX7_readFigure 32 = .ok (.if_icmp .eq 76, 3) := by decide +kernel
theorem dX7_readFigure_35 : decode cX7_readFigure 35 = .ok (.aload_n 0, 1) := by decide +kernel
theorem dX7_readFigure_36 : decode cX7_readFigure 36 = .ok (.aload_n 1, 1) := by decide +kernel
theorem dX7_readFigure_37 : decode cX7_readFigure 37 = .ok (.iload_n 2, 1) := by decide +kernel
theorem dX7_readFigure_38 : decode cX7_readFigure 38 = .ok (.aload_n 3, 1) := by decide +kernel
theorem dX7_readFigure_39 : decode cX7_readFigure 39 = .ok (.iload 6, 2) := by decide +kernel
theorem dX7_readFigure_41 : decode cX7_readFigure 41 = .ok (.iload 5, 2) := by decide +kernel
theorem dX7_readFigure_43 : decode cX7_readFigure 43 = .ok (.invokevirtual 91, 3) := by decide +kernel
theorem dX7_readFigure_46 : decode cX7_readFigure 46 = .ok (.istore 7, 2) := by decide +kernel
theorem dX7_readFigure_48 : decode cX7_readFigure 48 = .ok (.aload_n 0, 1) := by decide +kernel
theorem dX7_readFigure_49 : decode cX7_readFigure 49 = .ok (.getfield 85, 3) := by decide +kernel
theorem dX7_readFigure_52 : decode cX7_readFigure 52 = .ok (.iconst (-1), 1) := by decide +kernel
theorem dX7_readFigure_53 : decode cX7_readFigure 53 = .ok (.if_icmp .eq 12, 3) := by decide +kernel
theorem dX7_readFigure_56 : decode cX7_readFigure 56 = .ok (.iload 7, 2) := by decide +kernel
theorem dX7_readFigure_58 : decode cX7_readFigure 58 = .ok (.aload_n 0, 1) := by decide +kernel
theorem dX7_readFigure_59 : decode cX7_readFigure 59 = .ok (.getfield 88, 3) := by decide +kernel
theorem dX7_readFigure_62 : decode cX7_readFigure 62 = .ok (.if_icmp .ge 7, 3) := by decide +kernel
theorem dX7_readFigure_65 : decode cX7_readFigure 65 = .ok (.iconst 1, 1) := by decide +kernel
theorem dX7_readFigure_66 : decode cX7_readFigure 66 = .ok (.goto 4, 3) := by decide +kernel
theorem dX7_readFigure_69 : decode cX7_readFigure 69 = .ok (.iconst 0, 1) := by decide +kernel
theorem dX7_readFigure_70 : decode cX7_readFigure 70 = .ok (.istore 8, 2) := by decide +kernel
theorem dX7_readFigure_72 : decode cX7_readFigure 72 = .ok (.aload_n 0, 1) := by decide +kernel
theorem dX7_readFigure_73 : decode cX7_readFigure 73 = .ok (.iload 8, 2) := by decide +kernel
theorem dX7_readFigure_75 : decode cX7_readFigure 75 = .ok (.ifCond .eq 8, 3) := by decide +kernel
theorem dX7_readFigure_78 : decode cX7_readFigure 78 = .ok (.iload 6, 2) := by decide +kernel
theorem dX7_readFigure_80 : decode cX7_readFigure 80 = .ok (.goto 7, 3) := by decide +kernel
theorem dX7_readFigure_83 : decode cX7_readFigure 83 = .ok (.aload_n 0, 1) := by decide +kernel
theorem dX7_readFigure_84 : decode cX7_readFigure 84 = .ok (.getfield 85, 3) := by decide +kernel
theorem dX7_readFigure_87 : decode cX7_readFigure 87 = .ok (.putfield 85, 3) := by decide +kernel
theorem dX7_readFigure_90 : decode cX7_readFigure 90 = .ok (.aload_n 0, 1) := by decide +kernel
theorem dX7_readFigure_91 : decode cX7_readFigure 91 = .ok (.iload 8, 2) := by decide +kernel
theorem dX7_readFigure_93 : decode cX7_readFigure 93 = .ok (.ifCond .eq 8, 3) := by decide +kernel
theorem dX7_readFigure_96 : decode cX7_readFigure 96 = .ok (.iload 7, 2) := by decide +kernel
theorem dX7_readFigure_98 : decode cX7_readFigure 98 = .ok (.goto 7, 3) := by decide +kernel
theorem dX7_readFigure_101 : decode cX7_readFigure 101 = .ok (.aload_n 0, 1) := by decide +kernel
theorem dX7_readFigure_102 : decode cX7_readFigure 102 = .ok (.getfield 88, 3) := by decide +kernel
theorem dX7_readFigure_105 : decode cX7_readFigure 105 = .ok (.putfield 88, 3) := by decide +kernel
theorem dX7_readFigure_108 : decode cX7_readFigure 108 = .ok (.iinc 6 1, 3) := by decide +kernel
theorem dX7_readFigure_111 : decode cX7_readFigure 111 = .ok (.goto (-92), 3) := by decide +kernel
theorem dX7_readFigure_114 : decode cX7_readFigure 114 = .ok (.aload_n 0, 1) := by decide +kernel
theorem dX7_readFigure_115 : decode cX7_readFigure 115 = .ok (.aload_n 0, 1) := by decide +kernel
theorem dX7_readFigure_116 : decode cX7_readFigure 116 = .ok (.getfield 85, 3) := by decide +kernel
theorem dX7_readFigure_119 : decode cX7_readFigure 119 = .ok (.iconst (-1), 1) := by decide +kernel
theorem dX7_readFigure_120 : decode cX7_readFigure 120 = .ok (.if_icmp .eq 14, 3) := by decide +kernel
theorem dX7_readFigure_123 : decode cX7_readFigure 123 = .ok (.aload_n 0, 1) := by decide +kernel
theorem dX7_readFigure_124 : decode cX7_readFigure 124 = .ok (.getfield 88, 3) := by decide +kernel
theorem dX7_readFigure_127 : decode cX7_readFigure 127 = .ok (.aload_n 3, 1) := by decide +kernel
theorem dX7_readFigure_128 : decode cX7_readFigure 128 = .ok (.bipush 78, 2) := by decide +kernel
theorem dX7_readFigure_130 : decode cX7_readFigure 130 = .ok (.iaload, 1) := by decide +kernel
theorem dX7_readFigure_131 : decode cX7_readFigure 131 = .ok (.if_icmp .le 7, 3) := by decide +kernel
theorem dX7_readFigure_134 : decode cX7_readFigure 134 = .ok (.iconst 2, 1) := by decide +kernel
theorem dX7_readFigure_135 : decode cX7_readFigure 135 = .ok (.goto 4, 3) := by decide +kernel
theorem dX7_readFigure_138 : decode cX7_readFigure 138 = .ok (.iconst 0, 1) := by decide +kernel
theorem dX7_readFigure_139 : decode cX7_readFigure 139 = .ok (.putfield 95, 3) := by decide +kernel
theorem dX7_readFigure_142 : decode cX7_readFigure 142 = .ok (.iconst 0, 1) := by decide +kernel
theorem dX7_readFigure_143 : decode cX7_readFigure 143 = .ok (.istore 6, 2) := by decide +kernel
theorem dX7_readFigure_145 : decode cX7_readFigure 145 = .ok (.iload 6, 2) := by decide +kernel
theorem dX7_readFigure_147 : decode cX7_readFigure 147 = .ok (.aload_n 3, 1) := by decide +kernel
theorem dX7_readFigure_148 : decode cX7_readFigure 148 = .ok (.bipush 110, 2) := by decide +kernel
theorem dX7_readFigure_150 : decode cX7_readFigure 150 = .ok (.iaload, 1) := by decide +kernel
theorem dX7_readFigure_151 : decode cX7_readFigure 151 = .ok (.if_icmp .ge 88, 3) := by decide +kernel
theorem dX7_readFigure_154 : decode cX7_readFigure 154 = .ok (.aload_n 0, 1) := by decide +kernel
theorem dX7_readFigure_155 : decode cX7_readFigure 155 = .ok (.getfield 95, 3) := by decide +kernel
theorem dX7_readFigure_158 : decode cX7_readFigure 158 = .ok (.ifCond .ne 81, 3) := by decide +kernel
theorem dX7_readFigure_161 : decode cX7_readFigure 161 = .ok (.iload 6, 2) := by decide +kernel
theorem dX7_readFigure_163 : decode cX7_readFigure 163 = .ok (.iload 4, 2) := by decide +kernel
theorem dX7_readFigure_165 : decode cX7_readFigure 165 = .ok (.if_icmp .eq 32, 3) := by decide +kernel
theorem dX7_readFigure_168 : decode cX7_readFigure 168 = .ok (.aload_n 3, 1) := by decide +kernel
theorem dX7_readFigure_169 : decode cX7_readFigure 169 = .ok (.iload 6, 2) := by decide +kernel
theorem dX7_readFigure_171 : decode cX7_readFigure 171 = .ok (.invokestatic 79, 3) := by decide +kernel
theorem dX7_readFigure_174 : decode cX7_readFigure 174 = .ok (.bipush 76, 2) := by decide +kernel
theorem dX7_readFigure_176 : decode cX7_readFigure 176 = .ok (.iadd, 1) := by decide +kernel
theorem dX7_readFigure_177 : decode cX7_readFigure 177 = .ok (.iaload, 1) := by decide +kernel
theorem dX7_readFigure_178 : decode cX7_readFigure 178 = .ok (.aload_n 3, 1) := by decide +kernel
theorem dX7_readFigure_179 : decode cX7_readFigure 179 = .ok (.aload_n 0, 1) := by decide +kernel
theorem dX7_readFigure_180 : decode cX7_readFigure 180 = .ok (.getfield 85, 3) := by decide +kernel
theorem dX7_readFigure_183 : decode cX7_readFigure 183 = .ok (.invokestatic 79, 3) := by decide +kernel
theorem dX7_readFigure_186 : decode cX7_readFigure 186 = .ok (.bipush 76, 2) := by decide +kernel
theorem dX7_readFigure_188 : decode cX7_readFigure 188 = .ok (.iadd, 1) := by decide +kernel
theorem dX7_readFigure_189 : decode cX7_readFigure 189 = .ok (.iaload, 1) := by decide +kernel
theorem dX7_readFigure_190 : decode cX7_readFigure 190 = .ok (.if_icmp .eq 7, 3) := by decide +kernel
theorem dX7_readFigure_193 : decode cX7_readFigure 193 = .ok (.iconst 1, 1) := by decide +kernel
theorem dX7_readFigure_194 : decode cX7_readFigure 194 = .ok (.goto 4, 3) := by decide +kernel
theorem dX7_readFigure_197 : decode cX7_readFigure 197 = .ok (.iconst 0, 1) := by decide +kernel
theorem dX7_readFigure_198 : decode cX7_readFigure 198 = .ok (.istore 7, 2) := by decide +kernel
theorem dX7_readFigure_200 : decode cX7_readFigure 200 = .ok (.iload 7, 2) := by decide +kernel
theorem dX7_readFigure_202 : decode cX7_readFigure 202 = .ok (.ifCond .eq 31, 3) := by decide +kernel
theorem dX7_readFigure_205 : decode cX7_readFigure 205 = .ok (.aload_n 0, 1) := by decide +kernel
theorem dX7_readFigure_206 : decode cX7_readFigure 206 = .ok (.aload_n 1, 1) := by decide +kernel
theorem dX7_readFigure_207 : decode cX7_readFigure 207 = .ok (.iload_n 2, 1) := by decide +kernel
theorem dX7_readFigure_208 : decode cX7_readFigure 208 = .ok (.aload_n 3, 1) := by decide +kernel
theorem dX7_readFigure_209 : decode cX7_readFigure 209 = .ok (.iload 6, 2) := by decide +kernel
theorem dX7_readFigure_211 : decode cX7_readFigure 211 = .ok (.iload 5, 2) := by decide +kernel
theorem dX7_readFigure_213 : decode cX7_readFigure 213 = .ok (.invokevirtual 91, 3) := by decide +kernel
theorem dX7_readFigure_216 : decode cX7_readFigure 216 = .ok (.aload_n 0, 1) := by decide +kernel
theorem dX7_readFigure_217 : decode cX7_readFigure 217 = .ok (.getfield 88, 3) := by decide +kernel
theorem dX7_readFigure_220 : decode cX7_readFigure 220 = .ok (.aload_n 3, 1) := by decide +kernel
theorem dX7_readFigure_221 : decode cX7_readFigure 221 = .ok (.bipush 79, 2) := by decide +kernel
theorem dX7_readFigure_223 : decode cX7_readFigure 223 = .ok (.iaload, 1) := by decide +kernel
theorem dX7_readFigure_224 : decode cX7_readFigure 224 = .ok (.iadd, 1) := by decide +kernel
theorem dX7_readFigure_225 : decode cX7_readFigure 225 = .ok (.if_icmp .ge 8, 3) := by decide +kernel
theorem dX7_readFigure_228 : decode cX7_readFigure 228 = .ok (.aload_n 0, 1) := by decide +kernel
theorem dX7_readFigure_229 : decode cX7_readFigure 229 = .ok (.iconst 1, 1) := by decide +kernel
theorem dX7_readFigure_230 : decode cX7_readFigure 230 = .ok (.putfield 95, 3) := by decide +kernel
theorem dX7_readFigure_233 : decode cX7_readFigure 233 = .ok (.iinc 6 1, 3) := by decide +kernel
theorem dX7_readFigure_236 : decode cX7_readFigure 236 = .ok (.goto (-91), 3) := by decide +kernel
theorem dX7_readFigure_239 : decode cX7_readFigure 239 = .ok (.return_, 1) := by decide +kernel
set_option maxRecDepth 20000 in
theorem ggX7_nameOf_X7_at : GoodIn wsX7_nameOf wsX7_at := goodIn_r _ [4] (by decide +kernel) (by decide +kernel)
set_option maxRecDepth 20000 in
theorem gX7_nameOf_X7_at : GoodIn wsX7_nameOf (va_wsS RX7 79 yX7_at wsX7_at) := goodIn_app (goodIn_of _ (by decide +kernel)) ggX7_nameOf_X7_at
theorem dX7_nameOf_0 : decode cX7_nameOf 0 = .ok (.aload_n 0, 1) := by decide +kernel
theorem dX7_nameOf_1 : decode cX7_nameOf 1 = .ok (.iload_n 1, 1) := by decide +kernel
theorem dX7_nameOf_2 : decode cX7_nameOf 2 = .ok (.invokestatic 79, 3) := by decide +kernel
theorem dX7_nameOf_5 : decode cX7_nameOf 5 = .ok (.bipush 76, 2) := by decide +kernel
theorem dX7_nameOf_7 : decode cX7_nameOf 7 = .ok (.iadd, 1) := by decide +kernel
theorem dX7_nameOf_8 : decode cX7_nameOf 8 = .ok (.iaload, 1) := by decide +kernel
theorem dX7_nameOf_9 : decode cX7_nameOf 9 = .ok (.ireturn, 1) := by decide +kernel
set_option maxRecDepth 20000 in
theorem ggX7_append_X7_in : GoodIn wsX7_append wsX7_in := goodIn_r _ [7] (by decide +kernel) (by decide +kernel)
set_option maxRecDepth 20000 in
theorem gX7_append_X7_in : GoodIn wsX7_append (va_wsS RX7 45 yX7_in wsX7_in) := goodIn_app (goodIn_of _ (by decide +kernel)) ggX7_append_X7_in
set_option maxRecDepth 20000 in
theorem ggX7_append_X7_refused : GoodIn wsX7_append wsX7_refused := goodIn_r _ [11, 12, 13, 14, 15, 16, 17, 18, 19, 20, 21, 22, 23, 24, 25, 26, 27, 28, 29, 30, 31] (by decide +kernel) (by decide +kernel)
set_option maxRecDepth 20000 in
theorem gX7_append_X7_refused : GoodIn wsX7_append (wsV RX7 102 RX7 yX7_refused wsX7_refused) := goodIn_app (goodIn_of _ (by decide +kernel)) ggX7_append_X7_refused
theorem dX7_append_0 : decode cX7_append 0 = .ok (.aload_n 0, 1) := by decide +kernel
theorem dX7_append_1 : decode cX7_append 1 = .ok (.iload_n 1, 1) := by decide +kernel
theorem dX7_append_2 : decode cX7_append 2 = .ok (.i2l, 1) := by decide +kernel
theorem dX7_append_3 : decode cX7_append 3 = .ok (.lconst 0, 1) := by decide +kernel
theorem dX7_append_4 : decode cX7_append 4 = .ok (.ldc2_w 98, 3) := by decide +kernel
theorem dX7_append_7 : decode cX7_append 7 = .ok (.invokestatic 45, 3) := by decide +kernel
theorem dX7_append_10 : decode cX7_append 10 = .ok (.ifCond .ne 7, 3) := by decide +kernel
theorem dX7_append_13 : decode cX7_append 13 = .ok (.iconst 1, 1) := by decide +kernel
theorem dX7_append_14 : decode cX7_append 14 = .ok (.goto 17, 3) := by decide +kernel
theorem dX7_append_17 : decode cX7_append 17 = .ok (.aload_n 0, 1) := by decide +kernel
theorem dX7_append_18 : decode cX7_append 18 = .ok (.getfield 100, 3) := by decide +kernel
theorem dX7_append_21 : decode cX7_append 21 = .ok (.bipush 100, 2) := by decide +kernel
theorem dX7_append_23 : decode cX7_append 23 = .ok (.if_icmp .ne 7, 3) := by decide +kernel
theorem dX7_append_26 : decode cX7_append 26 = .ok (.iconst 2, 1) := by decide +kernel
theorem dX7_append_27 : decode cX7_append 27 = .ok (.goto 4, 3) := by decide +kernel
theorem dX7_append_30 : decode cX7_append 30 = .ok (.iconst 0, 1) := by decide +kernel
theorem dX7_append_31 : decode cX7_append 31 = .ok (.invokevirtual 102, 3) := by decide +kernel
theorem dX7_append_34 : decode cX7_append 34 = .ok (.ifCond .eq 5, 3) := by decide +kernel
theorem dX7_append_37 : decode cX7_append 37 = .ok (.iconst 0, 1) := by decide +kernel
theorem dX7_append_38 : decode cX7_append 38 = .ok (.ireturn, 1) := by decide +kernel
theorem dX7_append_39 : decode cX7_append 39 = .ok (.aload_n 0, 1) := by decide +kernel
theorem dX7_append_40 : decode cX7_append 40 = .ok (.getfield 7, 3) := by decide +kernel
theorem dX7_append_43 : decode cX7_append 43 = .ok (.aload_n 0, 1) := by decide +kernel
theorem dX7_append_44 : decode cX7_append 44 = .ok (.getfield 100, 3) := by decide +kernel
theorem dX7_append_47 : decode cX7_append 47 = .ok (.iload_n 1, 1) := by decide +kernel
theorem dX7_append_48 : decode cX7_append 48 = .ok (.iastore, 1) := by decide +kernel
theorem dX7_append_49 : decode cX7_append 49 = .ok (.aload_n 0, 1) := by decide +kernel
theorem dX7_append_50 : decode cX7_append 50 = .ok (.dup, 1) := by decide +kernel
theorem dX7_append_51 : decode cX7_append 51 = .ok (.getfield 100, 3) := by decide +kernel
theorem dX7_append_54 : decode cX7_append 54 = .ok (.iconst 1, 1) := by decide +kernel
theorem dX7_append_55 : decode cX7_append 55 = .ok (.iadd, 1) := by decide +kernel
theorem dX7_append_56 : decode cX7_append 56 = .ok (.putfield 100, 3) := by decide +kernel
theorem dX7_append_59 : decode cX7_append 59 = .ok (.aload_n 0, 1) := by decide +kernel
theorem dX7_append_60 : decode cX7_append 60 = .ok (.getfield 100, 3) := by decide +kernel
theorem dX7_append_63 : decode cX7_append 63 = .ok (.ireturn, 1) := by decide +kernel
theorem dX7_clearText_0 : decode cX7_clearText 0 = .ok (.aload_n 0, 1) := by decide +kernel
theorem dX7_clearText_1 : decode cX7_clearText 1 = .ok (.iconst 0, 1) := by decide +kernel
theorem dX7_clearText_2 : decode cX7_clearText 2 = .ok (.putfield 41, 3) := by decide +kernel
theorem dX7_clearText_5 : decode cX7_clearText 5 = .ok (.aload_n 0, 1) := by decide +kernel
theorem dX7_clearText_6 : decode cX7_clearText 6 = .ok (.getfield 100, 3) := by decide +kernel
theorem dX7_clearText_9 : decode cX7_clearText 9 = .ok (.istore_n 1, 1) := by decide +kernel
theorem dX7_clearText_10 : decode cX7_clearText 10 = .ok (.aload_n 0, 1) := by decide +kernel
theorem dX7_clearText_11 : decode cX7_clearText 11 = .ok (.iconst 0, 1) := by decide +kernel
theorem dX7_clearText_12 : decode cX7_clearText 12 = .ok (.putfield 100, 3) := by decide +kernel
theorem dX7_clearText_15 : decode cX7_clearText 15 = .ok (.iload_n 1, 1) := by decide +kernel
theorem dX7_clearText_16 : decode cX7_clearText 16 = .ok (.ireturn, 1) := by decide +kernel
theorem dX7_here_0 : decode cX7_here 0 = .ok (.aload_n 0, 1) := by decide +kernel
theorem dX7_here_1 : decode cX7_here 1 = .ok (.getfield 106, 3) := by decide +kernel
theorem dX7_here_4 : decode cX7_here 4 = .ok (.aload_n 0, 1) := by decide +kernel
theorem dX7_here_5 : decode cX7_here 5 = .ok (.getfield 100, 3) := by decide +kernel
theorem dX7_here_8 : decode cX7_here 8 = .ok (.if_icmp .ge 15, 3) := by decide +kernel
theorem dX7_here_11 : decode cX7_here 11 = .ok (.aload_n 0, 1) := by decide +kernel
theorem dX7_here_12 : decode cX7_here 12 = .ok (.getfield 7, 3) := by decide +kernel
theorem dX7_here_15 : decode cX7_here 15 = .ok (.aload_n 0, 1) := by decide +kernel
theorem dX7_here_16 : decode cX7_here 16 = .ok (.getfield 106, 3) := by decide +kernel
theorem dX7_here_19 : decode cX7_here 19 = .ok (.iaload, 1) := by decide +kernel
theorem dX7_here_20 : decode cX7_here 20 = .ok (.goto 4, 3) := by decide +kernel
theorem dX7_here_23 : decode cX7_here 23 = .ok (.iconst (-1), 1) := by decide +kernel
theorem dX7_here_24 : decode cX7_here 24 = .ok (.ireturn, 1) := by decide +kernel
set_option maxRecDepth 20000 in
theorem ggX7_number_X7_here : GoodIn wsX7_number wsX7_here := goodIn_r _ [8, 3, 9, 10, 14, 15, 16, 17, 18, 19, 20, 21, 22, 23, 24, 25, 26, 27, 28, 29, 30, 31, 32] (by decide +kernel) (by decide +kernel)
set_option maxRecDepth 20000 in
theorem gX7_number_X7_here : GoodIn wsX7_number (wsV RX7 109 RX7 yX7_here wsX7_here) := goodIn_app (goodIn_of _ (by decide +kernel)) ggX7_number_X7_here
set_option maxRecDepth 20000 in
theorem ggX7_number_X7_in : GoodIn wsX7_number wsX7_in := goodIn_r _ [13] (by decide +kernel) (by decide +kernel)
set_option maxRecDepth 20000 in
theorem gX7_number_X7_in : GoodIn wsX7_number (va_wsS RX7 45 yX7_in wsX7_in) := goodIn_app (goodIn_of _ (by decide +kernel)) ggX7_number_X7_in
theorem dX7_number_0 : decode cX7_number 0 = .ok (.aload_n 0, 1) := by decide +kernel
theorem dX7_number_1 : decode cX7_number 1 = .ok (.invokevirtual 109, 3) := by decide +kernel
theorem dX7_number_4 : decode cX7_number 4 = .ok (.i2l, 1) := by decide +kernel
theorem dX7_number_5 : decode cX7_number 5 = .ok (.ldc2_w 113, 3) := by decide +kernel
theorem dX7_number_8 : decode cX7_number 8 = .ok (.ldc2_w 115, 3) := by decide +kernel
theorem dX7_number_11 : decode cX7_number 11 = .ok (.invokestatic 45, 3) := by decide +kernel
theorem dX7_number_14 : decode cX7_number 14 = .ok (.ifCond .ne 5, 3) := by decide +kernel
theorem dX7_number_17 : decode cX7_number 17 = .ok (.iconst (-1), 1) := by decide +kernel
theorem dX7_number_18 : decode cX7_number 18 = .ok (.ireturn, 1) := by decide +kernel
theorem dX7_number_19 : decode cX7_number 19 = .ok (.aload_n 0, 1) := by decide +kernel
theorem dX7_number_20 : decode cX7_number 20 = .ok (.invokevirtual 109, 3) := by decide +kernel
theorem dX7_number_23 : decode cX7_number 23 = .ok (.bipush 48, 2) := by decide +kernel
theorem dX7_number_25 : decode cX7_number 25 = .ok (.isub, 1) := by decide +kernel
theorem dX7_number_26 : decode cX7_number 26 = .ok (.istore_n 1, 1) := by decide +kernel
theorem dX7_number_27 : decode cX7_number 27 = .ok (.aload_n 0, 1) := by decide +kernel
theorem dX7_number_28 : decode cX7_number 28 = .ok (.dup, 1) := by decide +kernel
theorem dX7_number_29 : decode cX7_number 29 = .ok (.getfield 106, 3) := by decide +kernel
theorem dX7_number_32 : decode cX7_number 32 = .ok (.iconst 1, 1) := by decide +kernel
theorem dX7_number_33 : decode cX7_number 33 = .ok (.iadd, 1) := by decide +kernel
theorem dX7_number_34 : decode cX7_number 34 = .ok (.putfield 106, 3) := by decide +kernel
theorem dX7_number_37 : decode cX7_number 37 = .ok (.iload_n 1, 1) := by decide +kernel
theorem dX7_number_38 : decode cX7_number 38 = .ok (.ifCond .le 60, 3) := by decide +kernel
theorem dX7_number_41 : decode cX7_number 41 = .ok (.aload_n 0, 1) := by decide +kernel
theorem dX7_number_42 : decode cX7_number 42 = .ok (.invokevirtual 109, 3) := by decide +kernel
theorem dX7_number_45 : decode cX7_number 45 = .ok (.i2l, 1) := by decide +kernel
theorem dX7_number_46 : decode cX7_number 46 = .ok (.ldc2_w 113, 3) := by decide +kernel
theorem dX7_number_49 : decode cX7_number 49 = .ok (.ldc2_w 115, 3) := by decide +kernel
theorem dX7_number_52 : decode cX7_number 52 = .ok (.invokestatic 45, 3) := by decide +kernel
theorem dX7_number_55 : decode cX7_number 55 = .ok (.ifCond .eq 43, 3) := by decide +kernel
theorem dX7_number_58 : decode cX7_number 58 = .ok (.bipush 10, 2) := by decide +kernel
theorem dX7_number_60 : decode cX7_number 60 = .ok (.iload_n 1, 1) := by decide +kernel
theorem dX7_number_61 : decode cX7_number 61 = .ok (.imul, 1) := by decide +kernel
theorem dX7_number_62 : decode cX7_number 62 = .ok (.aload_n 0, 1) := by decide +kernel
theorem dX7_number_63 : decode cX7_number 63 = .ok (.invokevirtual 109, 3) := by decide +kernel
theorem dX7_number_66 : decode cX7_number 66 = .ok (.iadd, 1) := by decide +kernel
theorem dX7_number_67 : decode cX7_number 67 = .ok (.bipush 48, 2) := by decide +kernel
theorem dX7_number_69 : decode cX7_number 69 = .ok (.isub, 1) := by decide +kernel
theorem dX7_number_70 : decode cX7_number 70 = .ok (.bipush 60, 2) := by decide +kernel
theorem dX7_number_72 : decode cX7_number 72 = .ok (.if_icmp .gt 26, 3) := by decide +kernel
theorem dX7_number_75 : decode cX7_number 75 = .ok (.bipush 10, 2) := by decide +kernel
theorem dX7_number_77 : decode cX7_number 77 = .ok (.iload_n 1, 1) := by decide +kernel
theorem dX7_number_78 : decode cX7_number 78 = .ok (.imul, 1) := by decide +kernel
theorem dX7_number_79 : decode cX7_number 79 = .ok (.aload_n 0, 1) := by decide +kernel
theorem dX7_number_80 : decode cX7_number 80 = .ok (.invokevirtual 109, 3) := by decide +kernel
theorem dX7_number_83 : decode cX7_number 83 = .ok (.iadd, 1) := by decide +kernel
theorem dX7_number_84 : decode cX7_number 84 = .ok (.bipush 48, 2) := by decide +kernel
theorem dX7_number_86 : decode cX7_number 86 = .ok (.isub, 1) := by decide +kernel
theorem dX7_number_87 : decode cX7_number 87 = .ok (.istore_n 1, 1) := by decide +kernel
theorem dX7_number_88 : decode cX7_number 88 = .ok (.aload_n 0, 1) := by decide +kernel
theorem dX7_number_89 : decode cX7_number 89 = .ok (.dup, 1) := by decide +kernel
theorem dX7_number_90 : decode cX7_number 90 = .ok (.getfield 106, 3) := by decide +kernel
theorem dX7_number_93 : decode cX7_number 93 = .ok (.iconst 1, 1) := by decide +kernel
theorem dX7_number_94 : decode cX7_number 94 = .ok (.iadd, 1) := by decide +kernel
theorem dX7_number_95 : decode cX7_number 95 = .ok (.putfield 106, 3) := by decide +kernel
theorem dX7_number_98 : decode cX7_number 98 = .ok (.iload_n 1, 1) := by decide +kernel
theorem dX7_number_99 : decode cX7_number 99 = .ok (.ireturn, 1) := by decide +kernel
set_option maxRecDepth 20000 in
theorem ggX7_readPoint_X7_number_p0 : GoodIn wsX7_readPoint [.code yX7_number cX7_number 2 (some .int)] := goodIn_r _ [7] (by decide +kernel) (by decide +kernel)
theorem ggX7_readPoint_X7_number_p1 : GoodIn wsX7_readPoint [.constantLong RX7 113 (48), .constantLong RX7 115 (57), .fieldLink RX7 106 "RuledStrokesModel" "spot" "I", .methodLink RX7 109 yX7_here, .instanceMethod yX7_here, .selects RX7 yX7_here yX7_here, .initialized RX7, .code yX7_here cX7_here 1 (some .int), .fieldLink RX7 100 "RuledStrokesModel" "size" "I", .fieldLink RX7 7 "RuledStrokesModel" "text" "[I", .methodLink RX7 45 yX7_in, .static yX7_in, .code yX7_in cX7_in 6 (some .boolean)] := goodIn_r _ [8, 9, 1, 10, 11, 12, 6, 13, 14, 15, 16, 17, 18] (by decide +kernel) (by decide +kernel)
theorem ggX7_readPoint_X7_number_p2 : GoodIn wsX7_readPoint wsX70 := goodIn_r _ [19, 20, 21, 22, 23, 24, 25, 26, 27, 28, 29, 30, 31, 32, 33, 34, 35, 36, 37] (by decide +kernel) (by decide +kernel)
theorem ggX7_readPoint_X7_number : GoodIn wsX7_readPoint wsX7_number := (goodIn_c2 ggX7_readPoint_X7_number_p0 (goodIn_app ggX7_readPoint_X7_number_p1 ggX7_readPoint_X7_number_p2))
set_option maxRecDepth 20000 in
theorem gX7_readPoint_X7_number : GoodIn wsX7_readPoint (wsV RX7 117 RX7 yX7_number wsX7_number) := goodIn_app (goodIn_of _ (by decide +kernel)) ggX7_readPoint_X7_number
set_option maxRecDepth 20000 in
theorem ggX7_readPoint_X7_here : GoodIn wsX7_readPoint wsX7_here := goodIn_r _ [13, 1, 14, 15, 19, 20, 21, 22, 23, 24, 25, 26, 27, 28, 29, 30, 31, 32, 33, 34, 35, 36, 37] (by decide +kernel) (by decide +kernel)
set_option maxRecDepth 20000 in
theorem gX7_readPoint_X7_here : GoodIn wsX7_readPoint (wsV RX7 109 RX7 yX7_here wsX7_here) := goodIn_app (goodIn_of _ (by decide +kernel)) ggX7_readPoint_X7_here
theorem dX7_readPoint_0 : decode cX7_readPoint 0 = .ok (.aload_n 0, 1) := by decide +kernel
theorem dX7_readPoint_1 : decode cX7_readPoint 1 = .ok (.invokevirtual 117, 3) := by decide +kernel
theorem dX7_readPoint_4 : decode cX7_readPoint 4 = .ok (.istore_n 1, 1) := by decide +kernel
theorem dX7_readPoint_5 : decode cX7_readPoint 5 = .ok (.iload_n 1, 1) := by decide +kernel
theorem dX7_readPoint_6 : decode cX7_readPoint 6 = .ok (.iconst (-1), 1) := by decide +kernel
theorem dX7_readPoint_7 : decode cX7_readPoint 7 = .ok (.if_icmp .eq 12, 3) := by decide +kernel
theorem dX7_readPoint_10 : decode cX7_readPoint 10 = .ok (.aload_n 0, 1) := by decide +kernel
theorem dX7_readPoint_11 : decode cX7_readPoint 11 = .ok (.invokevirtual 109, 3) := by decide +kernel
theorem dX7_readPoint_14 : decode cX7_readPoint 14 = .ok (.bipush 44, 2) := by decide +kernel
theorem dX7_readPoint_16 : decode cX7_readPoint 16 = .ok (.if_icmp .eq 5, 3) := by decide +kernel
theorem dX7_readPoint_19 : decode cX7_readPoint 19 = .ok (.iconst 0, 1) := by decide +kernel
theorem dX7_readPoint_20 : decode cX7_readPoint 20 = .ok (.ireturn, 1) := by decide +kernel
theorem dX7_readPoint_21 : decode cX7_readPoint 21 = .ok (.aload_n 0, 1) := by decide +kernel
theorem dX7_readPoint_22 : decode cX7_readPoint 22 = .ok (.dup, 1) := by decide +kernel
theorem dX7_readPoint_23 : decode cX7_readPoint 23 = .ok (.getfield 106, 3) := by decide +kernel
theorem dX7_readPoint_26 : decode cX7_readPoint 26 = .ok (.iconst 1, 1) := by decide +kernel
theorem dX7_readPoint_27 : decode cX7_readPoint 27 = .ok (.iadd, 1) := by decide +kernel
theorem dX7_readPoint_28 : decode cX7_readPoint 28 = .ok (.putfield 106, 3) := by decide +kernel
theorem dX7_readPoint_31 : decode cX7_readPoint 31 = .ok (.aload_n 0, 1) := by decide +kernel
theorem dX7_readPoint_32 : decode cX7_readPoint 32 = .ok (.invokevirtual 117, 3) := by decide +kernel
theorem dX7_readPoint_35 : decode cX7_readPoint 35 = .ok (.istore_n 2, 1) := by decide +kernel
theorem dX7_readPoint_36 : decode cX7_readPoint 36 = .ok (.iload_n 2, 1) := by decide +kernel
theorem dX7_readPoint_37 : decode cX7_readPoint 37 = .ok (.iconst (-1), 1) := by decide +kernel
theorem dX7_readPoint_38 : decode cX7_readPoint 38 = .ok (.if_icmp .ne 5, 3) := by decide +kernel
theorem dX7_readPoint_41 : decode cX7_readPoint 41 = .ok (.iconst 0, 1) := by decide +kernel
theorem dX7_readPoint_42 : decode cX7_readPoint 42 = .ok (.ireturn, 1) := by decide +kernel
theorem dX7_readPoint_43 : decode cX7_readPoint 43 = .ok (.aload_n 0, 1) := by decide +kernel
theorem dX7_readPoint_44 : decode cX7_readPoint 44 = .ok (.getfield 29, 3) := by decide +kernel
theorem dX7_readPoint_47 : decode cX7_readPoint 47 = .ok (.iconst 0, 1) := by decide +kernel
theorem dX7_readPoint_48 : decode cX7_readPoint 48 = .ok (.iaload, 1) := by decide +kernel
theorem dX7_readPoint_49 : decode cX7_readPoint 49 = .ok (.iconst 1, 1) := by decide +kernel
theorem dX7_readPoint_50 : decode cX7_readPoint 50 = .ok (.isub, 1) := by decide +kernel
theorem dX7_readPoint_51 : decode cX7_readPoint 51 = .ok (.istore_n 3, 1) := by decide +kernel
theorem dX7_readPoint_52 : decode cX7_readPoint 52 = .ok (.iconst 4, 1) := by decide +kernel
theorem dX7_readPoint_53 : decode cX7_readPoint 53 = .ok (.bipush 24, 2) := by decide +kernel
theorem dX7_readPoint_55 : decode cX7_readPoint 55 = .ok (.iload_n 3, 1) := by decide +kernel
theorem dX7_readPoint_56 : decode cX7_readPoint 56 = .ok (.imul, 1) := by decide +kernel
theorem dX7_readPoint_57 : decode cX7_readPoint 57 = .ok (.iadd, 1) := by decide +kernel
theorem dX7_readPoint_58 : decode cX7_readPoint 58 = .ok (.iconst 2, 1) := by decide +kernel
theorem dX7_readPoint_59 : decode cX7_readPoint 59 = .ok (.aload_n 0, 1) := by decide +kernel
theorem dX7_readPoint_60 : decode cX7_readPoint 60 = .ok (.getfield 29, 3) := by decide +kernel
theorem dX7_readPoint_63 : decode cX7_readPoint 63 = .ok (.iconst 1, 1) := by decide +kernel
theorem dX7_readPoint_64 : decode cX7_readPoint 64 = .ok (.iload_n 3, 1) := by decide +kernel
theorem dX7_readPoint_65 : decode cX7_readPoint 65 = .ok (.iadd, 1) := by decide +kernel
theorem dX7_readPoint_66 : decode cX7_readPoint 66 = .ok (.iaload, 1) := by decide +kernel
theorem dX7_readPoint_67 : decode cX7_readPoint 67 = .ok (.imul, 1) := by decide +kernel
theorem dX7_readPoint_68 : decode cX7_readPoint 68 = .ok (.iadd, 1) := by decide +kernel
theorem dX7_readPoint_69 : decode cX7_readPoint 69 = .ok (.istore 4, 2) := by decide +kernel
theorem dX7_readPoint_71 : decode cX7_readPoint 71 = .ok (.aload_n 0, 1) := by decide +kernel
theorem dX7_readPoint_72 : decode cX7_readPoint 72 = .ok (.getfield 29, 3) := by decide +kernel
theorem dX7_readPoint_75 : decode cX7_readPoint 75 = .ok (.iload 4, 2) := by decide +kernel
theorem dX7_readPoint_77 : decode cX7_readPoint 77 = .ok (.iload_n 1, 1) := by decide +kernel
theorem dX7_readPoint_78 : decode cX7_readPoint 78 = .ok (.iastore, 1) := by decide +kernel
theorem dX7_readPoint_79 : decode cX7_readPoint 79 = .ok (.aload_n 0, 1) := by decide +kernel
theorem dX7_readPoint_80 : decode cX7_readPoint 80 = .ok (.getfield 29, 3) := by decide +kernel
theorem dX7_readPoint_83 : decode cX7_readPoint 83 = .ok (.iload 4, 2) := by decide +kernel
theorem dX7_readPoint_85 : decode cX7_readPoint 85 = .ok (.iconst 1, 1) := by decide +kernel
theorem dX7_readPoint_86 : decode cX7_readPoint 86 = .ok (.iadd, 1) := by decide +kernel
theorem dX7_readPoint_87 : decode cX7_readPoint 87 = .ok (.iload_n 2, 1) := by decide +kernel
theorem dX7_readPoint_88 : decode cX7_readPoint 88 = .ok (.iastore, 1) := by decide +kernel
theorem dX7_readPoint_89 : decode cX7_readPoint 89 = .ok (.aload_n 0, 1) := by decide +kernel
theorem dX7_readPoint_90 : decode cX7_readPoint 90 = .ok (.getfield 29, 3) := by decide +kernel
theorem dX7_readPoint_93 : decode cX7_readPoint 93 = .ok (.iconst 1, 1) := by decide +kernel
theorem dX7_readPoint_94 : decode cX7_readPoint 94 = .ok (.iload_n 3, 1) := by decide +kernel
theorem dX7_readPoint_95 : decode cX7_readPoint 95 = .ok (.iadd, 1) := by decide +kernel
theorem dX7_readPoint_96 : decode cX7_readPoint 96 = .ok (.dup2, 1) := by decide +kernel
theorem dX7_readPoint_97 : decode cX7_readPoint 97 = .ok (.iaload, 1) := by decide +kernel
theorem dX7_readPoint_98 : decode cX7_readPoint 98 = .ok (.iconst 1, 1) := by decide +kernel
theorem dX7_readPoint_99 : decode cX7_readPoint 99 = .ok (.iadd, 1) := by decide +kernel
theorem dX7_readPoint_100 : decode cX7_readPoint 100 = .ok (.iastore, 1) := by decide +kernel
theorem dX7_readPoint_101 : decode cX7_readPoint 101 = .ok (.iconst 1, 1) := by decide +kernel
theorem dX7_readPoint_102 : decode cX7_readPoint 102 = .ok (.ireturn, 1) := by decide +kernel
set_option maxRecDepth 20000 in
theorem ggX7_readText_X7_clearFigure : GoodIn wsX7_readText wsX7_clearFigure := goodIn_r _ [7] (by decide +kernel) (by decide +kernel)
set_option maxRecDepth 20000 in
theorem gX7_readText_X7_clearFigure : GoodIn wsX7_readText (va_wsS RX7 120 yX7_clearFigure wsX7_clearFigure) := goodIn_app (goodIn_of _ (by decide +kernel)) ggX7_readText_X7_clearFigure
set_option maxRecDepth 20000 in
theorem ggX7_readText_X7_readPoint_p0 : GoodIn wsX7_readText [.code yX7_readPoint cX7_readPoint 5 (some .boolean)] := goodIn_r _ [11] (by decide +kernel) (by decide +kernel)
theorem ggX7_readText_X7_readPoint_p1 : GoodIn wsX7_readText [.fieldLink RX7 106 "RuledStrokesModel" "spot" "I", .fieldLink RX7 29 "RuledStrokesModel" "drawn" "[I", .methodLink RX7 117 yX7_number, .instanceMethod yX7_number, .selects RX7 yX7_number yX7_number, .initialized RX7, .code yX7_number cX7_number 2 (some .int), .constantLong RX7 113 (48), .constantLong RX7 115 (57), .methodLink RX7 109 yX7_here, .instanceMethod yX7_here, .selects RX7 yX7_here yX7_here, .code yX7_here cX7_here 1 (some .int), .fieldLink RX7 100 "RuledStrokesModel" "size" "I", .fieldLink RX7 7 "RuledStrokesModel" "text" "[I", .methodLink RX7 45 yX7_in, .static yX7_in, .code yX7_in cX7_in 6 (some .boolean)] := goodIn_r _ [2, 1, 12, 13, 14, 6, 15, 16, 17, 18, 19, 20, 21, 3, 22, 23, 24, 25] (by decide +kernel) (by decide +kernel)
theorem ggX7_readText_X7_readPoint_p2 : GoodIn wsX7_readText wsX70 := goodIn_r _ [26, 27, 28, 29, 30, 31, 32, 33, 34, 35, 36, 37, 38, 39, 40, 41, 42, 43, 44] (by decide +kernel) (by decide +kernel)
theorem ggX7_readText_X7_readPoint : GoodIn wsX7_readText wsX7_readPoint := (goodIn_c2 ggX7_readText_X7_readPoint_p0 (goodIn_app ggX7_readText_X7_readPoint_p1 ggX7_readText_X7_readPoint_p2))
set_option maxRecDepth 20000 in
theorem gX7_readText_X7_readPoint : GoodIn wsX7_readText (wsV RX7 124 RX7 yX7_readPoint wsX7_readPoint) := goodIn_app (goodIn_of _ (by decide +kernel)) ggX7_readText_X7_readPoint
set_option maxRecDepth 20000 in
theorem ggX7_readText_X7_here : GoodIn wsX7_readText wsX7_here := goodIn_r _ [21, 2, 3, 22, 26, 27, 28, 29, 30, 31, 32, 33, 34, 35, 36, 37, 38, 39, 40, 41, 42, 43, 44] (by decide +kernel) (by decide +kernel)
set_option maxRecDepth 20000 in
theorem gX7_readText_X7_here : GoodIn wsX7_readText (wsV RX7 109 RX7 yX7_here wsX7_here) := goodIn_app (goodIn_of _ (by decide +kernel)) ggX7_readText_X7_here
theorem dX7_readText_0 : decode cX7_readText 0 = .ok (.aload_n 0, 1) := by decide +kernel
theorem dX7_readText_1 : decode cX7_readText 1 = .ok (.getfield 29, 3) := by decide +kernel
theorem dX7_readText_4 : decode cX7_readText 4 = .ok (.iconst 0, 1) := by decide +kernel
theorem dX7_readText_5 : decode cX7_readText 5 = .ok (.invokestatic 120, 3) := by decide +kernel
theorem dX7_readText_8 : decode cX7_readText 8 = .ok (.aload_n 0, 1) := by decide +kernel
theorem dX7_readText_9 : decode cX7_readText 9 = .ok (.iconst 0, 1) := by decide +kernel
theorem dX7_readText_10 : decode cX7_readText 10 = .ok (.putfield 106, 3) := by decide +kernel
theorem dX7_readText_13 : decode cX7_readText 13 = .ok (.aload_n 0, 1) := by decide +kernel
theorem dX7_readText_14 : decode cX7_readText 14 = .ok (.getfield 29, 3) := by decide +kernel
theorem dX7_readText_17 : decode cX7_readText 17 = .ok (.iconst 0, 1) := by decide +kernel
theorem dX7_readText_18 : decode cX7_readText 18 = .ok (.iconst 1, 1) := by decide +kernel
theorem dX7_readText_19 : decode cX7_readText 19 = .ok (.iastore, 1) := by decide +kernel
theorem dX7_readText_20 : decode cX7_readText 20 = .ok (.iconst 1, 1) := by decide +kernel
theorem dX7_readText_21 : decode cX7_readText 21 = .ok (.istore_n 1, 1) := by decide +kernel
theorem dX7_readText_22 : decode cX7_readText 22 = .ok (.iload_n 1, 1) := by decide +kernel
theorem dX7_readText_23 : decode cX7_readText 23 = .ok (.ifCond .eq 128, 3) := by decide +kernel
theorem dX7_readText_26 : decode cX7_readText 26 = .ok (.aload_n 0, 1) := by decide +kernel
theorem dX7_readText_27 : decode cX7_readText 27 = .ok (.invokevirtual 124, 3) := by decide +kernel
theorem dX7_readText_30 : decode cX7_readText 30 = .ok (.ifCond .ne 8, 3) := by decide +kernel
theorem dX7_readText_33 : decode cX7_readText 33 = .ok (.aload_n 0, 1) := by decide +kernel
theorem dX7_readText_34 : decode cX7_readText 34 = .ok (.getfield 106, 3) := by decide +kernel
theorem dX7_readText_37 : decode cX7_readText 37 = .ok (.ireturn, 1) := by decide +kernel
theorem dX7_readText_38 : decode cX7_readText 38 = .ok (.aload_n 0, 1) := by decide +kernel
theorem dX7_readText_39 : decode cX7_readText 39 = .ok (.invokevirtual 109, 3) := by decide +kernel
theorem dX7_readText_42 : decode cX7_readText 42 = .ok (.bipush 45, 2) := by decide +kernel
theorem dX7_readText_44 : decode cX7_readText 44 = .ok (.if_icmp .ne 27, 3) := by decide +kernel
theorem dX7_readText_47 : decode cX7_readText 47 = .ok (.aload_n 0, 1) := by decide +kernel
theorem dX7_readText_48 : decode cX7_readText 48 = .ok (.getfield 29, 3) := by decide +kernel
theorem dX7_readText_51 : decode cX7_readText 51 = .ok (.iconst 1, 1) := by decide +kernel
theorem dX7_readText_52 : decode cX7_readText 52 = .ok (.aload_n 0, 1) := by decide +kernel
theorem dX7_readText_53 : decode cX7_readText 53 = .ok (.getfield 29, 3) := by decide +kernel
theorem dX7_readText_56 : decode cX7_readText 56 = .ok (.iconst 0, 1) := by decide +kernel
theorem dX7_readText_57 : decode cX7_readText 57 = .ok (.iaload, 1) := by decide +kernel
theorem dX7_readText_58 : decode cX7_readText 58 = .ok (.iadd, 1) := by decide +kernel
theorem dX7_readText_59 : decode cX7_readText 59 = .ok (.iconst 1, 1) := by decide +kernel
theorem dX7_readText_60 : decode cX7_readText 60 = .ok (.isub, 1) := by decide +kernel
theorem dX7_readText_61 : decode cX7_readText 61 = .ok (.iaload, 1) := by decide +kernel
theorem dX7_readText_62 : decode cX7_readText 62 = .ok (.bipush 12, 2) := by decide +kernel
theorem dX7_readText_64 : decode cX7_readText 64 = .ok (.if_icmp .ge 7, 3) := by decide +kernel
theorem dX7_readText_67 : decode cX7_readText 67 = .ok (.iconst 1, 1) := by decide +kernel
theorem dX7_readText_68 : decode cX7_readText 68 = .ok (.goto 4, 3) := by decide +kernel
theorem dX7_readText_71 : decode cX7_readText 71 = .ok (.iconst 0, 1) := by decide +kernel
theorem dX7_readText_72 : decode cX7_readText 72 = .ok (.istore_n 2, 1) := by decide +kernel
theorem dX7_readText_73 : decode cX7_readText 73 = .ok (.aload_n 0, 1) := by decide +kernel
theorem dX7_readText_74 : decode cX7_readText 74 = .ok (.invokevirtual 109, 3) := by decide +kernel
theorem dX7_readText_77 : decode cX7_readText 77 = .ok (.bipush 47, 2) := by decide +kernel
theorem dX7_readText_79 : decode cX7_readText 79 = .ok (.if_icmp .ne 17, 3) := by decide +kernel
theorem dX7_readText_82 : decode cX7_readText 82 = .ok (.aload_n 0, 1) := by decide +kernel
theorem dX7_readText_83 : decode cX7_readText 83 = .ok (.getfield 29, 3) := by decide +kernel
theorem dX7_readText_86 : decode cX7_readText 86 = .ok (.iconst 0, 1) := by decide +kernel
theorem dX7_readText_87 : decode cX7_readText 87 = .ok (.iaload, 1) := by decide +kernel
theorem dX7_readText_88 : decode cX7_readText 88 = .ok (.iconst 3, 1) := by decide +kernel
theorem dX7_readText_89 : decode cX7_readText 89 = .ok (.if_icmp .ge 7, 3) := by decide +kernel
theorem dX7_readText_92 : decode cX7_readText 92 = .ok (.iconst 1, 1) := by decide +kernel
theorem dX7_readText_93 : decode cX7_readText 93 = .ok (.goto 4, 3) := by decide +kernel
theorem dX7_readText_96 : decode cX7_readText 96 = .ok (.iconst 0, 1) := by decide +kernel
theorem dX7_readText_97 : decode cX7_readText 97 = .ok (.istore_n 3, 1) := by decide +kernel
theorem dX7_readText_98 : decode cX7_readText 98 = .ok (.aload_n 0, 1) := by decide +kernel
theorem dX7_readText_99 : decode cX7_readText 99 = .ok (.getfield 29, 3) := by decide +kernel
theorem dX7_readText_102 : decode cX7_readText 102 = .ok (.iconst 0, 1) := by decide +kernel
theorem dX7_readText_103 : decode cX7_readText 103 = .ok (.dup2, 1) := by decide +kernel
theorem dX7_readText_104 : decode cX7_readText 104 = .ok (.iaload, 1) := by decide +kernel
theorem dX7_readText_105 : decode cX7_readText 105 = .ok (.iload_n 3, 1) := by decide +kernel
theorem dX7_readText_106 : decode cX7_readText 106 = .ok (.ifCond .eq 7, 3) := by decide +kernel
theorem dX7_readText_109 : decode cX7_readText 109 = .ok (.iconst 1, 1) := by decide +kernel
theorem dX7_readText_110 : decode cX7_readText 110 = .ok (.goto 4, 3) := by decide +kernel
theorem dX7_readText_113 : decode cX7_readText 113 = .ok (.iconst 0, 1) := by decide +kernel
theorem dX7_readText_114 : decode cX7_readText 114 = .ok (.iadd, 1) := by decide +kernel
theorem dX7_readText_115 : decode cX7_readText 115 = .ok (.iastore, 1) := by decide +kernel
theorem dX7_readText_116 : decode cX7_readText 116 = .ok (.iload_n 2, 1) := by decide +kernel
theorem dX7_readText_117 : decode cX7_readText 117 = .ok (.ifCond .ne 7, 3) := by decide +kernel
theorem dX7_readText_120 : decode cX7_readText 120 = .ok (.iload_n 3, 1) := by decide +kernel
theorem dX7_readText_121 : decode cX7_readText 121 = .ok (.ifCond .eq 7, 3) := by decide +kernel
theorem dX7_readText_124 : decode cX7_readText 124 = .ok (.iconst 1, 1) := by decide +kernel
theorem dX7_readText_125 : decode cX7_readText 125 = .ok (.goto 4, 3) := by decide +kernel
theorem dX7_readText_128 : decode cX7_readText 128 = .ok (.iconst 0, 1) := by decide +kernel
theorem dX7_readText_129 : decode cX7_readText 129 = .ok (.istore_n 1, 1) := by decide +kernel
theorem dX7_readText_130 : decode cX7_readText 130 = .ok (.aload_n 0, 1) := by decide +kernel
theorem dX7_readText_131 : decode cX7_readText 131 = .ok (.dup, 1) := by decide +kernel
theorem dX7_readText_132 : decode cX7_readText 132 = .ok (.getfield 106, 3) := by decide +kernel
theorem dX7_readText_135 : decode cX7_readText 135 = .ok (.iload_n 1, 1) := by decide +kernel
theorem dX7_readText_136 : decode cX7_readText 136 = .ok (.ifCond .eq 7, 3) := by decide +kernel
theorem dX7_readText_139 : decode cX7_readText 139 = .ok (.iconst 1, 1) := by decide +kernel
theorem dX7_readText_140 : decode cX7_readText 140 = .ok (.goto 4, 3) := by decide +kernel
theorem dX7_readText_143 : decode cX7_readText 143 = .ok (.iconst 0, 1) := by decide +kernel
theorem dX7_readText_144 : decode cX7_readText 144 = .ok (.iadd, 1) := by decide +kernel
theorem dX7_readText_145 : decode cX7_readText 145 = .ok (.putfield 106, 3) := by decide +kernel
theorem dX7_readText_148 : decode cX7_readText 148 = .ok (.goto (-126), 3) := by decide +kernel
theorem dX7_readText_151 : decode cX7_readText 151 = .ok (.aload_n 0, 1) := by decide +kernel
theorem dX7_readText_152 : decode cX7_readText 152 = .ok (.getfield 106, 3) := by decide +kernel
theorem dX7_readText_155 : decode cX7_readText 155 = .ok (.aload_n 0, 1) := by decide +kernel
theorem dX7_readText_156 : decode cX7_readText 156 = .ok (.getfield 100, 3) := by decide +kernel
theorem dX7_readText_159 : decode cX7_readText 159 = .ok (.if_icmp .ge 10, 3) := by decide +kernel
theorem dX7_readText_162 : decode cX7_readText 162 = .ok (.aload_n 0, 1) := by decide +kernel
theorem dX7_readText_163 : decode cX7_readText 163 = .ok (.getfield 106, 3) := by decide +kernel
theorem dX7_readText_166 : decode cX7_readText 166 = .ok (.goto 4, 3) := by decide +kernel
theorem dX7_readText_169 : decode cX7_readText 169 = .ok (.iconst (-1), 1) := by decide +kernel
theorem dX7_readText_170 : decode cX7_readText 170 = .ok (.ireturn, 1) := by decide +kernel
set_option maxRecDepth 20000 in
theorem ggX7_errorPosition_X7_readText_p0 : GoodIn wsX7_errorPosition [.code yX7_readText cX7_readText 4 (some .int)] := goodIn_r _ [6] (by decide +kernel) (by decide +kernel)
theorem ggX7_errorPosition_X7_readText_p1 : GoodIn wsX7_errorPosition wsX7_readText_r1 := goodIn_r _ [7, 8, 9, 10, 11, 5, 12, 13, 14, 15, 16, 17, 18, 19, 20, 21, 22, 23, 24, 25, 26, 27, 28, 29] (by decide +kernel) (by decide +kernel)
theorem ggX7_errorPosition_X7_readText_p2 : GoodIn wsX7_errorPosition wsX7_readText_r2 := goodIn_r _ [30] (by decide +kernel) (by decide +kernel)
theorem ggX7_errorPosition_X7_readText_p3 : GoodIn wsX7_errorPosition wsX70 := goodIn_r _ [31, 32, 33, 34, 35, 36, 37, 38, 39, 40, 41, 42, 43, 44, 45, 46, 47, 48, 49] (by decide +kernel) (by decide +kernel)
theorem ggX7_errorPosition_X7_readText : GoodIn wsX7_errorPosition wsX7_readText := (goodIn_c2 ggX7_errorPosition_X7_readText_p0 (goodIn_app (goodIn_app ggX7_errorPosition_X7_readText_p1 ggX7_errorPosition_X7_readText_p2) ggX7_errorPosition_X7_readText_p3))
set_option maxRecDepth 20000 in
theorem gX7_errorPosition_X7_readText : GoodIn wsX7_errorPosition (wsV RX7 128 RX7 yX7_readText wsX7_readText) := goodIn_app (goodIn_of _ (by decide +kernel)) ggX7_errorPosition_X7_readText
theorem dX7_errorPosition_0 : decode cX7_errorPosition 0 = .ok (.aload_n 0, 1) := by decide +kernel
theorem dX7_errorPosition_1 : decode cX7_errorPosition 1 = .ok (.iconst 0, 1) := by decide +kernel
theorem dX7_errorPosition_2 : decode cX7_errorPosition 2 = .ok (.putfield 41, 3) := by decide +kernel
theorem dX7_errorPosition_5 : decode cX7_errorPosition 5 = .ok (.aload_n 0, 1) := by decide +kernel
theorem dX7_errorPosition_6 : decode cX7_errorPosition 6 = .ok (.invokevirtual 128, 3) := by decide +kernel
theorem dX7_errorPosition_9 : decode cX7_errorPosition 9 = .ok (.ireturn, 1) := by decide +kernel
theorem dX7_sum_0 : decode cX7_sum 0 = .ok (.iconst 0, 1) := by decide +kernel
theorem dX7_sum_1 : decode cX7_sum 1 = .ok (.istore_n 2, 1) := by decide +kernel
theorem dX7_sum_2 : decode cX7_sum 2 = .ok (.iconst 0, 1) := by decide +kernel
theorem dX7_sum_3 : decode cX7_sum 3 = .ok (.istore_n 3, 1) := by decide +kernel
theorem dX7_sum_4 : decode cX7_sum 4 = .ok (.iload_n 3, 1) := by decide +kernel
theorem dX7_sum_5 : decode cX7_sum 5 = .ok (.bipush 10, 2) := by decide +kernel
theorem dX7_sum_7 : decode cX7_sum 7 = .ok (.if_icmp .ge 17, 3) := by decide +kernel
theorem dX7_sum_10 : decode cX7_sum 10 = .ok (.iload_n 2, 1) := by decide +kernel
theorem dX7_sum_11 : decode cX7_sum 11 = .ok (.aload_n 0, 1) := by decide +kernel
theorem dX7_sum_12 : decode cX7_sum 12 = .ok (.iload_n 1, 1) := by decide +kernel
theorem dX7_sum_13 : decode cX7_sum 13 = .ok (.iload_n 3, 1) := by decide +kernel
theorem dX7_sum_14 : decode cX7_sum 14 = .ok (.iadd, 1) := by decide +kernel
theorem dX7_sum_15 : decode cX7_sum 15 = .ok (.iaload, 1) := by decide +kernel
theorem dX7_sum_16 : decode cX7_sum 16 = .ok (.iadd, 1) := by decide +kernel
theorem dX7_sum_17 : decode cX7_sum 17 = .ok (.istore_n 2, 1) := by decide +kernel
theorem dX7_sum_18 : decode cX7_sum 18 = .ok (.iinc 3 1, 3) := by decide +kernel
theorem dX7_sum_21 : decode cX7_sum 21 = .ok (.goto (-17), 3) := by decide +kernel
theorem dX7_sum_24 : decode cX7_sum 24 = .ok (.iload_n 2, 1) := by decide +kernel
theorem dX7_sum_25 : decode cX7_sum 25 = .ok (.ireturn, 1) := by decide +kernel
set_option maxRecDepth 20000 in
theorem ggX7_about_X7_in : GoodIn wsX7_about wsX7_in := goodIn_r _ [7] (by decide +kernel) (by decide +kernel)
set_option maxRecDepth 20000 in
theorem gX7_about_X7_in : GoodIn wsX7_about (va_wsS RX7 45 yX7_in wsX7_in) := goodIn_app (goodIn_of _ (by decide +kernel)) ggX7_about_X7_in
set_option maxRecDepth 20000 in
theorem ggX7_about_X7_refused : GoodIn wsX7_about wsX7_refused := goodIn_r _ [11, 12, 34, 35, 36, 37, 38, 39, 40, 41, 42, 43, 44, 45, 46, 47, 48, 49, 50, 51, 52] (by decide +kernel) (by decide +kernel)
set_option maxRecDepth 20000 in
theorem gX7_about_X7_refused : GoodIn wsX7_about (wsV RX7 102 RX7 yX7_refused wsX7_refused) := goodIn_app (goodIn_of _ (by decide +kernel)) ggX7_about_X7_refused
set_option maxRecDepth 20000 in
theorem ggX7_about_X7_pointsOf : GoodIn wsX7_about wsX7_pointsOf := goodIn_r _ [15] (by decide +kernel) (by decide +kernel)
set_option maxRecDepth 20000 in
theorem gX7_about_X7_pointsOf : GoodIn wsX7_about (va_wsS RX7 133 yX7_pointsOf wsX7_pointsOf) := goodIn_app (goodIn_of _ (by decide +kernel)) ggX7_about_X7_pointsOf
set_option maxRecDepth 20000 in
theorem ggX7_about_X7_signature : GoodIn wsX7_about wsX7_signature := goodIn_r _ [18, 19, 20, 6, 21, 22, 23, 24, 25, 26, 27, 28, 29, 30] (by decide +kernel) (by decide +kernel)
set_option maxRecDepth 20000 in
theorem gX7_about_X7_signature : GoodIn wsX7_about (va_wsS RX7 75 yX7_signature wsX7_signature) := goodIn_app (goodIn_of _ (by decide +kernel)) ggX7_about_X7_signature
set_option maxRecDepth 20000 in
theorem ggX7_about_X7_sum : GoodIn wsX7_about wsX7_sum := goodIn_r _ [33] (by decide +kernel) (by decide +kernel)
set_option maxRecDepth 20000 in
theorem gX7_about_X7_sum : GoodIn wsX7_about (va_wsS RX7 137 yX7_sum wsX7_sum) := goodIn_app (goodIn_of _ (by decide +kernel)) ggX7_about_X7_sum
theorem dX7_about_0 : decode cX7_about 0 = .ok (.aload_n 0, 1) := by decide +kernel
theorem dX7_about_1 : decode cX7_about 1 = .ok (.iload_n 1, 1) := by decide +kernel
theorem dX7_about_2 : decode cX7_about 2 = .ok (.i2l, 1) := by decide +kernel
theorem dX7_about_3 : decode cX7_about 3 = .ok (.lconst 0, 1) := by decide +kernel
theorem dX7_about_4 : decode cX7_about 4 = .ok (.ldc2_w 131, 3) := by decide +kernel
theorem dX7_about_7 : decode cX7_about 7 = .ok (.invokestatic 45, 3) := by decide +kernel
theorem dX7_about_10 : decode cX7_about 10 = .ok (.ifCond .eq 7, 3) := by decide +kernel
theorem dX7_about_13 : decode cX7_about 13 = .ok (.iconst 0, 1) := by decide +kernel
theorem dX7_about_14 : decode cX7_about 14 = .ok (.goto 4, 3) := by decide +kernel
theorem dX7_about_17 : decode cX7_about 17 = .ok (.iconst 1, 1) := by decide +kernel
theorem dX7_about_18 : decode cX7_about 18 = .ok (.invokevirtual 102, 3) := by decide +kernel
theorem dX7_about_21 : decode cX7_about 21 = .ok (.ifCond .eq 5, 3) := by decide +kernel
theorem dX7_about_24 : decode cX7_about 24 = .ok (.iconst 0, 1) := by decide +kernel
theorem dX7_about_25 : decode cX7_about 25 = .ok (.ireturn, 1) := by decide +kernel
theorem dX7_about_26 : decode cX7_about 26 = .ok (.iload_n 1, 1) := by decide +kernel
theorem dX7_about_27 : decode cX7_about 27 = .ok (.tableswitch 133 0 6 #[41, 48, 57, 65, 85, 93, 123], 41) := by decide +kernel
theorem dX7_about_68 : decode cX7_about 68 = .ok (.aload_n 0, 1) := by decide +kernel
theorem dX7_about_69 : decode cX7_about 69 = .ok (.getfield 13, 3) := by decide +kernel
theorem dX7_about_72 : decode cX7_about 72 = .ok (.iconst 0, 1) := by decide +kernel
theorem dX7_about_73 : decode cX7_about 73 = .ok (.iaload, 1) := by decide +kernel
theorem dX7_about_74 : decode cX7_about 74 = .ok (.ireturn, 1) := by decide +kernel
theorem dX7_about_75 : decode cX7_about 75 = .ok (.aload_n 0, 1) := by decide +kernel
theorem dX7_about_76 : decode cX7_about 76 = .ok (.getfield 13, 3) := by decide +kernel
theorem dX7_about_79 : decode cX7_about 79 = .ok (.iconst 0, 1) := by decide +kernel
theorem dX7_about_80 : decode cX7_about 80 = .ok (.invokestatic 133, 3) := by decide +kernel
theorem dX7_about_83 : decode cX7_about 83 = .ok (.ireturn, 1) := by decide +kernel
theorem dX7_about_84 : decode cX7_about 84 = .ok (.aload_n 0, 1) := by decide +kernel
theorem dX7_about_85 : decode cX7_about 85 = .ok (.getfield 13, 3) := by decide +kernel
theorem dX7_about_88 : decode cX7_about 88 = .ok (.bipush 76, 2) := by decide +kernel
theorem dX7_about_90 : decode cX7_about 90 = .ok (.iaload, 1) := by decide +kernel
theorem dX7_about_91 : decode cX7_about 91 = .ok (.ireturn, 1) := by decide +kernel
theorem dX7_about_92 : decode cX7_about 92 = .ok (.aload_n 0, 1) := by decide +kernel
theorem dX7_about_93 : decode cX7_about 93 = .ok (.getfield 13, 3) := by decide +kernel
theorem dX7_about_96 : decode cX7_about 96 = .ok (.iconst 0, 1) := by decide +kernel
theorem dX7_about_97 : decode cX7_about 97 = .ok (.aload_n 0, 1) := by decide +kernel
theorem dX7_about_98 : decode cX7_about 98 = .ok (.getfield 13, 3) := by decide +kernel
theorem dX7_about_101 : decode cX7_about 101 = .ok (.bipush 77, 2) := by decide +kernel
theorem dX7_about_103 : decode cX7_about 103 = .ok (.iaload, 1) := by decide +kernel
theorem dX7_about_104 : decode cX7_about 104 = .ok (.aload_n 0, 1) := by decide +kernel
theorem dX7_about_105 : decode cX7_about 105 = .ok (.getfield 32, 3) := by decide +kernel
theorem dX7_about_108 : decode cX7_about 108 = .ok (.invokestatic 75, 3) := by decide +kernel
theorem dX7_about_111 : decode cX7_about 111 = .ok (.ireturn, 1) := by decide +kernel
theorem dX7_about_112 : decode cX7_about 112 = .ok (.aload_n 0, 1) := by decide +kernel
theorem dX7_about_113 : decode cX7_about 113 = .ok (.getfield 13, 3) := by decide +kernel
theorem dX7_about_116 : decode cX7_about 116 = .ok (.bipush 110, 2) := by decide +kernel
theorem dX7_about_118 : decode cX7_about 118 = .ok (.iaload, 1) := by decide +kernel
theorem dX7_about_119 : decode cX7_about 119 = .ok (.ireturn, 1) := by decide +kernel
theorem dX7_about_120 : decode cX7_about 120 = .ok (.aload_n 0, 1) := by decide +kernel
theorem dX7_about_121 : decode cX7_about 121 = .ok (.getfield 13, 3) := by decide +kernel
theorem dX7_about_124 : decode cX7_about 124 = .ok (.bipush 80, 2) := by decide +kernel
theorem dX7_about_126 : decode cX7_about 126 = .ok (.invokestatic 137, 3) := by decide +kernel
theorem dX7_about_129 : decode cX7_about 129 = .ok (.aload_n 0, 1) := by decide +kernel
theorem dX7_about_130 : decode cX7_about 130 = .ok (.getfield 13, 3) := by decide +kernel
theorem dX7_about_133 : decode cX7_about 133 = .ok (.bipush 90, 2) := by decide +kernel
theorem dX7_about_135 : decode cX7_about 135 = .ok (.invokestatic 137, 3) := by decide +kernel
theorem dX7_about_138 : decode cX7_about 138 = .ok (.iadd, 1) := by decide +kernel
theorem dX7_about_139 : decode cX7_about 139 = .ok (.aload_n 0, 1) := by decide +kernel
theorem dX7_about_140 : decode cX7_about 140 = .ok (.getfield 13, 3) := by decide +kernel
theorem dX7_about_143 : decode cX7_about 143 = .ok (.bipush 100, 2) := by decide +kernel
theorem dX7_about_145 : decode cX7_about 145 = .ok (.invokestatic 137, 3) := by decide +kernel
theorem dX7_about_148 : decode cX7_about 148 = .ok (.iadd, 1) := by decide +kernel
theorem dX7_about_149 : decode cX7_about 149 = .ok (.ireturn, 1) := by decide +kernel
theorem dX7_about_150 : decode cX7_about 150 = .ok (.aload_n 0, 1) := by decide +kernel
theorem dX7_about_151 : decode cX7_about 151 = .ok (.getfield 13, 3) := by decide +kernel
theorem dX7_about_154 : decode cX7_about 154 = .ok (.bipush 80, 2) := by decide +kernel
theorem dX7_about_156 : decode cX7_about 156 = .ok (.invokestatic 137, 3) := by decide +kernel
theorem dX7_about_159 : decode cX7_about 159 = .ok (.ireturn, 1) := by decide +kernel
theorem dX7_about_160 : decode cX7_about 160 = .ok (.aload_n 0, 1) := by decide +kernel
theorem dX7_about_161 : decode cX7_about 161 = .ok (.getfield 13, 3) := by decide +kernel
theorem dX7_about_164 : decode cX7_about 164 = .ok (.bipush 90, 2) := by decide +kernel
theorem dX7_about_166 : decode cX7_about 166 = .ok (.invokestatic 137, 3) := by decide +kernel
theorem dX7_about_169 : decode cX7_about 169 = .ok (.ireturn, 1) := by decide +kernel
set_option maxRecDepth 20000 in
theorem ggX7_sign_X7_refused : GoodIn wsX7_sign wsX7_refused := goodIn_r _ [7, 8, 24, 25, 26, 27, 28, 29, 30, 31, 32, 33, 34, 35, 36, 37, 38, 39, 40, 41, 42] (by decide +kernel) (by decide +kernel)
set_option maxRecDepth 20000 in
theorem gX7_sign_X7_refused : GoodIn wsX7_sign (wsV RX7 102 RX7 yX7_refused wsX7_refused) := goodIn_app (goodIn_of _ (by decide +kernel)) ggX7_sign_X7_refused
set_option maxRecDepth 20000 in
theorem ggX7_sign_X7_signature : GoodIn wsX7_sign wsX7_signature := goodIn_r _ [11, 12, 13, 6, 14, 15, 16, 17, 18, 19, 20, 21, 22, 23] (by decide +kernel) (by decide +kernel)
set_option maxRecDepth 20000 in
theorem gX7_sign_X7_signature : GoodIn wsX7_sign (va_wsS RX7 75 yX7_signature wsX7_signature) := goodIn_app (goodIn_of _ (by decide +kernel)) ggX7_sign_X7_signature
theorem dX7_sign_0 : decode cX7_sign 0 = .ok (.aload_n 0, 1) := by decide +kernel
theorem dX7_sign_1 : decode cX7_sign 1 = .ok (.iload_n 1, 1) := by decide +kernel
theorem dX7_sign_2 : decode cX7_sign 2 = .ok (.ifCond .ge 7, 3) := by decide +kernel
theorem dX7_sign_5 : decode cX7_sign 5 = .ok (.iconst 1, 1) := by decide +kernel
theorem dX7_sign_6 : decode cX7_sign 6 = .ok (.goto 4, 3) := by decide +kernel
theorem dX7_sign_9 : decode cX7_sign 9 = .ok (.iconst 0, 1) := by decide +kernel
theorem dX7_sign_10 : decode cX7_sign 10 = .ok (.invokevirtual 102, 3) := by decide +kernel
theorem dX7_sign_13 : decode cX7_sign 13 = .ok (.ifCond .eq 5, 3) := by decide +kernel
theorem dX7_sign_16 : decode cX7_sign 16 = .ok (.iconst 0, 1) := by decide +kernel
theorem dX7_sign_17 : decode cX7_sign 17 = .ok (.ireturn, 1) := by decide +kernel
theorem dX7_sign_18 : decode cX7_sign 18 = .ok (.aload_n 0, 1) := by decide +kernel
theorem dX7_sign_19 : decode cX7_sign 19 = .ok (.getfield 13, 3) := by decide +kernel
theorem dX7_sign_22 : decode cX7_sign 22 = .ok (.iconst 0, 1) := by decide +kernel
theorem dX7_sign_23 : decode cX7_sign 23 = .ok (.aload_n 0, 1) := by decide +kernel
theorem dX7_sign_24 : decode cX7_sign 24 = .ok (.getfield 13, 3) := by decide +kernel
theorem dX7_sign_27 : decode cX7_sign 27 = .ok (.bipush 77, 2) := by decide +kernel
theorem dX7_sign_29 : decode cX7_sign 29 = .ok (.iaload, 1) := by decide +kernel
theorem dX7_sign_30 : decode cX7_sign 30 = .ok (.aload_n 0, 1) := by decide +kernel
theorem dX7_sign_31 : decode cX7_sign 31 = .ok (.getfield 32, 3) := by decide +kernel
theorem dX7_sign_34 : decode cX7_sign 34 = .ok (.invokestatic 75, 3) := by decide +kernel
theorem dX7_sign_37 : decode cX7_sign 37 = .ok (.istore_n 2, 1) := by decide +kernel
theorem dX7_sign_38 : decode cX7_sign 38 = .ok (.iload_n 1, 1) := by decide +kernel
theorem dX7_sign_39 : decode cX7_sign 39 = .ok (.iload_n 2, 1) := by decide +kernel
theorem dX7_sign_40 : decode cX7_sign 40 = .ok (.if_icmp .ge 12, 3) := by decide +kernel
theorem dX7_sign_43 : decode cX7_sign 43 = .ok (.aload_n 0, 1) := by decide +kernel
theorem dX7_sign_44 : decode cX7_sign 44 = .ok (.getfield 32, 3) := by decide +kernel
theorem dX7_sign_47 : decode cX7_sign 47 = .ok (.iload_n 1, 1) := by decide +kernel
theorem dX7_sign_48 : decode cX7_sign 48 = .ok (.iaload, 1) := by decide +kernel
theorem dX7_sign_49 : decode cX7_sign 49 = .ok (.goto 4, 3) := by decide +kernel
theorem dX7_sign_52 : decode cX7_sign 52 = .ok (.iconst (-1), 1) := by decide +kernel
theorem dX7_sign_53 : decode cX7_sign 53 = .ok (.ireturn, 1) := by decide +kernel
set_option maxRecDepth 20000 in
theorem ggX7_sample_X7_isSample : GoodIn wsX7_sample wsX7_isSample := goodIn_r _ [7, 8, 9, 6, 10] (by decide +kernel) (by decide +kernel)
set_option maxRecDepth 20000 in
theorem gX7_sample_X7_isSample : GoodIn wsX7_sample (va_wsS RX7 140 yX7_isSample wsX7_isSample) := goodIn_app (goodIn_of _ (by decide +kernel)) ggX7_sample_X7_isSample
set_option maxRecDepth 20000 in
theorem ggX7_sample_X7_in : GoodIn wsX7_sample wsX7_in := goodIn_r _ [10] (by decide +kernel) (by decide +kernel)
set_option maxRecDepth 20000 in
theorem gX7_sample_X7_in : GoodIn wsX7_sample (va_wsS RX7 45 yX7_in wsX7_in) := goodIn_app (goodIn_of _ (by decide +kernel)) ggX7_sample_X7_in
set_option maxRecDepth 20000 in
theorem ggX7_sample_X7_refused : GoodIn wsX7_sample wsX7_refused := goodIn_r _ [14, 15, 40, 41, 42, 43, 44, 45, 46, 47, 48, 49, 50, 51, 52, 53, 54, 55, 56, 57, 58] (by decide +kernel) (by decide +kernel)
set_option maxRecDepth 20000 in
theorem gX7_sample_X7_refused : GoodIn wsX7_sample (wsV RX7 102 RX7 yX7_refused wsX7_refused) := goodIn_app (goodIn_of _ (by decide +kernel)) ggX7_sample_X7_refused
