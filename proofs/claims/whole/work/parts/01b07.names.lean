theorem dX7_readText_145 : decode cX7_readText 145 = .ok (.putfield 106, 3) := by decide +kernel
theorem dX7_readText_148 : decode cX7_readText 148 = .ok (.goto (-126), 3) := by decide +kernel
theorem dX7_readText_151 : decode cX7_readText 151 = .ok (.aload_n 0, 1) := by decide +kernel
theorem dX7_readText_152 : decode cX7_readText 152 = .ok (.getfield 106, 3) := by decide +kernel
theorem dX7_readText_155 : decode cX7_readText 155 = .ok (.aload_n 0, 1) := by decide +kernel
theorem dX7_readText_156 : decode cX7_readText 156 = .ok (.getfield 100, 3) := by decide +kernel
theorem dX7_readText_159 : decode cX7_readText 159 = .ok (.if_icmp .ge 10, 3) := by decide +kernel
theorem dX7_readText_162 : decode cX7_readText 162 = .ok (.aload_n 0, 1) := by decide +kernel
theorem dX7_readText_163 : decode cX7_readText 163 = .ok (.getfield 106, 3) := by decide +kernel
theorem dX7_readText_166 : decode cX7_readText 166 = .ok (.goto 4, 3) := by decide +kernel
theorem dX7_readText_169 : decode cX7_readText 169 = .ok (.iconst (-1), 1) := by decide +kernel
theorem dX7_readText_170 : decode cX7_readText 170 = .ok (.ireturn, 1) := by decide +kernel
set_option maxRecDepth 20000 in
theorem ggX7_errorPosition_X7_readText : GoodIn wsX7_errorPosition wsX7_readText := goodIn_r _ [6, 7, 8, 9, 10, 11, 5, 12, 13, 14, 15, 16, 17, 18, 19, 20, 21, 22, 23, 24, 25, 26, 27, 28, 29, 30, 31, 32, 33, 34, 35, 36, 37, 38, 39, 40, 41, 42, 43, 44, 45, 46, 47, 48, 49] (by decide +kernel) (by decide +kernel)
set_option maxRecDepth 20000 in
theorem gX7_errorPosition_X7_readText : GoodIn wsX7_errorPosition (wsV RX7 128 RX7 yX7_readText wsX7_readText) := goodIn_app (goodIn_of _ (by decide +kernel)) ggX7_errorPosition_X7_readText
theorem dX7_errorPosition_0 : decode cX7_errorPosition 0 = .ok (.aload_n 0, 1) := by decide +kernel
theorem dX7_errorPosition_1 : decode cX7_errorPosition 1 = .ok (.iconst 0, 1) := by decide +kernel
theorem dX7_errorPosition_2 : decode cX7_errorPosition 2 = .ok (.putfield 41, 3) := by decide +kernel
theorem dX7_errorPosition_5 : decode cX7_errorPosition 5 = .ok (.aload_n 0, 1) := by decide +kernel
theorem dX7_errorPosition_6 : decode cX7_errorPosition 6 = .ok (.invokevirtual 128, 3) := by decide +kernel
theorem dX7_errorPosition_9 : decode cX7_errorPosition 9 = .ok (.ireturn, 1) := by decide +kernel
theorem dX7_sum_0 : decode cX7_sum 0 = .ok (.iconst 0, 1) := by decide +kernel
theorem dX7_sum_1 : decode cX7_sum 1 = .ok (.istore_n 2, 1) := by decide +kernel
theorem dX7_sum_2 : decode cX7_sum 2 = .ok (.iconst 0, 1) := by decide +kernel
theorem dX7_sum_3 : decode cX7_sum 3 = .ok (.istore_n 3, 1) := by decide +kernel
theorem dX7_sum_4 : decode cX7_sum 4 = .ok (.iload_n 3, 1) := by decide +kernel
theorem dX7_sum_5 : decode cX7_sum 5 = .ok (.bipush 10, 2) := by decide +kernel
theorem dX7_sum_7 : decode cX7_sum 7 = .ok (.if_icmp .ge 17, 3) := by decide +kernel
theorem dX7_sum_10 : decode cX7_sum 10 = .ok (.iload_n 2, 1) := by decide +kernel
theorem dX7_sum_11 : decode cX7_sum 11 = .ok (.aload_n 0, 1) := by decide +kernel
theorem dX7_sum_12 : decode cX7_sum 12 = .ok (.iload_n 1, 1) := by decide +kernel
theorem dX7_sum_13 : decode cX7_sum 13 = .ok (.iload_n 3, 1) := by decide +kernel
theorem dX7_sum_14 : decode cX7_sum 14 = .ok (.iadd, 1) := by decide +kernel
theorem dX7_sum_15 : decode cX7_sum 15 = .ok (.iaload, 1) := by decide +kernel
theorem dX7_sum_16 : decode cX7_sum 16 = .ok (.iadd, 1) := by decide +kernel
theorem dX7_sum_17 : decode cX7_sum 17 = .ok (.istore_n 2, 1) := by decide +kernel
theorem dX7_sum_18 : decode cX7_sum 18 = .ok (.iinc 3 1, 3) := by decide +kernel
theorem dX7_sum_21 : decode cX7_sum 21 = .ok (.goto (-17), 3) := by decide +kernel
theorem dX7_sum_24 : decode cX7_sum 24 = .ok (.iload_n 2, 1) := by decide +kernel
theorem dX7_sum_25 : decode cX7_sum 25 = .ok (.ireturn, 1) := by decide +kernel
set_option maxRecDepth 20000 in
theorem ggX7_about_X7_in : GoodIn wsX7_about wsX7_in := goodIn_r _ [7] (by decide +kernel) (by decide +kernel)
set_option maxRecDepth 20000 in
theorem gX7_about_X7_in : GoodIn wsX7_about (va_wsS RX7 45 yX7_in wsX7_in) := goodIn_app (goodIn_of _ (by decide +kernel)) ggX7_about_X7_in
set_option maxRecDepth 20000 in
theorem ggX7_about_X7_refused : GoodIn wsX7_about wsX7_refused := goodIn_r _ [11, 12, 34, 35, 36, 37, 38, 39, 40, 41, 42, 43, 44, 45, 46, 47, 48, 49, 50, 51, 52] (by decide +kernel) (by decide +kernel)
set_option maxRecDepth 20000 in
theorem gX7_about_X7_refused : GoodIn wsX7_about (wsV RX7 102 RX7 yX7_refused wsX7_refused) := goodIn_app (goodIn_of _ (by decide +kernel)) ggX7_about_X7_refused
set_option maxRecDepth 20000 in
theorem ggX7_about_X7_pointsOf : GoodIn wsX7_about wsX7_pointsOf := goodIn_r _ [15] (by decide +kernel) (by decide +kernel)
set_option maxRecDepth 20000 in
theorem gX7_about_X7_pointsOf : GoodIn wsX7_about (va_wsS RX7 133 yX7_pointsOf wsX7_pointsOf) := goodIn_app (goodIn_of _ (by decide +kernel)) ggX7_about_X7_pointsOf
set_option maxRecDepth 20000 in
theorem ggX7_about_X7_signature : GoodIn wsX7_about wsX7_signature := goodIn_r _ [18, 19, 20, 6, 21, 22, 23, 24, 25, 26, 27, 28, 29, 30] (by decide +kernel) (by decide +kernel)
set_option maxRecDepth 20000 in
theorem gX7_about_X7_signature : GoodIn wsX7_about (va_wsS RX7 75 yX7_signature wsX7_signature) := goodIn_app (goodIn_of _ (by decide +kernel)) ggX7_about_X7_signature
set_option maxRecDepth 20000 in
theorem ggX7_about_X7_sum : GoodIn wsX7_about wsX7_sum := goodIn_r _ [33] (by decide +kernel) (by decide +kernel)
set_option maxRecDepth 20000 in
theorem gX7_about_X7_sum : GoodIn wsX7_about (va_wsS RX7 137 yX7_sum wsX7_sum) := goodIn_app (goodIn_of _ (by decide +kernel)) ggX7_about_X7_sum
theorem dX7_about_0 : decode cX7_about 0 = .ok (.aload_n 0, 1) := by decide +kernel
theorem dX7_about_1 : decode cX7_about 1 = .ok (.iload_n 1, 1) := by decide +kernel
theorem dX7_about_2 : decode cX7_about 2 = .ok (.i2l, 1) := by decide +kernel
theorem dX7_about_3 : decode cX7_about 3 = .ok (.lconst 0, 1) := by decide +kernel
theorem dX7_about_4 : decode cX7_about 4 = .ok (.ldc2_w 131, 3) := by decide +kernel
theorem dX7_about_7 : decode cX7_about 7 = .ok (.invokestatic 45, 3) := by decide +kernel
theorem dX7_about_10 : decode cX7_about 10 = .ok (.ifCond .eq 7, 3) := by decide +kernel
theorem dX7_about_13 : decode cX7_about 13 = .ok (.iconst 0, 1) := by decide +kernel
theorem dX7_about_14 : decode cX7_about 14 = .ok (.goto 4, 3) := by decide +kernel
theorem dX7_about_17 : decode cX7_about 17 = .ok (.iconst 1, 1) := by decide +kernel
theorem dX7_about_18 : decode cX7_about 18 = .ok (.invokevirtual 102, 3) := by decide +kernel
theorem dX7_about_21 : decode cX7_about 21 = .ok (.ifCond .eq 5, 3) := by decide +kernel
theorem dX7_about_24 : decode cX7_about 24 = .ok (.iconst 0, 1) := by decide +kernel
theorem dX7_about_25 : decode cX7_about 25 = .ok (.ireturn, 1) := by decide +kernel
theorem dX7_about_26 : decode cX7_about 26 = .ok (.iload_n 1, 1) := by decide +kernel
theorem dX7_about_27 : decode cX7_about 27 = .ok (.tableswitch 133 0 6 #[41, 48, 57, 65, 85, 93, 123], 41) := by decide +kernel
theorem dX7_about_68 : decode cX7_about 68 = .ok (.aload_n 0, 1) := by decide +kernel
theorem dX7_about_69 : decode cX7_about 69 = .ok (.getfield 13, 3) := by decide +kernel
theorem dX7_about_72 : decode cX7_about 72 = .ok (.iconst 0, 1) := by decide +kernel
theorem dX7_about_73 : decode cX7_about 73 = .ok (.iaload, 1) := by decide +kernel
theorem dX7_about_74 : decode cX7_about 74 = .ok (.ireturn, 1) := by decide +kernel
theorem dX7_about_75 : decode cX7_about 75 = .ok (.aload_n 0, 1) := by decide +kernel
theorem dX7_about_76 : decode cX7_about 76 = .ok (.getfield 13, 3) := by decide +kernel
theorem dX7_about_79 : decode cX7_about 79 = .ok (.iconst 0, 1) := by decide +kernel
theorem dX7_about_80 : decode cX7_about 80 = .ok (.invokestatic 133, 3) := by decide +kernel
theorem dX7_about_83 : decode cX7_about 83 = .ok (.ireturn, 1) := by decide +kernel
theorem dX7_about_84 : decode cX7_about 84 = .ok (.aload_n 0, 1) := by decide +kernel
theorem dX7_about_85 : decode cX7_about 85 = .ok (.getfield 13, 3) := by decide +kernel
theorem dX7_about_88 : decode cX7_about 88 = .ok (.bipush 76, 2) := by decide +kernel
theorem dX7_about_90 : decode cX7_about 90 = .ok (.iaload, 1) := by decide +kernel
theorem dX7_about_91 : decode cX7_about 91 = .ok (.ireturn, 1) := by decide +kernel
theorem dX7_about_92 : decode cX7_about 92 = .ok (.aload_n 0, 1) := by decide +kernel
theorem dX7_about_93 : decode cX7_about 93 = .ok (.getfield 13, 3) := by decide +kernel
theorem dX7_about_96 : decode cX7_about 96 = .ok (.iconst 0, 1) := by decide +kernel
theorem dX7_about_97 : decode cX7_about 97 = .ok (.aload_n 0, 1) := by decide +kernel
theorem dX7_about_98 : decode cX7_about 98 = .ok (.getfield 13, 3) := by decide +kernel
theorem dX7_about_101 : decode cX7_about 101 = .ok (.bipush 77, 2) := by decide +kernel
theorem dX7_about_103 : decode cX7_about 103 = .ok (.iaload, 1) := by decide +kernel
theorem dX7_about_104 : decode cX7_about 104 = .ok (.aload_n 0, 1) := by decide +kernel
theorem dX7_about_105 : decode cX7_about 105 = .ok (.getfield 32, 3) := by decide +kernel
theorem dX7_about_108 : decode cX7_about 108 = .ok (.invokestatic 75, 3) := by decide +kernel
theorem dX7_about_111 : decode cX7_about 111 = .ok (.ireturn, 1) := by decide +kernel
theorem dX7_about_112 : decode cX7_about 112 = .ok (.aload_n 0, 1) := by decide +kernel
theorem dX7_about_113 : decode cX7_about 113 = .ok (.getfield 13, 3) := by decide +kernel
theorem dX7_about_116 : decode cX7_about 116 = .ok (.bipush 110, 2) := by decide +kernel
theorem dX7_about_118 : decode cX7_about 118 = .ok (.iaload, 1) := by decide +kernel
theorem dX7_about_119 : decode cX7_about 119 = .ok (.ireturn, 1) := by decide +kernel
theorem dX7_about_120 : decode cX7_about 120 = .ok (.aload_n 0, 1) := by decide +kernel
theorem dX7_about_121 : decode cX7_about 121 = .ok (.getfield 13, 3) := by decide +kernel
theorem dX7_about_124 : decode cX7_about 124 = .ok (.bipush 80, 2) := by decide +kernel
theorem dX7_about_126 : decode cX7_about 126 = .ok (.invokestatic 137, 3) := by decide +kernel
theorem dX7_about_129 : decode cX7_about 129 = .ok (.aload_n 0, 1) := by decide +kernel
theorem dX7_about_130 : decode cX7_about 130 = .ok (.getfield 13, 3) := by decide +kernel
theorem dX7_about_133 : decode cX7_about 133 = .ok (.bipush 90, 2) := by decide +kernel
theorem dX7_about_135 : decode cX7_about 135 = .ok (.invokestatic 137, 3) := by decide +kernel
theorem dX7_about_138 : decode cX7_about 138 = .ok (.iadd, 1) := by decide +kernel
theorem dX7_about_139 : decode cX7_about 139 = .ok (.aload_n 0, 1) := by decide +kernel
theorem dX7_about_140 : decode cX7_about 140 = .ok (.getfield 13, 3) := by decide +kernel
theorem dX7_about_143 : decode cX7_about 143 = .ok (.bipush 100, 2) := by decide +kernel
theorem dX7_about_145 : decode cX7_about 145 = .ok (.invokestatic 137, 3) := by decide +kernel
theorem dX7_about_148 : decode cX7_about 148 = .ok (.iadd, 1) := by decide +kernel
theorem dX7_about_149 : decode cX7_about 149 = .ok (.ireturn, 1) := by decide +kernel
theorem dX7_about_150 : decode cX7_about 150 = .ok (.aload_n 0, 1) := by decide +kernel
theorem dX7_about_151 : decode cX7_about 151 = .ok (.getfield 13, 3) := by decide +kernel
theorem dX7_about_154 : decode cX7_about 154 = .ok (.bipush 80, 2) := by decide +kernel
theorem dX7_about_156 : decode cX7_about 156 = .ok (.invokestatic 137, 3) := by decide +kernel
theorem dX7_about_159 : decode cX7_about 159 = .ok (.ireturn, 1) := by decide +kernel
theorem dX7_about_160 : decode cX7_about 160 = .ok (.aload_n 0, 1) := by decide +kernel
theorem dX7_about_161 : decode cX7_about 161 = .ok (.getfield 13, 3) := by decide +kernel
theorem dX7_about_164 : decode cX7_about 164 = .ok (.bipush 90, 2) := by decide +kernel
theorem dX7_about_166 : decode cX7_about 166 = .ok (.invokestatic 137, 3) := by decide +kernel
theorem dX7_about_169 : decode cX7_about 169 = .ok (.ireturn, 1) := by decide +kernel
set_option maxRecDepth 20000 in
theorem ggX7_sign_X7_refused : GoodIn wsX7_sign wsX7_refused := goodIn_r _ [7, 8, 24, 25, 26, 27, 28, 29, 30, 31, 32, 33, 34, 35, 36, 37, 38, 39, 40, 41, 42] (by decide +kernel) (by decide +kernel)
set_option maxRecDepth 20000 in
theorem gX7_sign_X7_refused : GoodIn wsX7_sign (wsV RX7 102 RX7 yX7_refused wsX7_refused) := goodIn_app (goodIn_of _ (by decide +kernel)) ggX7_sign_X7_refused
set_option maxRecDepth 20000 in
theorem ggX7_sign_X7_signature : GoodIn wsX7_sign wsX7_signature := goodIn_r _ [11, 12, 13, 6, 14, 15, 16, 17, 18, 19, 20, 21, 22, 23] (by decide +kernel) (by decide +kernel)
set_option maxRecDepth 20000 in
theorem gX7_sign_X7_signature : GoodIn wsX7_sign (va_wsS RX7 75 yX7_signature wsX7_signature) := goodIn_app (goodIn_of _ (by decide +kernel)) ggX7_sign_X7_signature
theorem dX7_sign_0 : decode cX7_sign 0 = .ok (.aload_n 0, 1) := by decide +kernel
theorem dX7_sign_1 : decode cX7_sign 1 = .ok (.iload_n 1, 1) := by decide +kernel
theorem dX7_sign_2 : decode cX7_sign 2 = .ok (.ifCond .ge 7, 3) := by decide +kernel
theorem dX7_sign_5 : decode cX7_sign 5 = .ok (.iconst 1, 1) := by decide +kernel
theorem dX7_sign_6 : decode cX7_sign 6 = .ok (.goto 4, 3) := by decide +kernel
theorem dX7_sign_9 : decode cX7_sign 9 = .ok (.iconst 0, 1) := by decide +kernel
theorem dX7_sign_10 : decode cX7_sign 10 = .ok (.invokevirtual 102, 3) := by decide +kernel
theorem dX7_sign_13 : decode cX7_sign 13 = .ok (.ifCond .eq 5, 3) := by decide +kernel
theorem dX7_sign_16 : decode cX7_sign 16 = .ok (.iconst 0, 1) := by decide +kernel
theorem dX7_sign_17 : decode cX7_sign 17 = .ok (.ireturn, 1) := by decide +kernel
theorem dX7_sign_18 : decode cX7_sign 18 = .ok (.aload_n 0, 1) := by decide +kernel
theorem dX7_sign_19 : decode cX7_sign 19 = .ok (.getfield 13, 3) := by decide +kernel
theorem dX7_sign_22 : decode cX7_sign 22 = .ok (.iconst 0, 1) := by decide +kernel
theorem dX7_sign_23 : decode cX7_sign 23 = .ok (.aload_n 0, 1) := by decide +kernel
theorem dX7_sign_24 : decode cX7_sign 24 = .ok (.getfield 13, 3) := by decide +kernel
theorem dX7_sign_27 : decode cX7_sign 27 = .ok (.bipush 77, 2) := by decide +kernel
theorem dX7_sign_29 : decode cX7_sign 29 = .ok (.iaload, 1) := by decide +kernel
theorem dX7_sign_30 : decode cX7_sign 30 = .ok (.aload_n 0, 1) := by decide +kernel
theorem dX7_sign_31 : decode cX7_sign 31 = .ok (.getfield 32, 3) := by decide +kernel
theorem dX7_sign_34 : decode cX7_sign 34 = .ok (.invokestatic 75, 3) := by decide +kernel
theorem dX7_sign_37 : decode cX7_sign 37 = .ok (.istore_n 2, 1) := by decide +kernel
theorem dX7_sign_38 : decode cX7_sign 38 = .ok (.iload_n 1, 1) := by decide +kernel
theorem dX7_sign_39 : decode cX7_sign 39 = .ok (.iload_n 2, 1) := by decide +kernel
theorem dX7_sign_40 : decode cX7_sign 40 = .ok (.if_icmp .ge 12, 3) := by decide +kernel
theorem dX7_sign_43 : decode cX7_sign 43 = .ok (.aload_n 0, 1) := by decide +kernel
theorem dX7_sign_44 : decode cX7_sign 44 = .ok (.getfield 32, 3) := by decide +kernel
theorem dX7_sign_47 : decode cX7_sign 47 = .ok (.iload_n 1, 1) := by decide +kernel
theorem dX7_sign_48 : decode cX7_sign 48 = .ok (.iaload, 1) := by decide +kernel
theorem dX7_sign_49 : decode cX7_sign 49 = .ok (.goto 4, 3) := by decide +kernel
theorem dX7_sign_52 : decode cX7_sign 52 = .ok (.iconst (-1), 1) := by decide +kernel
theorem dX7_sign_53 : decode cX7_sign 53 = .ok (.ireturn, 1) := by decide +kernel
set_option maxRecDepth 20000 in
theorem ggX7_sample_X7_isSample : GoodIn wsX7_sample wsX7_isSample := goodIn_r _ [7, 8, 9, 6, 10] (by decide +kernel) (by decide +kernel)
set_option maxRecDepth 20000 in
theorem gX7_sample_X7_isSample : GoodIn wsX7_sample (va_wsS RX7 140 yX7_isSample wsX7_isSample) := goodIn_app (goodIn_of _ (by decide +kernel)) ggX7_sample_X7_isSample
set_option maxRecDepth 20000 in
theorem ggX7_sample_X7_in : GoodIn wsX7_sample wsX7_in := goodIn_r _ [10] (by decide +kernel) (by decide +kernel)
set_option maxRecDepth 20000 in
theorem gX7_sample_X7_in : GoodIn wsX7_sample (va_wsS RX7 45 yX7_in wsX7_in) := goodIn_app (goodIn_of _ (by decide +kernel)) ggX7_sample_X7_in
set_option maxRecDepth 20000 in
theorem ggX7_sample_X7_refused : GoodIn wsX7_sample wsX7_refused := goodIn_r _ [14, 15, 40, 41, 42, 43, 44, 45, 46, 47, 48, 49, 50, 51, 52, 53, 54, 55, 56, 57, 58] (by decide +kernel) (by decide +kernel)
set_option maxRecDepth 20000 in
theorem gX7_sample_X7_refused : GoodIn wsX7_sample (wsV RX7 102 RX7 yX7_refused wsX7_refused) := goodIn_app (goodIn_of _ (by decide +kernel)) ggX7_sample_X7_refused
set_option maxRecDepth 20000 in
theorem ggX7_sample_X7_nameOf : GoodIn wsX7_sample wsX7_nameOf := goodIn_r _ [18, 19, 20, 6, 21] (by decide +kernel) (by decide +kernel)
set_option maxRecDepth 20000 in
theorem gX7_sample_X7_nameOf : GoodIn wsX7_sample (va_wsS RX7 146 yX7_nameOf wsX7_nameOf) := goodIn_app (goodIn_of _ (by decide +kernel)) ggX7_sample_X7_nameOf
set_option maxRecDepth 20000 in
theorem ggX7_sample_X7_at : GoodIn wsX7_sample wsX7_at := goodIn_r _ [21] (by decide +kernel) (by decide +kernel)
set_option maxRecDepth 20000 in
theorem gX7_sample_X7_at : GoodIn wsX7_sample (va_wsS RX7 79 yX7_at wsX7_at) := goodIn_app (goodIn_of _ (by decide +kernel)) ggX7_sample_X7_at
set_option maxRecDepth 20000 in
theorem ggX7_sample_X7_pointsOf : GoodIn wsX7_sample wsX7_pointsOf := goodIn_r _ [24] (by decide +kernel) (by decide +kernel)
set_option maxRecDepth 20000 in
theorem gX7_sample_X7_pointsOf : GoodIn wsX7_sample (va_wsS RX7 133 yX7_pointsOf wsX7_pointsOf) := goodIn_app (goodIn_of _ (by decide +kernel)) ggX7_sample_X7_pointsOf
set_option maxRecDepth 20000 in
theorem ggX7_sample_X7_signature : GoodIn wsX7_sample wsX7_signature := goodIn_r _ [27, 28, 29, 6, 30, 31, 32, 33, 34, 35, 36, 37, 38, 39] (by decide +kernel) (by decide +kernel)
set_option maxRecDepth 20000 in
theorem gX7_sample_X7_signature : GoodIn wsX7_sample (va_wsS RX7 75 yX7_signature wsX7_signature) := goodIn_app (goodIn_of _ (by decide +kernel)) ggX7_sample_X7_signature
theorem dX7_sample_0 : decode cX7_sample 0 = .ok (.aload_n 0, 1) := by decide +kernel
theorem dX7_sample_1 : decode cX7_sample 1 = .ok (.aload_n 0, 1) := by decide +kernel
theorem dX7_sample_2 : decode cX7_sample 2 = .ok (.getfield 13, 3) := by decide +kernel
theorem dX7_sample_5 : decode cX7_sample 5 = .ok (.iload_n 1, 1) := by decide +kernel
theorem dX7_sample_6 : decode cX7_sample 6 = .ok (.invokestatic 140, 3) := by decide +kernel
theorem dX7_sample_9 : decode cX7_sample 9 = .ok (.ifCond .ne 7, 3) := by decide +kernel
theorem dX7_sample_12 : decode cX7_sample 12 = .ok (.iconst 1, 1) := by decide +kernel
theorem dX7_sample_13 : decode cX7_sample 13 = .ok (.goto 20, 3) := by decide +kernel
theorem dX7_sample_16 : decode cX7_sample 16 = .ok (.iload_n 2, 1) := by decide +kernel
theorem dX7_sample_17 : decode cX7_sample 17 = .ok (.i2l, 1) := by decide +kernel
theorem dX7_sample_18 : decode cX7_sample 18 = .ok (.lconst 0, 1) := by decide +kernel
theorem dX7_sample_19 : decode cX7_sample 19 = .ok (.ldc2_w 144, 3) := by decide +kernel
theorem dX7_sample_22 : decode cX7_sample 22 = .ok (.invokestatic 45, 3) := by decide +kernel
theorem dX7_sample_25 : decode cX7_sample 25 = .ok (.ifCond .eq 7, 3) := by decide +kernel
theorem dX7_sample_28 : decode cX7_sample 28 = .ok (.iconst 0, 1) := by decide +kernel
theorem dX7_sample_29 : decode cX7_sample 29 = .ok (.goto 4, 3) := by decide +kernel
theorem dX7_sample_32 : decode cX7_sample 32 = .ok (.iconst 2, 1) := by decide +kernel
theorem dX7_sample_33 : decode cX7_sample 33 = .ok (.invokevirtual 102, 3) := by decide +kernel
theorem dX7_sample_36 : decode cX7_sample 36 = .ok (.ifCond .eq 5, 3) := by decide +kernel
theorem dX7_sample_39 : decode cX7_sample 39 = .ok (.iconst 0, 1) := by decide +kernel
theorem dX7_sample_40 : decode cX7_sample 40 = .ok (.ireturn, 1) := by decide +kernel
theorem dX7_sample_41 : decode cX7_sample 41 = .ok (.iload_n 2, 1) := by decide +kernel
theorem dX7_sample_42 : decode cX7_sample 42 = .ok (.ifCond .ne 14, 3) := by decide +kernel
theorem dX7_sample_45 : decode cX7_sample 45 = .ok (.aload_n 0, 1) := by decide +kernel
theorem dX7_sample_46 : decode cX7_sample 46 = .ok (.getfield 13, 3) := by decide +kernel
theorem dX7_sample_49 : decode cX7_sample 49 = .ok (.iload_n 1, 1) := by decide +kernel
theorem dX7_sample_50 : decode cX7_sample 50 = .ok (.invokestatic 146, 3) := by decide +kernel
theorem dX7_sample_53 : decode cX7_sample 53 = .ok (.goto 61, 3) := by decide +kernel
theorem dX7_sample_56 : decode cX7_sample 56 = .ok (.iload_n 2, 1) := by decide +kernel
theorem dX7_sample_57 : decode cX7_sample 57 = .ok (.iconst 1, 1) := by decide +kernel
theorem dX7_sample_58 : decode cX7_sample 58 = .ok (.if_icmp .ne 15, 3) := by decide +kernel
theorem dX7_sample_61 : decode cX7_sample 61 = .ok (.aload_n 0, 1) := by decide +kernel
theorem dX7_sample_62 : decode cX7_sample 62 = .ok (.getfield 13, 3) := by decide +kernel
theorem dX7_sample_65 : decode cX7_sample 65 = .ok (.iload_n 1, 1) := by decide +kernel
theorem dX7_sample_66 : decode cX7_sample 66 = .ok (.invokestatic 79, 3) := by decide +kernel
theorem dX7_sample_69 : decode cX7_sample 69 = .ok (.iaload, 1) := by decide +kernel
theorem dX7_sample_70 : decode cX7_sample 70 = .ok (.goto 44, 3) := by decide +kernel
theorem dX7_sample_73 : decode cX7_sample 73 = .ok (.iload_n 2, 1) := by decide +kernel
theorem dX7_sample_74 : decode cX7_sample 74 = .ok (.iconst 2, 1) := by decide +kernel
theorem dX7_sample_75 : decode cX7_sample 75 = .ok (.if_icmp .ne 17, 3) := by decide +kernel
theorem dX7_sample_78 : decode cX7_sample 78 = .ok (.aload_n 0, 1) := by decide +kernel
theorem dX7_sample_79 : decode cX7_sample 79 = .ok (.getfield 13, 3) := by decide +kernel
theorem dX7_sample_82 : decode cX7_sample 82 = .ok (.iload_n 1, 1) := by decide +kernel
theorem dX7_sample_83 : decode cX7_sample 83 = .ok (.invokestatic 79, 3) := by decide +kernel
theorem dX7_sample_86 : decode cX7_sample 86 = .ok (.invokestatic 133, 3) := by decide +kernel
theorem dX7_sample_89 : decode cX7_sample 89 = .ok (.goto 25, 3) := by decide +kernel
theorem dX7_sample_92 : decode cX7_sample 92 = .ok (.aload_n 0, 1) := by decide +kernel
theorem dX7_sample_93 : decode cX7_sample 93 = .ok (.getfield 13, 3) := by decide +kernel
theorem dX7_sample_96 : decode cX7_sample 96 = .ok (.iload_n 1, 1) := by decide +kernel
theorem dX7_sample_97 : decode cX7_sample 97 = .ok (.invokestatic 79, 3) := by decide +kernel
theorem dX7_sample_100 : decode cX7_sample 100 = .ok (.aload_n 0, 1) := by decide +kernel
theorem dX7_sample_101 : decode cX7_sample 101 = .ok (.getfield 13, 3) := by decide +kernel
theorem dX7_sample_104 : decode cX7_sample 104 = .ok (.bipush 77, 2) := by decide +kernel
theorem dX7_sample_106 : decode cX7_sample 106 = .ok (.iaload, 1) := by decide +kernel
theorem dX7_sample_107 : decode cX7_sample 107 = .ok (.aload_n 0, 1) := by decide +kernel
theorem dX7_sample_108 : decode cX7_sample 108 = .ok (.getfield 32, 3) := by decide +kernel
theorem dX7_sample_111 : decode cX7_sample 111 = .ok (.invokestatic 75, 3) := by decide +kernel
theorem dX7_sample_114 : decode cX7_sample 114 = .ok (.ireturn, 1) := by decide +kernel
set_option maxRecDepth 20000 in
theorem ggX7_signOf_X7_isSample : GoodIn wsX7_signOf wsX7_isSample := goodIn_r _ [6, 7, 8, 5, 9] (by decide +kernel) (by decide +kernel)
set_option maxRecDepth 20000 in
theorem gX7_signOf_X7_isSample : GoodIn wsX7_signOf (va_wsS RX7 140 yX7_isSample wsX7_isSample) := goodIn_app (goodIn_of _ (by decide +kernel)) ggX7_signOf_X7_isSample
set_option maxRecDepth 20000 in
theorem ggX7_signOf_X7_refused : GoodIn wsX7_signOf wsX7_refused := goodIn_r _ [13, 14, 33, 34, 35, 36, 37, 38, 39, 40, 41, 42, 43, 44, 45, 46, 47, 48, 49, 50, 51] (by decide +kernel) (by decide +kernel)
set_option maxRecDepth 20000 in
theorem gX7_signOf_X7_refused : GoodIn wsX7_signOf (wsV RX7 102 RX7 yX7_refused wsX7_refused) := goodIn_app (goodIn_of _ (by decide +kernel)) ggX7_signOf_X7_refused
set_option maxRecDepth 20000 in
theorem ggX7_signOf_X7_at : GoodIn wsX7_signOf wsX7_at := goodIn_r _ [17] (by decide +kernel) (by decide +kernel)
set_option maxRecDepth 20000 in
theorem gX7_signOf_X7_at : GoodIn wsX7_signOf (va_wsS RX7 79 yX7_at wsX7_at) := goodIn_app (goodIn_of _ (by decide +kernel)) ggX7_signOf_X7_at
set_option maxRecDepth 20000 in
theorem ggX7_signOf_X7_signature : GoodIn wsX7_signOf wsX7_signature := goodIn_r _ [20, 21, 22, 5, 23, 24, 25, 26, 27, 28, 29, 30, 31, 32] (by decide +kernel) (by decide +kernel)
set_option maxRecDepth 20000 in
theorem gX7_signOf_X7_signature : GoodIn wsX7_signOf (va_wsS RX7 75 yX7_signature wsX7_signature) := goodIn_app (goodIn_of _ (by decide +kernel)) ggX7_signOf_X7_signature
theorem dX7_signOf_0 : decode cX7_signOf 0 = .ok (.aload_n 0, 1) := by decide +kernel
theorem dX7_signOf_1 : decode cX7_signOf 1 = .ok (.aload_n 0, 1) := by decide +kernel
theorem dX7_signOf_2 : decode cX7_signOf 2 = .ok (.getfield 13, 3) := by decide +kernel
theorem dX7_signOf_5 : decode cX7_signOf 5 = .ok (.iload_n 1, 1) := by decide +kernel
theorem dX7_signOf_6 : decode cX7_signOf 6 = .ok (.invokestatic 140, 3) := by decide +kernel
theorem dX7_signOf_9 : decode cX7_signOf 9 = .ok (.ifCond .ne 7, 3) := by decide +kernel
theorem dX7_signOf_12 : decode cX7_signOf 12 = .ok (.iconst 1, 1) := by decide +kernel
theorem dX7_signOf_13 : decode cX7_signOf 13 = .ok (.goto 12, 3) := by decide +kernel
theorem dX7_signOf_16 : decode cX7_signOf 16 = .ok (.iload_n 2, 1) := by decide +kernel
theorem dX7_signOf_17 : decode cX7_signOf 17 = .ok (.ifCond .ge 7, 3) := by decide +kernel
theorem dX7_signOf_20 : decode cX7_signOf 20 = .ok (.iconst 2, 1) := by decide +kernel
theorem dX7_signOf_21 : decode cX7_signOf 21 = .ok (.goto 4, 3) := by decide +kernel
theorem dX7_signOf_24 : decode cX7_signOf 24 = .ok (.iconst 0, 1) := by decide +kernel
theorem dX7_signOf_25 : decode cX7_signOf 25 = .ok (.invokevirtual 102, 3) := by decide +kernel
theorem dX7_signOf_28 : decode cX7_signOf 28 = .ok (.ifCond .eq 5, 3) := by decide +kernel
theorem dX7_signOf_31 : decode cX7_signOf 31 = .ok (.iconst 0, 1) := by decide +kernel
theorem dX7_signOf_32 : decode cX7_signOf 32 = .ok (.ireturn, 1) := by decide +kernel
theorem dX7_signOf_33 : decode cX7_signOf 33 = .ok (.aload_n 0, 1) := by decide +kernel
theorem dX7_signOf_34 : decode cX7_signOf 34 = .ok (.getfield 13, 3) := by decide +kernel
theorem dX7_signOf_37 : decode cX7_signOf 37 = .ok (.iload_n 1, 1) := by decide +kernel
theorem dX7_signOf_38 : decode cX7_signOf 38 = .ok (.invokestatic 79, 3) := by decide +kernel
theorem dX7_signOf_41 : decode cX7_signOf 41 = .ok (.aload_n 0, 1) := by decide +kernel
theorem dX7_signOf_42 : decode cX7_signOf 42 = .ok (.getfield 13, 3) := by decide +kernel
theorem dX7_signOf_45 : decode cX7_signOf 45 = .ok (.bipush 77, 2) := by decide +kernel
theorem dX7_signOf_47 : decode cX7_signOf 47 = .ok (.iaload, 1) := by decide +kernel
theorem dX7_signOf_48 : decode cX7_signOf 48 = .ok (.aload_n 0, 1) := by decide +kernel
theorem dX7_signOf_49 : decode cX7_signOf 49 = .ok (.getfield 32, 3) := by decide +kernel
theorem dX7_signOf_52 : decode cX7_signOf 52 = .ok (.invokestatic 75, 3) := by decide +kernel
theorem dX7_signOf_55 : decode cX7_signOf 55 = .ok (.istore_n 3, 1) := by decide +kernel
theorem dX7_signOf_56 : decode cX7_signOf 56 = .ok (.iload_n 2, 1) := by decide +kernel
theorem dX7_signOf_57 : decode cX7_signOf 57 = .ok (.iload_n 3, 1) := by decide +kernel
theorem dX7_signOf_58 : decode cX7_signOf 58 = .ok (.if_icmp .ge 12, 3) := by decide +kernel
theorem dX7_signOf_61 : decode cX7_signOf 61 = .ok (.aload_n 0, 1) := by decide +kernel
theorem dX7_signOf_62 : decode cX7_signOf 62 = .ok (.getfield 32, 3) := by decide +kernel
theorem dX7_signOf_65 : decode cX7_signOf 65 = .ok (.iload_n 2, 1) := by decide +kernel
theorem dX7_signOf_66 : decode cX7_signOf 66 = .ok (.iaload, 1) := by decide +kernel
theorem dX7_signOf_67 : decode cX7_signOf 67 = .ok (.goto 4, 3) := by decide +kernel
theorem dX7_signOf_70 : decode cX7_signOf 70 = .ok (.iconst (-1), 1) := by decide +kernel
theorem dX7_signOf_71 : decode cX7_signOf 71 = .ok (.ireturn, 1) := by decide +kernel
set_option maxRecDepth 20000 in
theorem ggX7_isName_X7_in : GoodIn wsX7_isName wsX7_in := goodIn_r _ [5] (by decide +kernel) (by decide +kernel)
set_option maxRecDepth 20000 in
theorem gX7_isName_X7_in : GoodIn wsX7_isName (va_wsS RX7 45 yX7_in wsX7_in) := goodIn_app (goodIn_of _ (by decide +kernel)) ggX7_isName_X7_in
theorem dX7_isName_0 : decode cX7_isName 0 = .ok (.iload_n 0, 1) := by decide +kernel
theorem dX7_isName_1 : decode cX7_isName 1 = .ok (.i2l, 1) := by decide +kernel
theorem dX7_isName_2 : decode cX7_isName 2 = .ok (.lconst 0, 1) := by decide +kernel
theorem dX7_isName_3 : decode cX7_isName 3 = .ok (.ldc2_w 149, 3) := by decide +kernel
theorem dX7_isName_6 : decode cX7_isName 6 = .ok (.invokestatic 45, 3) := by decide +kernel
theorem dX7_isName_9 : decode cX7_isName 9 = .ok (.ireturn, 1) := by decide +kernel
set_option maxRecDepth 20000 in
theorem ggX7_practised_X7_isName : GoodIn wsX7_practised wsX7_isName := goodIn_r _ [6, 7, 8, 9, 5, 10] (by decide +kernel) (by decide +kernel)
set_option maxRecDepth 20000 in
theorem gX7_practised_X7_isName : GoodIn wsX7_practised (va_wsS RX7 151 yX7_isName wsX7_isName) := goodIn_app (goodIn_of _ (by decide +kernel)) ggX7_practised_X7_isName
set_option maxRecDepth 20000 in
theorem ggX7_practised_X7_in : GoodIn wsX7_practised wsX7_in := goodIn_r _ [10] (by decide +kernel) (by decide +kernel)
set_option maxRecDepth 20000 in
theorem gX7_practised_X7_in : GoodIn wsX7_practised (va_wsS RX7 45 yX7_in wsX7_in) := goodIn_app (goodIn_of _ (by decide +kernel)) ggX7_practised_X7_in
set_option maxRecDepth 20000 in
theorem ggX7_practised_X7_refused : GoodIn wsX7_practised wsX7_refused := goodIn_r _ [14, 15, 16, 17, 18, 19, 20, 21, 22, 23, 24, 25, 26, 27, 28, 29, 30, 31, 32, 33, 34] (by decide +kernel) (by decide +kernel)
set_option maxRecDepth 20000 in
theorem gX7_practised_X7_refused : GoodIn wsX7_practised (wsV RX7 102 RX7 yX7_refused wsX7_refused) := goodIn_app (goodIn_of _ (by decide +kernel)) ggX7_practised_X7_refused
theorem dX7_practised_0 : decode cX7_practised 0 = .ok (.aload_n 0, 1) := by decide +kernel
theorem dX7_practised_1 : decode cX7_practised 1 = .ok (.iload_n 1, 1) := by decide +kernel
theorem dX7_practised_2 : decode cX7_practised 2 = .ok (.invokestatic 151, 3) := by decide +kernel
theorem dX7_practised_5 : decode cX7_practised 5 = .ok (.ifCond .eq 19, 3) := by decide +kernel
theorem dX7_practised_8 : decode cX7_practised 8 = .ok (.iload_n 2, 1) := by decide +kernel
theorem dX7_practised_9 : decode cX7_practised 9 = .ok (.i2l, 1) := by decide +kernel
theorem dX7_practised_10 : decode cX7_practised 10 = .ok (.lconst 0, 1) := by decide +kernel
theorem dX7_practised_11 : decode cX7_practised 11 = .ok (.ldc2_w 154, 3) := by decide +kernel
theorem dX7_practised_14 : decode cX7_practised 14 = .ok (.invokestatic 45, 3) := by decide +kernel
theorem dX7_practised_17 : decode cX7_practised 17 = .ok (.ifCond .eq 7, 3) := by decide +kernel
theorem dX7_practised_20 : decode cX7_practised 20 = .ok (.iconst 0, 1) := by decide +kernel
theorem dX7_practised_21 : decode cX7_practised 21 = .ok (.goto 4, 3) := by decide +kernel
theorem dX7_practised_24 : decode cX7_practised 24 = .ok (.iconst 1, 1) := by decide +kernel
theorem dX7_practised_25 : decode cX7_practised 25 = .ok (.invokevirtual 102, 3) := by decide +kernel
theorem dX7_practised_28 : decode cX7_practised 28 = .ok (.ifCond .eq 5, 3) := by decide +kernel
theorem dX7_practised_31 : decode cX7_practised 31 = .ok (.iconst 0, 1) := by decide +kernel
theorem dX7_practised_32 : decode cX7_practised 32 = .ok (.ireturn, 1) := by decide +kernel
theorem dX7_practised_33 : decode cX7_practised 33 = .ok (.aload_n 0, 1) := by decide +kernel
theorem dX7_practised_34 : decode cX7_practised 34 = .ok (.getfield 13, 3) := by decide +kernel
theorem dX7_practised_37 : decode cX7_practised 37 = .ok (.bipush 80, 2) := by decide +kernel
theorem dX7_practised_39 : decode cX7_practised 39 = .ok (.bipush 10, 2) := by decide +kernel
theorem dX7_practised_41 : decode cX7_practised 41 = .ok (.iload_n 2, 1) := by decide +kernel
theorem dX7_practised_42 : decode cX7_practised 42 = .ok (.imul, 1) := by decide +kernel
theorem dX7_practised_43 : decode cX7_practised 43 = .ok (.iadd, 1) := by decide +kernel
theorem dX7_practised_44 : decode cX7_practised 44 = .ok (.iload_n 1, 1) := by decide +kernel
theorem dX7_practised_45 : decode cX7_practised 45 = .ok (.iadd, 1) := by decide +kernel
theorem dX7_practised_46 : decode cX7_practised 46 = .ok (.iaload, 1) := by decide +kernel
theorem dX7_practised_47 : decode cX7_practised 47 = .ok (.ireturn, 1) := by decide +kernel
set_option maxRecDepth 20000 in
theorem ggX7_setting_X7_in : GoodIn wsX7_setting wsX7_in := goodIn_r _ [6] (by decide +kernel) (by decide +kernel)
set_option maxRecDepth 20000 in
theorem gX7_setting_X7_in : GoodIn wsX7_setting (va_wsS RX7 45 yX7_in wsX7_in) := goodIn_app (goodIn_of _ (by decide +kernel)) ggX7_setting_X7_in
set_option maxRecDepth 20000 in
theorem ggX7_setting_X7_refused : GoodIn wsX7_setting wsX7_refused := goodIn_r _ [10, 11, 12, 13, 14, 15, 16, 17, 18, 19, 20, 21, 22, 23, 24, 25, 26, 27, 28, 29, 30] (by decide +kernel) (by decide +kernel)
set_option maxRecDepth 20000 in
theorem gX7_setting_X7_refused : GoodIn wsX7_setting (wsV RX7 102 RX7 yX7_refused wsX7_refused) := goodIn_app (goodIn_of _ (by decide +kernel)) ggX7_setting_X7_refused
theorem dX7_setting_0 : decode cX7_setting 0 = .ok (.aload_n 0, 1) := by decide +kernel
theorem dX7_setting_1 : decode cX7_setting 1 = .ok (.iload_n 1, 1) := by decide +kernel
theorem dX7_setting_2 : decode cX7_setting 2 = .ok (.i2l, 1) := by decide +kernel
theorem dX7_setting_3 : decode cX7_setting 3 = .ok (.lconst 0, 1) := by decide +kernel
theorem dX7_setting_4 : decode cX7_setting 4 = .ok (.ldc2_w 154, 3) := by decide +kernel
theorem dX7_setting_7 : decode cX7_setting 7 = .ok (.invokestatic 45, 3) := by decide +kernel
theorem dX7_setting_10 : decode cX7_setting 10 = .ok (.ifCond .eq 7, 3) := by decide +kernel
theorem dX7_setting_13 : decode cX7_setting 13 = .ok (.iconst 0, 1) := by decide +kernel
theorem dX7_setting_14 : decode cX7_setting 14 = .ok (.goto 4, 3) := by decide +kernel
theorem dX7_setting_17 : decode cX7_setting 17 = .ok (.iconst 1, 1) := by decide +kernel
theorem dX7_setting_18 : decode cX7_setting 18 = .ok (.invokevirtual 102, 3) := by decide +kernel
theorem dX7_setting_21 : decode cX7_setting 21 = .ok (.ifCond .eq 5, 3) := by decide +kernel
theorem dX7_setting_24 : decode cX7_setting 24 = .ok (.iconst 0, 1) := by decide +kernel
theorem dX7_setting_25 : decode cX7_setting 25 = .ok (.ireturn, 1) := by decide +kernel
theorem dX7_setting_26 : decode cX7_setting 26 = .ok (.aload_n 0, 1) := by decide +kernel
theorem dX7_setting_27 : decode cX7_setting 27 = .ok (.getfield 13, 3) := by decide +kernel
theorem dX7_setting_30 : decode cX7_setting 30 = .ok (.bipush 77, 2) := by decide +kernel
theorem dX7_setting_32 : decode cX7_setting 32 = .ok (.iload_n 1, 1) := by decide +kernel
theorem dX7_setting_33 : decode cX7_setting 33 = .ok (.iadd, 1) := by decide +kernel
theorem dX7_setting_34 : decode cX7_setting 34 = .ok (.iaload, 1) := by decide +kernel
theorem dX7_setting_35 : decode cX7_setting 35 = .ok (.ireturn, 1) := by decide +kernel
set_option maxRecDepth 20000 in
theorem ggX7_remember_X7_copyState : GoodIn wsX7_remember wsX7_copyState := goodIn_r _ [7] (by decide +kernel) (by decide +kernel)
set_option maxRecDepth 20000 in
theorem gX7_remember_X7_copyState : GoodIn wsX7_remember (va_wsS RX7 159 yX7_copyState wsX7_copyState) := goodIn_app (goodIn_of _ (by decide +kernel)) ggX7_remember_X7_copyState
theorem dX7_remember_0 : decode cX7_remember 0 = .ok (.aload_n 0, 1) := by decide +kernel
theorem dX7_remember_1 : decode cX7_remember 1 = .ok (.getfield 156, 3) := by decide +kernel
theorem dX7_remember_4 : decode cX7_remember 4 = .ok (.bipush 14, 2) := by decide +kernel
theorem dX7_remember_6 : decode cX7_remember 6 = .ok (.if_icmp .ne 44, 3) := by decide +kernel
theorem dX7_remember_9 : decode cX7_remember 9 = .ok (.iconst 0, 1) := by decide +kernel
theorem dX7_remember_10 : decode cX7_remember 10 = .ok (.istore_n 1, 1) := by decide +kernel
theorem dX7_remember_11 : decode cX7_remember 11 = .ok (.iload_n 1, 1) := by decide +kernel
theorem dX7_remember_12 : decode cX7_remember 12 = .ok (.sipush 17459, 3) := by decide +kernel
theorem dX7_remember_15 : decode cX7_remember 15 = .ok (.if_icmp .ge 25, 3) := by decide +kernel
theorem dX7_remember_18 : decode cX7_remember 18 = .ok (.aload_n 0, 1) := by decide +kernel
theorem dX7_remember_19 : decode cX7_remember 19 = .ok (.getfield 19, 3) := by decide +kernel
theorem dX7_remember_22 : decode cX7_remember 22 = .ok (.iload_n 1, 1) := by decide +kernel
theorem dX7_remember_23 : decode cX7_remember 23 = .ok (.aload_n 0, 1) := by decide +kernel
theorem dX7_remember_24 : decode cX7_remember 24 = .ok (.getfield 19, 3) := by decide +kernel
theorem dX7_remember_27 : decode cX7_remember 27 = .ok (.iload_n 1, 1) := by decide +kernel
theorem dX7_remember_28 : decode cX7_remember 28 = .ok (.sipush 1343, 3) := by decide +kernel
theorem dX7_remember_31 : decode cX7_remember 31 = .ok (.iadd, 1) := by decide +kernel
theorem dX7_remember_32 : decode cX7_remember 32 = .ok (.iaload, 1) := by decide +kernel
theorem dX7_remember_33 : decode cX7_remember 33 = .ok (.iastore, 1) := by decide +kernel
theorem dX7_remember_34 : decode cX7_remember 34 = .ok (.iinc 1 1, 3) := by decide +kernel
theorem dX7_remember_37 : decode cX7_remember 37 = .ok (.goto (-26), 3) := by decide +kernel
theorem dX7_remember_40 : decode cX7_remember 40 = .ok (.aload_n 0, 1) := by decide +kernel
theorem dX7_remember_41 : decode cX7_remember 41 = .ok (.dup, 1) := by decide +kernel
theorem dX7_remember_42 : decode cX7_remember 42 = .ok (.getfield 156, 3) := by decide +kernel
theorem dX7_remember_45 : decode cX7_remember 45 = .ok (.iconst 1, 1) := by decide +kernel
theorem dX7_remember_46 : decode cX7_remember 46 = .ok (.isub, 1) := by decide +kernel
theorem dX7_remember_47 : decode cX7_remember 47 = .ok (.putfield 156, 3) := by decide +kernel
theorem dX7_remember_50 : decode cX7_remember 50 = .ok (.aload_n 0, 1) := by decide +kernel
theorem dX7_remember_51 : decode cX7_remember 51 = .ok (.getfield 13, 3) := by decide +kernel
theorem dX7_remember_54 : decode cX7_remember 54 = .ok (.iconst 0, 1) := by decide +kernel
theorem dX7_remember_55 : decode cX7_remember 55 = .ok (.aload_n 0, 1) := by decide +kernel
theorem dX7_remember_56 : decode cX7_remember 56 = .ok (.getfield 19, 3) := by decide +kernel
theorem dX7_remember_59 : decode cX7_remember 59 = .ok (.sipush 1343, 3) := by decide +kernel
theorem dX7_remember_62 : decode cX7_remember 62 = .ok (.aload_n 0, 1) := by decide +kernel
theorem dX7_remember_63 : decode cX7_remember 63 = .ok (.getfield 156, 3) := by decide +kernel
theorem dX7_remember_66 : decode cX7_remember 66 = .ok (.imul, 1) := by decide +kernel
theorem dX7_remember_67 : decode cX7_remember 67 = .ok (.invokestatic 159, 3) := by decide +kernel
theorem dX7_remember_70 : decode cX7_remember 70 = .ok (.aload_n 0, 1) := by decide +kernel
theorem dX7_remember_71 : decode cX7_remember 71 = .ok (.dup, 1) := by decide +kernel
theorem dX7_remember_72 : decode cX7_remember 72 = .ok (.getfield 156, 3) := by decide +kernel
theorem dX7_remember_75 : decode cX7_remember 75 = .ok (.iconst 1, 1) := by decide +kernel
theorem dX7_remember_76 : decode cX7_remember 76 = .ok (.iadd, 1) := by decide +kernel
theorem dX7_remember_77 : decode cX7_remember 77 = .ok (.putfield 156, 3) := by decide +kernel
theorem dX7_remember_80 : decode cX7_remember 80 = .ok (.return_, 1) := by decide +kernel
set_option maxRecDepth 20000 in
theorem ggX7_isPoint_X7_in : GoodIn wsX7_isPoint wsX7_in := goodIn_r _ [5] (by decide +kernel) (by decide +kernel)
set_option maxRecDepth 20000 in
theorem gX7_isPoint_X7_in : GoodIn wsX7_isPoint (va_wsS RX7 45 yX7_in wsX7_in) := goodIn_app (goodIn_of _ (by decide +kernel)) ggX7_isPoint_X7_in
theorem dX7_isPoint_0 : decode cX7_isPoint 0 = .ok (.iload_n 0, 1) := by decide +kernel
theorem dX7_isPoint_1 : decode cX7_isPoint 1 = .ok (.i2l, 1) := by decide +kernel
theorem dX7_isPoint_2 : decode cX7_isPoint 2 = .ok (.lconst 0, 1) := by decide +kernel
theorem dX7_isPoint_3 : decode cX7_isPoint 3 = .ok (.ldc2_w 163, 3) := by decide +kernel
theorem dX7_isPoint_6 : decode cX7_isPoint 6 = .ok (.invokestatic 45, 3) := by decide +kernel
theorem dX7_isPoint_9 : decode cX7_isPoint 9 = .ok (.ifCond .eq 19, 3) := by decide +kernel
theorem dX7_isPoint_12 : decode cX7_isPoint 12 = .ok (.iload_n 1, 1) := by decide +kernel
theorem dX7_isPoint_13 : decode cX7_isPoint 13 = .ok (.i2l, 1) := by decide +kernel
theorem dX7_isPoint_14 : decode cX7_isPoint 14 = .ok (.lconst 0, 1) := by decide +kernel
theorem dX7_isPoint_15 : decode cX7_isPoint 15 = .ok (.ldc2_w 163, 3) := by decide +kernel
theorem dX7_isPoint_18 : decode cX7_isPoint 18 = .ok (.invokestatic 45, 3) := by decide +kernel
theorem dX7_isPoint_21 : decode cX7_isPoint 21 = .ok (.ifCond .eq 7, 3) := by decide +kernel
theorem dX7_isPoint_24 : decode cX7_isPoint 24 = .ok (.iconst 1, 1) := by decide +kernel
theorem dX7_isPoint_25 : decode cX7_isPoint 25 = .ok (.goto 4, 3) := by decide +kernel
theorem dX7_isPoint_28 : decode cX7_isPoint 28 = .ok (.iconst 0, 1) := by decide +kernel
theorem dX7_isPoint_29 : decode cX7_isPoint 29 = .ok (.ireturn, 1) := by decide +kernel
set_option maxRecDepth 20000 in
theorem ggX7_layPoint_X7_signature : GoodIn wsX7_layPoint wsX7_signature := goodIn_r _ [5, 6, 7, 4, 8, 9, 10, 11, 12, 13, 14, 15, 16, 17] (by decide +kernel) (by decide +kernel)
set_option maxRecDepth 20000 in
theorem gX7_layPoint_X7_signature : GoodIn wsX7_layPoint (va_wsS RX7 75 yX7_signature wsX7_signature) := goodIn_app (goodIn_of _ (by decide +kernel)) ggX7_layPoint_X7_signature
theorem dX7_layPoint_0 : decode cX7_layPoint 0 = .ok (.aload_n 1, 1) := by decide +kernel
theorem dX7_layPoint_1 : decode cX7_layPoint 1 = .ok (.bipush 76, 2) := by decide +kernel
theorem dX7_layPoint_3 : decode cX7_layPoint 3 = .ok (.iaload, 1) := by decide +kernel
theorem dX7_layPoint_4 : decode cX7_layPoint 4 = .ok (.ifCond .ne 7, 3) := by decide +kernel
theorem dX7_layPoint_7 : decode cX7_layPoint 7 = .ok (.iconst 1, 1) := by decide +kernel
theorem dX7_layPoint_8 : decode cX7_layPoint 8 = .ok (.goto 4, 3) := by decide +kernel
theorem dX7_layPoint_11 : decode cX7_layPoint 11 = .ok (.iconst 0, 1) := by decide +kernel
theorem dX7_layPoint_12 : decode cX7_layPoint 12 = .ok (.istore 4, 2) := by decide +kernel
theorem dX7_layPoint_14 : decode cX7_layPoint 14 = .ok (.iload 4, 2) := by decide +kernel
theorem dX7_layPoint_16 : decode cX7_layPoint 16 = .ok (.ifCond .eq 13, 3) := by decide +kernel
theorem dX7_layPoint_19 : decode cX7_layPoint 19 = .ok (.aload_n 1, 1) := by decide +kernel
theorem dX7_layPoint_20 : decode cX7_layPoint 20 = .ok (.iconst 0, 1) := by decide +kernel
theorem dX7_layPoint_21 : decode cX7_layPoint 21 = .ok (.iaload, 1) := by decide +kernel
theorem dX7_layPoint_22 : decode cX7_layPoint 22 = .ok (.iconst 3, 1) := by decide +kernel
theorem dX7_layPoint_23 : decode cX7_layPoint 23 = .ok (.if_icmp .ne 22, 3) := by decide +kernel
theorem dX7_layPoint_26 : decode cX7_layPoint 26 = .ok (.goto 17, 3) := by decide +kernel
theorem dX7_layPoint_29 : decode cX7_layPoint 29 = .ok (.aload_n 1, 1) := by decide +kernel
theorem dX7_layPoint_30 : decode cX7_layPoint 30 = .ok (.iconst 1, 1) := by decide +kernel
theorem dX7_layPoint_31 : decode cX7_layPoint 31 = .ok (.aload_n 1, 1) := by decide +kernel
theorem dX7_layPoint_32 : decode cX7_layPoint 32 = .ok (.iconst 0, 1) := by decide +kernel
theorem dX7_layPoint_33 : decode cX7_layPoint 33 = .ok (.iaload, 1) := by decide +kernel
theorem dX7_layPoint_34 : decode cX7_layPoint 34 = .ok (.iadd, 1) := by decide +kernel
theorem dX7_layPoint_35 : decode cX7_layPoint 35 = .ok (.iconst 1, 1) := by decide +kernel
theorem dX7_layPoint_36 : decode cX7_layPoint 36 = .ok (.isub, 1) := by decide +kernel
theorem dX7_layPoint_37 : decode cX7_layPoint 37 = .ok (.iaload, 1) := by decide +kernel
theorem dX7_layPoint_38 : decode cX7_layPoint 38 = .ok (.bipush 12, 2) := by decide +kernel
theorem dX7_layPoint_40 : decode cX7_layPoint 40 = .ok (.if_icmp .ne 5, 3) := by decide +kernel
theorem dX7_layPoint_43 : decode cX7_layPoint 43 = .ok (.iconst 0, 1) := by decide +kernel
theorem dX7_layPoint_44 : decode cX7_layPoint 44 = .ok (.ireturn, 1) := by decide +kernel
theorem dX7_layPoint_45 : decode cX7_layPoint 45 = .ok (.aload_n 1, 1) := by decide +kernel
theorem dX7_layPoint_46 : decode cX7_layPoint 46 = .ok (.iconst 0, 1) := by decide +kernel
theorem dX7_layPoint_47 : decode cX7_layPoint 47 = .ok (.dup2, 1) := by decide +kernel
theorem dX7_layPoint_48 : decode cX7_layPoint 48 = .ok (.iaload, 1) := by decide +kernel
theorem dX7_layPoint_49 : decode cX7_layPoint 49 = .ok (.iload 4, 2) := by decide +kernel
theorem dX7_layPoint_51 : decode cX7_layPoint 51 = .ok (.ifCond .eq 7, 3) := by decide +kernel
theorem dX7_layPoint_54 : decode cX7_layPoint 54 = .ok (.iconst 1, 1) := by decide +kernel
