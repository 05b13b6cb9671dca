theorem dX7_layPoint_55 : decode cX7_layPoint 55 = .ok (.goto 4, 3) := by decide +kernel
theorem dX7_layPoint_58 : decode cX7_layPoint 58 = .ok (.iconst 0, 1) := by decide +kernel
theorem dX7_layPoint_59 : decode cX7_layPoint 59 = .ok (.iadd, 1) := by decide +kernel
theorem dX7_layPoint_60 : decode cX7_layPoint 60 = .ok (.iastore, 1) := by decide +kernel
theorem dX7_layPoint_61 : decode cX7_layPoint 61 = .ok (.aload_n 1, 1) := by decide +kernel
theorem dX7_layPoint_62 : decode cX7_layPoint 62 = .ok (.iconst 0, 1) := by decide +kernel
theorem dX7_layPoint_63 : decode cX7_layPoint 63 = .ok (.iaload, 1) := by decide +kernel
theorem dX7_layPoint_64 : decode cX7_layPoint 64 = .ok (.iconst 1, 1) := by decide +kernel
theorem dX7_layPoint_65 : decode cX7_layPoint 65 = .ok (.isub, 1) := by decide +kernel
theorem dX7_layPoint_66 : decode cX7_layPoint 66 = .ok (.istore 5, 2) := by decide +kernel
theorem dX7_layPoint_68 : decode cX7_layPoint 68 = .ok (.iconst 4, 1) := by decide +kernel
theorem dX7_layPoint_69 : decode cX7_layPoint 69 = .ok (.bipush 24, 2) := by decide +kernel
theorem dX7_layPoint_71 : decode cX7_layPoint 71 = .ok (.iload 5, 2) := by decide +kernel
theorem dX7_layPoint_73 : decode cX7_layPoint 73 = .ok (.imul, 1) := by decide +kernel
theorem dX7_layPoint_74 : decode cX7_layPoint 74 = .ok (.iadd, 1) := by decide +kernel
theorem dX7_layPoint_75 : decode cX7_layPoint 75 = .ok (.iconst 2, 1) := by decide +kernel
theorem dX7_layPoint_76 : decode cX7_layPoint 76 = .ok (.aload_n 1, 1) := by decide +kernel
theorem dX7_layPoint_77 : decode cX7_layPoint 77 = .ok (.iconst 1, 1) := by decide +kernel
theorem dX7_layPoint_78 : decode cX7_layPoint 78 = .ok (.iload 5, 2) := by decide +kernel
theorem dX7_layPoint_80 : decode cX7_layPoint 80 = .ok (.iadd, 1) := by decide +kernel
theorem dX7_layPoint_81 : decode cX7_layPoint 81 = .ok (.iaload, 1) := by decide +kernel
theorem dX7_layPoint_82 : decode cX7_layPoint 82 = .ok (.imul, 1) := by decide +kernel
theorem dX7_layPoint_83 : decode cX7_layPoint 83 = .ok (.iadd, 1) := by decide +kernel
theorem dX7_layPoint_84 : decode cX7_layPoint 84 = .ok (.istore 6, 2) := by decide +kernel
theorem dX7_layPoint_86 : decode cX7_layPoint 86 = .ok (.aload_n 1, 1) := by decide +kernel
theorem dX7_layPoint_87 : decode cX7_layPoint 87 = .ok (.iload 6, 2) := by decide +kernel
theorem dX7_layPoint_89 : decode cX7_layPoint 89 = .ok (.iload_n 2, 1) := by decide +kernel
theorem dX7_layPoint_90 : decode cX7_layPoint 90 = .ok (.iastore, 1) := by decide +kernel
theorem dX7_layPoint_91 : decode cX7_layPoint 91 = .ok (.aload_n 1, 1) := by decide +kernel
theorem dX7_layPoint_92 : decode cX7_layPoint 92 = .ok (.iload 6, 2) := by decide +kernel
theorem dX7_layPoint_94 : decode cX7_layPoint 94 = .ok (.iconst 1, 1) := by decide +kernel
theorem dX7_layPoint_95 : decode cX7_layPoint 95 = .ok (.iadd, 1) := by decide +kernel
theorem dX7_layPoint_96 : decode cX7_layPoint 96 = .ok (.iload_n 3, 1) := by decide +kernel
theorem dX7_layPoint_97 : decode cX7_layPoint 97 = .ok (.iastore, 1) := by decide +kernel
theorem dX7_layPoint_98 : decode cX7_layPoint 98 = .ok (.aload_n 1, 1) := by decide +kernel
theorem dX7_layPoint_99 : decode cX7_layPoint 99 = .ok (.iconst 1, 1) := by decide +kernel
theorem dX7_layPoint_100 : decode cX7_layPoint 100 = .ok (.iload 5, 2) := by decide +kernel
theorem dX7_layPoint_102 : decode cX7_layPoint 102 = .ok (.iadd, 1) := by decide +kernel
theorem dX7_layPoint_103 : decode cX7_layPoint 103 = .ok (.dup2, 1) := by decide +kernel
theorem dX7_layPoint_104 : decode cX7_layPoint 104 = .ok (.iaload, 1) := by decide +kernel
theorem dX7_layPoint_105 : decode cX7_layPoint 105 = .ok (.iconst 1, 1) := by decide +kernel
theorem dX7_layPoint_106 : decode cX7_layPoint 106 = .ok (.iadd, 1) := by decide +kernel
theorem dX7_layPoint_107 : decode cX7_layPoint 107 = .ok (.iastore, 1) := by decide +kernel
theorem dX7_layPoint_108 : decode cX7_layPoint 108 = .ok (.aload_n 1, 1) := by decide +kernel
theorem dX7_layPoint_109 : decode cX7_layPoint 109 = .ok (.bipush 76, 2) := by decide +kernel
theorem dX7_layPoint_111 : decode cX7_layPoint 111 = .ok (.iconst 1, 1) := by decide +kernel
theorem dX7_layPoint_112 : decode cX7_layPoint 112 = .ok (.iastore, 1) := by decide +kernel
theorem dX7_layPoint_113 : decode cX7_layPoint 113 = .ok (.aload_n 1, 1) := by decide +kernel
theorem dX7_layPoint_114 : decode cX7_layPoint 114 = .ok (.iconst 0, 1) := by decide +kernel
theorem dX7_layPoint_115 : decode cX7_layPoint 115 = .ok (.aload_n 1, 1) := by decide +kernel
theorem dX7_layPoint_116 : decode cX7_layPoint 116 = .ok (.bipush 77, 2) := by decide +kernel
theorem dX7_layPoint_118 : decode cX7_layPoint 118 = .ok (.iaload, 1) := by decide +kernel
theorem dX7_layPoint_119 : decode cX7_layPoint 119 = .ok (.aload_n 0, 1) := by decide +kernel
theorem dX7_layPoint_120 : decode cX7_layPoint 120 = .ok (.getfield 32, 3) := by decide +kernel
theorem dX7_layPoint_123 : decode cX7_layPoint 123 = .ok (.invokestatic 75, 3) := by decide +kernel
theorem dX7_layPoint_126 : decode cX7_layPoint 126 = .ok (.bipush 40, 2) := by decide +kernel
theorem dX7_layPoint_128 : decode cX7_layPoint 128 = .ok (.if_icmp .gt 5, 3) := by decide +kernel
theorem dX7_layPoint_131 : decode cX7_layPoint 131 = .ok (.iconst 1, 1) := by decide +kernel
theorem dX7_layPoint_132 : decode cX7_layPoint 132 = .ok (.ireturn, 1) := by decide +kernel
theorem dX7_layPoint_133 : decode cX7_layPoint 133 = .ok (.aload_n 1, 1) := by decide +kernel
theorem dX7_layPoint_134 : decode cX7_layPoint 134 = .ok (.iconst 1, 1) := by decide +kernel
theorem dX7_layPoint_135 : decode cX7_layPoint 135 = .ok (.iload 5, 2) := by decide +kernel
theorem dX7_layPoint_137 : decode cX7_layPoint 137 = .ok (.iadd, 1) := by decide +kernel
theorem dX7_layPoint_138 : decode cX7_layPoint 138 = .ok (.dup2, 1) := by decide +kernel
theorem dX7_layPoint_139 : decode cX7_layPoint 139 = .ok (.iaload, 1) := by decide +kernel
theorem dX7_layPoint_140 : decode cX7_layPoint 140 = .ok (.iconst 1, 1) := by decide +kernel
theorem dX7_layPoint_141 : decode cX7_layPoint 141 = .ok (.isub, 1) := by decide +kernel
theorem dX7_layPoint_142 : decode cX7_layPoint 142 = .ok (.iastore, 1) := by decide +kernel
theorem dX7_layPoint_143 : decode cX7_layPoint 143 = .ok (.aload_n 1, 1) := by decide +kernel
theorem dX7_layPoint_144 : decode cX7_layPoint 144 = .ok (.iload 6, 2) := by decide +kernel
theorem dX7_layPoint_146 : decode cX7_layPoint 146 = .ok (.iconst 0, 1) := by decide +kernel
theorem dX7_layPoint_147 : decode cX7_layPoint 147 = .ok (.iastore, 1) := by decide +kernel
theorem dX7_layPoint_148 : decode cX7_layPoint 148 = .ok (.aload_n 1, 1) := by decide +kernel
theorem dX7_layPoint_149 : decode cX7_layPoint 149 = .ok (.iload 6, 2) := by decide +kernel
theorem dX7_layPoint_151 : decode cX7_layPoint 151 = .ok (.iconst 1, 1) := by decide +kernel
theorem dX7_layPoint_152 : decode cX7_layPoint 152 = .ok (.iadd, 1) := by decide +kernel
theorem dX7_layPoint_153 : decode cX7_layPoint 153 = .ok (.iconst 0, 1) := by decide +kernel
theorem dX7_layPoint_154 : decode cX7_layPoint 154 = .ok (.iastore, 1) := by decide +kernel
theorem dX7_layPoint_155 : decode cX7_layPoint 155 = .ok (.aload_n 1, 1) := by decide +kernel
theorem dX7_layPoint_156 : decode cX7_layPoint 156 = .ok (.iconst 0, 1) := by decide +kernel
theorem dX7_layPoint_157 : decode cX7_layPoint 157 = .ok (.dup2, 1) := by decide +kernel
theorem dX7_layPoint_158 : decode cX7_layPoint 158 = .ok (.iaload, 1) := by decide +kernel
theorem dX7_layPoint_159 : decode cX7_layPoint 159 = .ok (.iload 4, 2) := by decide +kernel
theorem dX7_layPoint_161 : decode cX7_layPoint 161 = .ok (.ifCond .eq 7, 3) := by decide +kernel
theorem dX7_layPoint_164 : decode cX7_layPoint 164 = .ok (.iconst 1, 1) := by decide +kernel
theorem dX7_layPoint_165 : decode cX7_layPoint 165 = .ok (.goto 4, 3) := by decide +kernel
theorem dX7_layPoint_168 : decode cX7_layPoint 168 = .ok (.iconst 0, 1) := by decide +kernel
theorem dX7_layPoint_169 : decode cX7_layPoint 169 = .ok (.isub, 1) := by decide +kernel
theorem dX7_layPoint_170 : decode cX7_layPoint 170 = .ok (.iastore, 1) := by decide +kernel
theorem dX7_layPoint_171 : decode cX7_layPoint 171 = .ok (.aload_n 1, 1) := by decide +kernel
theorem dX7_layPoint_172 : decode cX7_layPoint 172 = .ok (.bipush 76, 2) := by decide +kernel
theorem dX7_layPoint_174 : decode cX7_layPoint 174 = .ok (.iload 4, 2) := by decide +kernel
theorem dX7_layPoint_176 : decode cX7_layPoint 176 = .ok (.ifCond .eq 7, 3) := by decide +kernel
theorem dX7_layPoint_179 : decode cX7_layPoint 179 = .ok (.iconst 0, 1) := by decide +kernel
theorem dX7_layPoint_180 : decode cX7_layPoint 180 = .ok (.goto 4, 3) := by decide +kernel
theorem dX7_layPoint_183 : decode cX7_layPoint 183 = .ok (.iconst 1, 1) := by decide +kernel
theorem dX7_layPoint_184 : decode cX7_layPoint 184 = .ok (.iastore, 1) := by decide +kernel
theorem dX7_layPoint_185 : decode cX7_layPoint 185 = .ok (.iconst 0, 1) := by decide +kernel
theorem dX7_layPoint_186 : decode cX7_layPoint 186 = .ok (.ireturn, 1) := by decide +kernel
set_option maxRecDepth 20000 in
theorem ggX7_point_X7_isPoint : GoodIn wsX7_point wsX7_isPoint := goodIn_r _ [7, 8, 9, 10, 6, 11] (by decide +kernel) (by decide +kernel)
set_option maxRecDepth 20000 in
theorem gX7_point_X7_isPoint : GoodIn wsX7_point (va_wsS RX7 165 yX7_isPoint wsX7_isPoint) := goodIn_app (goodIn_of _ (by decide +kernel)) ggX7_point_X7_isPoint
set_option maxRecDepth 20000 in
theorem ggX7_point_X7_refused : GoodIn wsX7_point wsX7_refused := goodIn_r _ [15, 16, 45, 46, 47, 48, 49, 50, 51, 52, 53, 54, 55, 56, 57, 58, 59, 60, 61, 62, 63] (by decide +kernel) (by decide +kernel)
set_option maxRecDepth 20000 in
theorem gX7_point_X7_refused : GoodIn wsX7_point (wsV RX7 102 RX7 yX7_refused wsX7_refused) := goodIn_app (goodIn_of _ (by decide +kernel)) ggX7_point_X7_refused
set_option maxRecDepth 20000 in
theorem ggX7_point_X7_copyState : GoodIn wsX7_point wsX7_copyState := goodIn_r _ [19] (by decide +kernel) (by decide +kernel)
set_option maxRecDepth 20000 in
theorem gX7_point_X7_copyState : GoodIn wsX7_point (va_wsS RX7 159 yX7_copyState wsX7_copyState) := goodIn_app (goodIn_of _ (by decide +kernel)) ggX7_point_X7_copyState
set_option maxRecDepth 20000 in
theorem ggX7_point_X7_layPoint : GoodIn wsX7_point wsX7_layPoint := goodIn_r _ [23, 3, 24, 25, 6, 26, 27, 28, 29, 30, 31, 32, 33, 34, 35, 36, 37, 38, 45, 46, 47, 48, 49, 50, 51, 52, 53, 54, 55, 56, 57, 58, 59, 60, 61, 62, 63] (by decide +kernel) (by decide +kernel)
set_option maxRecDepth 20000 in
theorem gX7_point_X7_layPoint : GoodIn wsX7_point (wsV RX7 169 RX7 yX7_layPoint wsX7_layPoint) := goodIn_app (goodIn_of _ (by decide +kernel)) ggX7_point_X7_layPoint
set_option maxRecDepth 20000 in
theorem ggX7_point_X7_remember : GoodIn wsX7_point wsX7_remember := goodIn_r _ [42, 43, 44, 1, 17, 18, 6, 19, 45, 46, 47, 48, 49, 50, 51, 52, 53, 54, 55, 56, 57, 58, 59, 60, 61, 62, 63] (by decide +kernel) (by decide +kernel)
set_option maxRecDepth 20000 in
theorem gX7_point_X7_remember : GoodIn wsX7_point (wsV RX7 173 RX7 yX7_remember wsX7_remember) := goodIn_app (goodIn_of _ (by decide +kernel)) ggX7_point_X7_remember
set_option maxRecDepth 20000 in
theorem ggX7_point_X7_signature : GoodIn wsX7_point wsX7_signature := goodIn_r _ [26, 27, 28, 6, 29, 30, 31, 32, 33, 34, 35, 36, 37, 38] (by decide +kernel) (by decide +kernel)
set_option maxRecDepth 20000 in
theorem gX7_point_X7_signature : GoodIn wsX7_point (va_wsS RX7 75 yX7_signature wsX7_signature) := goodIn_app (goodIn_of _ (by decide +kernel)) ggX7_point_X7_signature
theorem dX7_point_0 : decode cX7_point 0 = .ok (.aload_n 0, 1) := by decide +kernel
theorem dX7_point_1 : decode cX7_point 1 = .ok (.iload_n 1, 1) := by decide +kernel
theorem dX7_point_2 : decode cX7_point 2 = .ok (.iload_n 2, 1) := by decide +kernel
theorem dX7_point_3 : decode cX7_point 3 = .ok (.invokestatic 165, 3) := by decide +kernel
theorem dX7_point_6 : decode cX7_point 6 = .ok (.ifCond .eq 7, 3) := by decide +kernel
theorem dX7_point_9 : decode cX7_point 9 = .ok (.iconst 0, 1) := by decide +kernel
theorem dX7_point_10 : decode cX7_point 10 = .ok (.goto 4, 3) := by decide +kernel
theorem dX7_point_13 : decode cX7_point 13 = .ok (.iconst 1, 1) := by decide +kernel
theorem dX7_point_14 : decode cX7_point 14 = .ok (.invokevirtual 102, 3) := by decide +kernel
theorem dX7_point_17 : decode cX7_point 17 = .ok (.ifCond .eq 5, 3) := by decide +kernel
theorem dX7_point_20 : decode cX7_point 20 = .ok (.iconst 0, 1) := by decide +kernel
theorem dX7_point_21 : decode cX7_point 21 = .ok (.ireturn, 1) := by decide +kernel
theorem dX7_point_22 : decode cX7_point 22 = .ok (.aload_n 0, 1) := by decide +kernel
theorem dX7_point_23 : decode cX7_point 23 = .ok (.getfield 13, 3) := by decide +kernel
theorem dX7_point_26 : decode cX7_point 26 = .ok (.iconst 0, 1) := by decide +kernel
theorem dX7_point_27 : decode cX7_point 27 = .ok (.aload_n 0, 1) := by decide +kernel
theorem dX7_point_28 : decode cX7_point 28 = .ok (.getfield 16, 3) := by decide +kernel
theorem dX7_point_31 : decode cX7_point 31 = .ok (.iconst 0, 1) := by decide +kernel
theorem dX7_point_32 : decode cX7_point 32 = .ok (.invokestatic 159, 3) := by decide +kernel
theorem dX7_point_35 : decode cX7_point 35 = .ok (.aload_n 0, 1) := by decide +kernel
theorem dX7_point_36 : decode cX7_point 36 = .ok (.aload_n 0, 1) := by decide +kernel
theorem dX7_point_37 : decode cX7_point 37 = .ok (.aload_n 0, 1) := by decide +kernel
theorem dX7_point_38 : decode cX7_point 38 = .ok (.getfield 16, 3) := by decide +kernel
theorem dX7_point_41 : decode cX7_point 41 = .ok (.iload_n 1, 1) := by decide +kernel
theorem dX7_point_42 : decode cX7_point 42 = .ok (.iload_n 2, 1) := by decide +kernel
theorem dX7_point_43 : decode cX7_point 43 = .ok (.invokevirtual 169, 3) := by decide +kernel
theorem dX7_point_46 : decode cX7_point 46 = .ok (.ifCond .eq 7, 3) := by decide +kernel
theorem dX7_point_49 : decode cX7_point 49 = .ok (.iconst 0, 1) := by decide +kernel
theorem dX7_point_50 : decode cX7_point 50 = .ok (.goto 4, 3) := by decide +kernel
theorem dX7_point_53 : decode cX7_point 53 = .ok (.iconst 2, 1) := by decide +kernel
theorem dX7_point_54 : decode cX7_point 54 = .ok (.invokevirtual 102, 3) := by decide +kernel
theorem dX7_point_57 : decode cX7_point 57 = .ok (.ifCond .eq 5, 3) := by decide +kernel
theorem dX7_point_60 : decode cX7_point 60 = .ok (.iconst 0, 1) := by decide +kernel
theorem dX7_point_61 : decode cX7_point 61 = .ok (.ireturn, 1) := by decide +kernel
theorem dX7_point_62 : decode cX7_point 62 = .ok (.aload_n 0, 1) := by decide +kernel
theorem dX7_point_63 : decode cX7_point 63 = .ok (.invokevirtual 173, 3) := by decide +kernel
theorem dX7_point_66 : decode cX7_point 66 = .ok (.aload_n 0, 1) := by decide +kernel
theorem dX7_point_67 : decode cX7_point 67 = .ok (.getfield 16, 3) := by decide +kernel
theorem dX7_point_70 : decode cX7_point 70 = .ok (.iconst 0, 1) := by decide +kernel
theorem dX7_point_71 : decode cX7_point 71 = .ok (.aload_n 0, 1) := by decide +kernel
theorem dX7_point_72 : decode cX7_point 72 = .ok (.getfield 13, 3) := by decide +kernel
theorem dX7_point_75 : decode cX7_point 75 = .ok (.iconst 0, 1) := by decide +kernel
theorem dX7_point_76 : decode cX7_point 76 = .ok (.invokestatic 159, 3) := by decide +kernel
theorem dX7_point_79 : decode cX7_point 79 = .ok (.aload_n 0, 1) := by decide +kernel
theorem dX7_point_80 : decode cX7_point 80 = .ok (.getfield 13, 3) := by decide +kernel
theorem dX7_point_83 : decode cX7_point 83 = .ok (.iconst 0, 1) := by decide +kernel
theorem dX7_point_84 : decode cX7_point 84 = .ok (.aload_n 0, 1) := by decide +kernel
theorem dX7_point_85 : decode cX7_point 85 = .ok (.getfield 13, 3) := by decide +kernel
theorem dX7_point_88 : decode cX7_point 88 = .ok (.bipush 77, 2) := by decide +kernel
theorem dX7_point_90 : decode cX7_point 90 = .ok (.iaload, 1) := by decide +kernel
theorem dX7_point_91 : decode cX7_point 91 = .ok (.aload_n 0, 1) := by decide +kernel
theorem dX7_point_92 : decode cX7_point 92 = .ok (.getfield 32, 3) := by decide +kernel
theorem dX7_point_95 : decode cX7_point 95 = .ok (.invokestatic 75, 3) := by decide +kernel
theorem dX7_point_98 : decode cX7_point 98 = .ok (.ireturn, 1) := by decide +kernel
set_option maxRecDepth 20000 in
theorem ggX7_lift_X7_remember : GoodIn wsX7_lift wsX7_remember := goodIn_r _ [7, 8, 9, 2, 10, 11, 6, 12, 13, 14, 15, 16, 17, 18, 19, 20, 21, 22, 23, 24, 25, 26, 27, 28, 29, 30, 31] (by decide +kernel) (by decide +kernel)
set_option maxRecDepth 20000 in
theorem gX7_lift_X7_remember : GoodIn wsX7_lift (wsV RX7 173 RX7 yX7_remember wsX7_remember) := goodIn_app (goodIn_of _ (by decide +kernel)) ggX7_lift_X7_remember
theorem dX7_lift_0 : decode cX7_lift 0 = .ok (.aload_n 0, 1) := by decide +kernel
theorem dX7_lift_1 : decode cX7_lift 1 = .ok (.iconst 0, 1) := by decide +kernel
theorem dX7_lift_2 : decode cX7_lift 2 = .ok (.putfield 41, 3) := by decide +kernel
theorem dX7_lift_5 : decode cX7_lift 5 = .ok (.aload_n 0, 1) := by decide +kernel
theorem dX7_lift_6 : decode cX7_lift 6 = .ok (.invokevirtual 173, 3) := by decide +kernel
theorem dX7_lift_9 : decode cX7_lift 9 = .ok (.aload_n 0, 1) := by decide +kernel
theorem dX7_lift_10 : decode cX7_lift 10 = .ok (.getfield 13, 3) := by decide +kernel
theorem dX7_lift_13 : decode cX7_lift 13 = .ok (.bipush 76, 2) := by decide +kernel
theorem dX7_lift_15 : decode cX7_lift 15 = .ok (.iconst 0, 1) := by decide +kernel
theorem dX7_lift_16 : decode cX7_lift 16 = .ok (.iastore, 1) := by decide +kernel
theorem dX7_lift_17 : decode cX7_lift 17 = .ok (.aload_n 0, 1) := by decide +kernel
theorem dX7_lift_18 : decode cX7_lift 18 = .ok (.getfield 13, 3) := by decide +kernel
theorem dX7_lift_21 : decode cX7_lift 21 = .ok (.iconst 0, 1) := by decide +kernel
theorem dX7_lift_22 : decode cX7_lift 22 = .ok (.iaload, 1) := by decide +kernel
theorem dX7_lift_23 : decode cX7_lift 23 = .ok (.ireturn, 1) := by decide +kernel
set_option maxRecDepth 20000 in
theorem ggX7_draw_X7_readText : GoodIn wsX7_draw wsX7_readText := goodIn_r _ [8, 1, 9, 10, 11, 12, 7, 13, 14, 15, 16, 17, 18, 19, 20, 21, 22, 23, 24, 25, 26, 27, 28, 29, 30, 31, 61, 62, 63, 64, 65, 66, 67, 68, 69, 70, 71, 72, 73, 74, 75, 76, 77, 78, 79] (by decide +kernel) (by decide +kernel)
set_option maxRecDepth 20000 in
theorem gX7_draw_X7_readText : GoodIn wsX7_draw (wsV RX7 128 RX7 yX7_readText wsX7_readText) := goodIn_app (goodIn_of _ (by decide +kernel)) ggX7_draw_X7_readText
set_option maxRecDepth 20000 in
theorem ggX7_draw_X7_signature : GoodIn wsX7_draw wsX7_signature := goodIn_r _ [34, 35, 36, 7, 37, 38, 39, 40, 41, 42, 43, 44, 45, 46] (by decide +kernel) (by decide +kernel)
set_option maxRecDepth 20000 in
theorem gX7_draw_X7_signature : GoodIn wsX7_draw (va_wsS RX7 75 yX7_signature wsX7_signature) := goodIn_app (goodIn_of _ (by decide +kernel)) ggX7_draw_X7_signature
set_option maxRecDepth 20000 in
theorem ggX7_draw_X7_refused : GoodIn wsX7_draw wsX7_refused := goodIn_r _ [50, 51, 61, 62, 63, 64, 65, 66, 67, 68, 69, 70, 71, 72, 73, 74, 75, 76, 77, 78, 79] (by decide +kernel) (by decide +kernel)
set_option maxRecDepth 20000 in
theorem gX7_draw_X7_refused : GoodIn wsX7_draw (wsV RX7 102 RX7 yX7_refused wsX7_refused) := goodIn_app (goodIn_of _ (by decide +kernel)) ggX7_draw_X7_refused
set_option maxRecDepth 20000 in
theorem ggX7_draw_X7_remember : GoodIn wsX7_draw wsX7_remember := goodIn_r _ [55, 56, 57, 2, 58, 59, 7, 60, 61, 62, 63, 64, 65, 66, 67, 68, 69, 70, 71, 72, 73, 74, 75, 76, 77, 78, 79] (by decide +kernel) (by decide +kernel)
set_option maxRecDepth 20000 in
theorem gX7_draw_X7_remember : GoodIn wsX7_draw (wsV RX7 173 RX7 yX7_remember wsX7_remember) := goodIn_app (goodIn_of _ (by decide +kernel)) ggX7_draw_X7_remember
theorem dX7_draw_0 : decode cX7_draw 0 = .ok (.aload_n 0, 1) := by decide +kernel
theorem dX7_draw_1 : decode cX7_draw 1 = .ok (.aload_n 0, 1) := by decide +kernel
theorem dX7_draw_2 : decode cX7_draw 2 = .ok (.invokevirtual 128, 3) := by decide +kernel
theorem dX7_draw_5 : decode cX7_draw 5 = .ok (.iconst (-1), 1) := by decide +kernel
theorem dX7_draw_6 : decode cX7_draw 6 = .ok (.if_icmp .ne 31, 3) := by decide +kernel
theorem dX7_draw_9 : decode cX7_draw 9 = .ok (.aload_n 0, 1) := by decide +kernel
theorem dX7_draw_10 : decode cX7_draw 10 = .ok (.getfield 29, 3) := by decide +kernel
theorem dX7_draw_13 : decode cX7_draw 13 = .ok (.iconst 0, 1) := by decide +kernel
theorem dX7_draw_14 : decode cX7_draw 14 = .ok (.aload_n 0, 1) := by decide +kernel
theorem dX7_draw_15 : decode cX7_draw 15 = .ok (.getfield 13, 3) := by decide +kernel
theorem dX7_draw_18 : decode cX7_draw 18 = .ok (.bipush 77, 2) := by decide +kernel
theorem dX7_draw_20 : decode cX7_draw 20 = .ok (.iaload, 1) := by decide +kernel
theorem dX7_draw_21 : decode cX7_draw 21 = .ok (.aload_n 0, 1) := by decide +kernel
theorem dX7_draw_22 : decode cX7_draw 22 = .ok (.getfield 32, 3) := by decide +kernel
theorem dX7_draw_25 : decode cX7_draw 25 = .ok (.invokestatic 75, 3) := by decide +kernel
theorem dX7_draw_28 : decode cX7_draw 28 = .ok (.bipush 40, 2) := by decide +kernel
theorem dX7_draw_30 : decode cX7_draw 30 = .ok (.if_icmp .gt 7, 3) := by decide +kernel
theorem dX7_draw_33 : decode cX7_draw 33 = .ok (.iconst 0, 1) := by decide +kernel
theorem dX7_draw_34 : decode cX7_draw 34 = .ok (.goto 4, 3) := by decide +kernel
theorem dX7_draw_37 : decode cX7_draw 37 = .ok (.iconst 1, 1) := by decide +kernel
theorem dX7_draw_38 : decode cX7_draw 38 = .ok (.invokevirtual 102, 3) := by decide +kernel
theorem dX7_draw_41 : decode cX7_draw 41 = .ok (.ifCond .eq 5, 3) := by decide +kernel
theorem dX7_draw_44 : decode cX7_draw 44 = .ok (.iconst 0, 1) := by decide +kernel
theorem dX7_draw_45 : decode cX7_draw 45 = .ok (.ireturn, 1) := by decide +kernel
theorem dX7_draw_46 : decode cX7_draw 46 = .ok (.aload_n 0, 1) := by decide +kernel
theorem dX7_draw_47 : decode cX7_draw 47 = .ok (.invokevirtual 173, 3) := by decide +kernel
theorem dX7_draw_50 : decode cX7_draw 50 = .ok (.iconst 0, 1) := by decide +kernel
theorem dX7_draw_51 : decode cX7_draw 51 = .ok (.istore_n 1, 1) := by decide +kernel
theorem dX7_draw_52 : decode cX7_draw 52 = .ok (.iload_n 1, 1) := by decide +kernel
theorem dX7_draw_53 : decode cX7_draw 53 = .ok (.bipush 76, 2) := by decide +kernel
theorem dX7_draw_55 : decode cX7_draw 55 = .ok (.if_icmp .ge 21, 3) := by decide +kernel
theorem dX7_draw_58 : decode cX7_draw 58 = .ok (.aload_n 0, 1) := by decide +kernel
theorem dX7_draw_59 : decode cX7_draw 59 = .ok (.getfield 13, 3) := by decide +kernel
theorem dX7_draw_62 : decode cX7_draw 62 = .ok (.iload_n 1, 1) := by decide +kernel
theorem dX7_draw_63 : decode cX7_draw 63 = .ok (.aload_n 0, 1) := by decide +kernel
theorem dX7_draw_64 : decode cX7_draw 64 = .ok (.getfield 29, 3) := by decide +kernel
theorem dX7_draw_67 : decode cX7_draw 67 = .ok (.iload_n 1, 1) := by decide +kernel
theorem dX7_draw_68 : decode cX7_draw 68 = .ok (.iaload, 1) := by decide +kernel
theorem dX7_draw_69 : decode cX7_draw 69 = .ok (.iastore, 1) := by decide +kernel
theorem dX7_draw_70 : decode cX7_draw 70 = .ok (.iinc 1 1, 3) := by decide +kernel
theorem dX7_draw_73 : decode cX7_draw 73 = .ok (.goto (-21), 3) := by decide +kernel
theorem dX7_draw_76 : decode cX7_draw 76 = .ok (.aload_n 0, 1) := by decide +kernel
theorem dX7_draw_77 : decode cX7_draw 77 = .ok (.getfield 13, 3) := by decide +kernel
theorem dX7_draw_80 : decode cX7_draw 80 = .ok (.bipush 76, 2) := by decide +kernel
theorem dX7_draw_82 : decode cX7_draw 82 = .ok (.iconst 0, 1) := by decide +kernel
theorem dX7_draw_83 : decode cX7_draw 83 = .ok (.iastore, 1) := by decide +kernel
theorem dX7_draw_84 : decode cX7_draw 84 = .ok (.aload_n 0, 1) := by decide +kernel
theorem dX7_draw_85 : decode cX7_draw 85 = .ok (.getfield 13, 3) := by decide +kernel
theorem dX7_draw_88 : decode cX7_draw 88 = .ok (.iconst 0, 1) := by decide +kernel
theorem dX7_draw_89 : decode cX7_draw 89 = .ok (.aload_n 0, 1) := by decide +kernel
theorem dX7_draw_90 : decode cX7_draw 90 = .ok (.getfield 13, 3) := by decide +kernel
theorem dX7_draw_93 : decode cX7_draw 93 = .ok (.bipush 77, 2) := by decide +kernel
theorem dX7_draw_95 : decode cX7_draw 95 = .ok (.iaload, 1) := by decide +kernel
theorem dX7_draw_96 : decode cX7_draw 96 = .ok (.aload_n 0, 1) := by decide +kernel
theorem dX7_draw_97 : decode cX7_draw 97 = .ok (.getfield 32, 3) := by decide +kernel
theorem dX7_draw_100 : decode cX7_draw 100 = .ok (.invokestatic 75, 3) := by decide +kernel
theorem dX7_draw_103 : decode cX7_draw 103 = .ok (.ireturn, 1) := by decide +kernel
set_option maxRecDepth 20000 in
theorem ggX7_canLearn_X7_nameOf : GoodIn wsX7_canLearn wsX7_nameOf := goodIn_r _ [4, 5, 6, 3, 7] (by decide +kernel) (by decide +kernel)
set_option maxRecDepth 20000 in
theorem gX7_canLearn_X7_nameOf : GoodIn wsX7_canLearn (va_wsS RX7 146 yX7_nameOf wsX7_nameOf) := goodIn_app (goodIn_of _ (by decide +kernel)) ggX7_canLearn_X7_nameOf
set_option maxRecDepth 20000 in
theorem ggX7_canLearn_X7_distanceTo : GoodIn wsX7_canLearn wsX7_distanceTo := goodIn_r _ [11, 12, 13, 14, 15, 3, 16, 17, 18, 19, 20, 21, 22, 23, 24, 25, 26, 27, 28, 5, 6, 7, 29, 30, 31, 32, 33, 34, 35, 36, 37, 38, 39, 40, 41, 42, 43, 44, 45, 46, 47, 48, 49, 50, 51, 52, 53, 54, 55, 56, 57, 58, 59, 60, 61] (by decide +kernel) (by decide +kernel)
set_option maxRecDepth 20000 in
theorem gX7_canLearn_X7_distanceTo : GoodIn wsX7_canLearn (wsV RX7 91 RX7 yX7_distanceTo wsX7_distanceTo) := goodIn_app (goodIn_of _ (by decide +kernel)) ggX7_canLearn_X7_distanceTo
theorem dX7_canLearn_0 : decode cX7_canLearn 0 = .ok (.aload_n 1, 1) := by decide +kernel
theorem dX7_canLearn_1 : decode cX7_canLearn 1 = .ok (.iconst 0, 1) := by decide +kernel
theorem dX7_canLearn_2 : decode cX7_canLearn 2 = .ok (.iaload, 1) := by decide +kernel
theorem dX7_canLearn_3 : decode cX7_canLearn 3 = .ok (.ifCond .eq 12, 3) := by decide +kernel
theorem dX7_canLearn_6 : decode cX7_canLearn 6 = .ok (.aload_n 1, 1) := by decide +kernel
theorem dX7_canLearn_7 : decode cX7_canLearn 7 = .ok (.bipush 110, 2) := by decide +kernel
theorem dX7_canLearn_9 : decode cX7_canLearn 9 = .ok (.iaload, 1) := by decide +kernel
theorem dX7_canLearn_10 : decode cX7_canLearn 10 = .ok (.bipush 16, 2) := by decide +kernel
theorem dX7_canLearn_12 : decode cX7_canLearn 12 = .ok (.if_icmp .ne 5, 3) := by decide +kernel
theorem dX7_canLearn_15 : decode cX7_canLearn 15 = .ok (.iconst 0, 1) := by decide +kernel
theorem dX7_canLearn_16 : decode cX7_canLearn 16 = .ok (.ireturn, 1) := by decide +kernel
theorem dX7_canLearn_17 : decode cX7_canLearn 17 = .ok (.iconst 0, 1) := by decide +kernel
theorem dX7_canLearn_18 : decode cX7_canLearn 18 = .ok (.istore_n 3, 1) := by decide +kernel
theorem dX7_canLearn_19 : decode cX7_canLearn 19 = .ok (.iload_n 3, 1) := by decide +kernel
theorem dX7_canLearn_20 : decode cX7_canLearn 20 = .ok (.aload_n 1, 1) := by decide +kernel
theorem dX7_canLearn_21 : decode cX7_canLearn 21 = .ok (.bipush 110, 2) := by decide +kernel
theorem dX7_canLearn_23 : decode cX7_canLearn 23 = .ok (.iaload, 1) := by decide +kernel
theorem dX7_canLearn_24 : decode cX7_canLearn 24 = .ok (.if_icmp .ge 35, 3) := by decide +kernel
theorem dX7_canLearn_27 : decode cX7_canLearn 27 = .ok (.aload_n 1, 1) := by decide +kernel
theorem dX7_canLearn_28 : decode cX7_canLearn 28 = .ok (.iload_n 3, 1) := by decide +kernel
theorem dX7_canLearn_29 : decode cX7_canLearn 29 = .ok (.invokestatic 146, 3) := by decide +kernel
theorem dX7_canLearn_32 : decode cX7_canLearn 32 = .ok (.iload_n 2, 1) := by decide +kernel
theorem dX7_canLearn_33 : decode cX7_canLearn 33 = .ok (.if_icmp .eq 20, 3) := by decide +kernel
theorem dX7_canLearn_36 : decode cX7_canLearn 36 = .ok (.aload_n 0, 1) := by decide +kernel
theorem dX7_canLearn_37 : decode cX7_canLearn 37 = .ok (.aload_n 1, 1) := by decide +kernel
theorem dX7_canLearn_38 : decode cX7_canLearn 38 = .ok (.iconst 0, 1) := by decide +kernel
theorem dX7_canLearn_39 : decode cX7_canLearn 39 = .ok (.aload_n 1, 1) := by decide +kernel
theorem dX7_canLearn_40 : decode cX7_canLearn 40 = .ok (.iload_n 3, 1) := by decide +kernel
theorem dX7_canLearn_41 : decode cX7_canLearn 41 = .ok (.aload_n 1, 1) := by decide +kernel
theorem dX7_canLearn_42 : decode cX7_canLearn 42 = .ok (.bipush 77, 2) := by decide +kernel
theorem dX7_canLearn_44 : decode cX7_canLearn 44 = .ok (.iaload, 1) := by decide +kernel
theorem dX7_canLearn_45 : decode cX7_canLearn 45 = .ok (.invokevirtual 91, 3) := by decide +kernel
theorem dX7_canLearn_48 : decode cX7_canLearn 48 = .ok (.ifCond .ne 5, 3) := by decide +kernel
theorem dX7_canLearn_51 : decode cX7_canLearn 51 = .ok (.iconst 0, 1) := by decide +kernel
theorem dX7_canLearn_52 : decode cX7_canLearn 52 = .ok (.ireturn, 1) := by decide +kernel
theorem dX7_canLearn_53 : decode cX7_canLearn 53 = .ok (.iinc 3 1, 3) := by decide +kernel
theorem dX7_canLearn_56 : decode cX7_canLearn 56 = .ok (.goto (-37), 3) := by decide +kernel
theorem dX7_canLearn_59 : decode cX7_canLearn 59 = .ok (.iconst 1, 1) := by decide +kernel
theorem dX7_canLearn_60 : decode cX7_canLearn 60 = .ok (.ireturn, 1) := by decide +kernel
set_option maxRecDepth 20000 in
theorem ggX7_learnOn_X7_at : GoodIn wsX7_learnOn wsX7_at := goodIn_r _ [4] (by decide +kernel) (by decide +kernel)
set_option maxRecDepth 20000 in
theorem gX7_learnOn_X7_at : GoodIn wsX7_learnOn (va_wsS RX7 79 yX7_at wsX7_at) := goodIn_app (goodIn_of _ (by decide +kernel)) ggX7_learnOn_X7_at
set_option maxRecDepth 20000 in
theorem ggX7_learnOn_X7_clearFigure : GoodIn wsX7_learnOn wsX7_clearFigure := goodIn_r _ [7] (by decide +kernel) (by decide +kernel)
set_option maxRecDepth 20000 in
theorem gX7_learnOn_X7_clearFigure : GoodIn wsX7_learnOn (va_wsS RX7 120 yX7_clearFigure wsX7_clearFigure) := goodIn_app (goodIn_of _ (by decide +kernel)) ggX7_learnOn_X7_clearFigure
theorem dX7_learnOn_0 : decode cX7_learnOn 0 = .ok (.aload_n 0, 1) := by decide +kernel
theorem dX7_learnOn_1 : decode cX7_learnOn 1 = .ok (.bipush 110, 2) := by decide +kernel
theorem dX7_learnOn_3 : decode cX7_learnOn 3 = .ok (.iaload, 1) := by decide +kernel
theorem dX7_learnOn_4 : decode cX7_learnOn 4 = .ok (.istore_n 2, 1) := by decide +kernel
theorem dX7_learnOn_5 : decode cX7_learnOn 5 = .ok (.iconst 0, 1) := by decide +kernel
theorem dX7_learnOn_6 : decode cX7_learnOn 6 = .ok (.istore_n 3, 1) := by decide +kernel
theorem dX7_learnOn_7 : decode cX7_learnOn 7 = .ok (.iload_n 3, 1) := by decide +kernel
theorem dX7_learnOn_8 : decode cX7_learnOn 8 = .ok (.bipush 76, 2) := by decide +kernel
theorem dX7_learnOn_10 : decode cX7_learnOn 10 = .ok (.if_icmp .ge 20, 3) := by decide +kernel
theorem dX7_learnOn_13 : decode cX7_learnOn 13 = .ok (.aload_n 0, 1) := by decide +kernel
theorem dX7_learnOn_14 : decode cX7_learnOn 14 = .ok (.iload_n 2, 1) := by decide +kernel
theorem dX7_learnOn_15 : decode cX7_learnOn 15 = .ok (.invokestatic 79, 3) := by decide +kernel
theorem dX7_learnOn_18 : decode cX7_learnOn 18 = .ok (.iload_n 3, 1) := by decide +kernel
theorem dX7_learnOn_19 : decode cX7_learnOn 19 = .ok (.iadd, 1) := by decide +kernel
theorem dX7_learnOn_20 : decode cX7_learnOn 20 = .ok (.aload_n 0, 1) := by decide +kernel
theorem dX7_learnOn_21 : decode cX7_learnOn 21 = .ok (.iload_n 3, 1) := by decide +kernel
theorem dX7_learnOn_22 : decode cX7_learnOn 22 = .ok (.iaload, 1) := by decide +kernel
theorem dX7_learnOn_23 : decode cX7_learnOn 23 = .ok (.iastore, 1) := by decide +kernel
theorem dX7_learnOn_24 : decode cX7_learnOn 24 = .ok (.iinc 3 1, 3) := by decide +kernel
theorem dX7_learnOn_27 : decode cX7_learnOn 27 = .ok (.goto (-20), 3) := by decide +kernel
theorem dX7_learnOn_30 : decode cX7_learnOn 30 = .ok (.aload_n 0, 1) := by decide +kernel
theorem dX7_learnOn_31 : decode cX7_learnOn 31 = .ok (.iload_n 2, 1) := by decide +kernel
theorem dX7_learnOn_32 : decode cX7_learnOn 32 = .ok (.invokestatic 79, 3) := by decide +kernel
theorem dX7_learnOn_35 : decode cX7_learnOn 35 = .ok (.bipush 76, 2) := by decide +kernel
theorem dX7_learnOn_37 : decode cX7_learnOn 37 = .ok (.iadd, 1) := by decide +kernel
theorem dX7_learnOn_38 : decode cX7_learnOn 38 = .ok (.iload_n 1, 1) := by decide +kernel
theorem dX7_learnOn_39 : decode cX7_learnOn 39 = .ok (.iastore, 1) := by decide +kernel
theorem dX7_learnOn_40 : decode cX7_learnOn 40 = .ok (.aload_n 0, 1) := by decide +kernel
theorem dX7_learnOn_41 : decode cX7_learnOn 41 = .ok (.bipush 110, 2) := by decide +kernel
theorem dX7_learnOn_43 : decode cX7_learnOn 43 = .ok (.dup2, 1) := by decide +kernel
theorem dX7_learnOn_44 : decode cX7_learnOn 44 = .ok (.iaload, 1) := by decide +kernel
theorem dX7_learnOn_45 : decode cX7_learnOn 45 = .ok (.iconst 1, 1) := by decide +kernel
theorem dX7_learnOn_46 : decode cX7_learnOn 46 = .ok (.iadd, 1) := by decide +kernel
theorem dX7_learnOn_47 : decode cX7_learnOn 47 = .ok (.iastore, 1) := by decide +kernel
theorem dX7_learnOn_48 : decode cX7_learnOn 48 = .ok (.aload_n 0, 1) := by decide +kernel
theorem dX7_learnOn_49 : decode cX7_learnOn 49 = .ok (.iconst 0, 1) := by decide +kernel
theorem dX7_learnOn_50 : decode cX7_learnOn 50 = .ok (.invokestatic 120, 3) := by decide +kernel
theorem dX7_learnOn_53 : decode cX7_learnOn 53 = .ok (.aload_n 0, 1) := by decide +kernel
theorem dX7_learnOn_54 : decode cX7_learnOn 54 = .ok (.bipush 76, 2) := by decide +kernel
theorem dX7_learnOn_56 : decode cX7_learnOn 56 = .ok (.iconst 0, 1) := by decide +kernel
theorem dX7_learnOn_57 : decode cX7_learnOn 57 = .ok (.iastore, 1) := by decide +kernel
theorem dX7_learnOn_58 : decode cX7_learnOn 58 = .ok (.iload_n 2, 1) := by decide +kernel
theorem dX7_learnOn_59 : decode cX7_learnOn 59 = .ok (.ireturn, 1) := by decide +kernel
set_option maxRecDepth 20000 in
theorem ggX7_learn_X7_isName : GoodIn wsX7_learn wsX7_isName := goodIn_r _ [5, 6, 7, 8, 4, 9] (by decide +kernel) (by decide +kernel)
set_option maxRecDepth 20000 in
theorem gX7_learn_X7_isName : GoodIn wsX7_learn (va_wsS RX7 151 yX7_isName wsX7_isName) := goodIn_app (goodIn_of _ (by decide +kernel)) ggX7_learn_X7_isName
set_option maxRecDepth 20000 in
theorem ggX7_learn_X7_canLearn : GoodIn wsX7_learn wsX7_canLearn := goodIn_r _ [13, 14, 15, 4, 16, 17, 18, 19, 20, 21, 22, 23, 24, 25, 26, 27, 28, 29, 30, 31, 32, 33, 34, 35, 36, 37, 38, 39, 40, 41, 42, 43, 44, 45, 46, 47, 48, 49, 50, 51, 52, 53, 54, 75, 76, 77, 78, 79, 80, 81, 82, 83, 84, 85, 86, 87, 88, 89, 90, 91, 92, 93] (by decide +kernel) (by decide +kernel)
set_option maxRecDepth 20000 in
theorem gX7_learn_X7_canLearn : GoodIn wsX7_learn (wsV RX7 176 RX7 yX7_canLearn wsX7_canLearn) := goodIn_app (goodIn_of _ (by decide +kernel)) ggX7_learn_X7_canLearn
set_option maxRecDepth 20000 in
theorem ggX7_learn_X7_refused : GoodIn wsX7_learn wsX7_refused := goodIn_r _ [58, 59, 75, 76, 77, 78, 79, 80, 81, 82, 83, 84, 85, 86, 87, 88, 89, 90, 91, 92, 93] (by decide +kernel) (by decide +kernel)
set_option maxRecDepth 20000 in
theorem gX7_learn_X7_refused : GoodIn wsX7_learn (wsV RX7 102 RX7 yX7_refused wsX7_refused) := goodIn_app (goodIn_of _ (by decide +kernel)) ggX7_learn_X7_refused
set_option maxRecDepth 20000 in
theorem ggX7_learn_X7_remember : GoodIn wsX7_learn wsX7_remember := goodIn_r _ [63, 64, 65, 1, 66, 67, 4, 68, 75, 76, 77, 78, 79, 80, 81, 82, 83, 84, 85, 86, 87, 88, 89, 90, 91, 92, 93] (by decide +kernel) (by decide +kernel)
set_option maxRecDepth 20000 in
theorem gX7_learn_X7_remember : GoodIn wsX7_learn (wsV RX7 173 RX7 yX7_remember wsX7_remember) := goodIn_app (goodIn_of _ (by decide +kernel)) ggX7_learn_X7_remember
set_option maxRecDepth 20000 in
theorem ggX7_learn_X7_learnOn : GoodIn wsX7_learn wsX7_learnOn := goodIn_r _ [71, 17, 18, 4, 19, 72, 73, 74] (by decide +kernel) (by decide +kernel)
set_option maxRecDepth 20000 in
theorem gX7_learn_X7_learnOn : GoodIn wsX7_learn (va_wsS RX7 179 yX7_learnOn wsX7_learnOn) := goodIn_app (goodIn_of _ (by decide +kernel)) ggX7_learn_X7_learnOn
theorem dX7_learn_0 : decode cX7_learn 0 = .ok (.aload_n 0, 1) := by decide +kernel
theorem dX7_learn_1 : decode cX7_learn 1 = .ok (.iload_n 1, 1) := by decide +kernel
theorem dX7_learn_2 : decode cX7_learn 2 = .ok (.invokestatic 151, 3) := by decide +kernel
theorem dX7_learn_5 : decode cX7_learn 5 = .ok (.ifCond .ne 7, 3) := by decide +kernel
theorem dX7_learn_8 : decode cX7_learn 8 = .ok (.iconst 1, 1) := by decide +kernel
theorem dX7_learn_9 : decode cX7_learn 9 = .ok (.goto 20, 3) := by decide +kernel
theorem dX7_learn_12 : decode cX7_learn 12 = .ok (.aload_n 0, 1) := by decide +kernel
theorem dX7_learn_13 : decode cX7_learn 13 = .ok (.aload_n 0, 1) := by decide +kernel
theorem dX7_learn_14 : decode cX7_learn 14 = .ok (.getfield 13, 3) := by decide +kernel
theorem dX7_learn_17 : decode cX7_learn 17 = .ok (.iload_n 1, 1) := by decide +kernel
theorem dX7_learn_18 : decode cX7_learn 18 = .ok (.invokevirtual 176, 3) := by decide +kernel
theorem dX7_learn_21 : decode cX7_learn 21 = .ok (.ifCond .eq 7, 3) := by decide +kernel
theorem dX7_learn_24 : decode cX7_learn 24 = .ok (.iconst 0, 1) := by decide +kernel
theorem dX7_learn_25 : decode cX7_learn 25 = .ok (.goto 4, 3) := by decide +kernel
theorem dX7_learn_28 : decode cX7_learn 28 = .ok (.iconst 2, 1) := by decide +kernel
theorem dX7_learn_29 : decode cX7_learn 29 = .ok (.invokevirtual 102, 3) := by decide +kernel
theorem dX7_learn_32 : decode cX7_learn 32 = .ok (.ifCond .eq 5, 3) := by decide +kernel
theorem dX7_learn_35 : decode cX7_learn 35 = .ok (.iconst 0, 1) := by decide +kernel
theorem dX7_learn_36 : decode cX7_learn 36 = .ok (.ireturn, 1) := by decide +kernel
theorem dX7_learn_37 : decode cX7_learn 37 = .ok (.aload_n 0, 1) := by decide +kernel
theorem dX7_learn_38 : decode cX7_learn 38 = .ok (.invokevirtual 173, 3) := by decide +kernel
theorem dX7_learn_41 : decode cX7_learn 41 = .ok (.aload_n 0, 1) := by decide +kernel
theorem dX7_learn_42 : decode cX7_learn 42 = .ok (.getfield 13, 3) := by decide +kernel
theorem dX7_learn_45 : decode cX7_learn 45 = .ok (.iload_n 1, 1) := by decide +kernel
theorem dX7_learn_46 : decode cX7_learn 46 = .ok (.invokestatic 179, 3) := by decide +kernel
theorem dX7_learn_49 : decode cX7_learn 49 = .ok (.ireturn, 1) := by decide +kernel
set_option maxRecDepth 20000 in
theorem ggX7_forgetOn_X7_at : GoodIn wsX7_forgetOn wsX7_at := goodIn_r _ [4] (by decide +kernel) (by decide +kernel)
set_option maxRecDepth 20000 in
theorem gX7_forgetOn_X7_at : GoodIn wsX7_forgetOn (va_wsS RX7 79 yX7_at wsX7_at) := goodIn_app (goodIn_of _ (by decide +kernel)) ggX7_forgetOn_X7_at
theorem dX7_forgetOn_0 : decode cX7_forgetOn 0 = .ok (.aload_n 0, 1) := by decide +kernel
theorem dX7_forgetOn_1 : decode cX7_forgetOn 1 = .ok (.bipush 110, 2) := by decide +kernel
theorem dX7_forgetOn_3 : decode cX7_forgetOn 3 = .ok (.dup2, 1) := by decide +kernel
theorem dX7_forgetOn_4 : decode cX7_forgetOn 4 = .ok (.iaload, 1) := by decide +kernel
theorem dX7_forgetOn_5 : decode cX7_forgetOn 5 = .ok (.iconst 1, 1) := by decide +kernel
theorem dX7_forgetOn_6 : decode cX7_forgetOn 6 = .ok (.isub, 1) := by decide +kernel
theorem dX7_forgetOn_7 : decode cX7_forgetOn 7 = .ok (.iastore, 1) := by decide +kernel
theorem dX7_forgetOn_8 : decode cX7_forgetOn 8 = .ok (.iload_n 1, 1) := by decide +kernel
theorem dX7_forgetOn_9 : decode cX7_forgetOn 9 = .ok (.invokestatic 79, 3) := by decide +kernel
theorem dX7_forgetOn_12 : decode cX7_forgetOn 12 = .ok (.istore_n 2, 1) := by decide +kernel
theorem dX7_forgetOn_13 : decode cX7_forgetOn 13 = .ok (.iload_n 2, 1) := by decide +kernel
theorem dX7_forgetOn_14 : decode cX7_forgetOn 14 = .ok (.aload_n 0, 1) := by decide +kernel
theorem dX7_forgetOn_15 : decode cX7_forgetOn 15 = .ok (.bipush 110, 2) := by decide +kernel
theorem dX7_forgetOn_17 : decode cX7_forgetOn 17 = .ok (.iaload, 1) := by decide +kernel
theorem dX7_forgetOn_18 : decode cX7_forgetOn 18 = .ok (.invokestatic 79, 3) := by decide +kernel
theorem dX7_forgetOn_21 : decode cX7_forgetOn 21 = .ok (.if_icmp .ge 18, 3) := by decide +kernel
theorem dX7_forgetOn_24 : decode cX7_forgetOn 24 = .ok (.aload_n 0, 1) := by decide +kernel
theorem dX7_forgetOn_25 : decode cX7_forgetOn 25 = .ok (.iload_n 2, 1) := by decide +kernel
theorem dX7_forgetOn_26 : decode cX7_forgetOn 26 = .ok (.aload_n 0, 1) := by decide +kernel
theorem dX7_forgetOn_27 : decode cX7_forgetOn 27 = .ok (.iload_n 2, 1) := by decide +kernel
theorem dX7_forgetOn_28 : decode cX7_forgetOn 28 = .ok (.bipush 77, 2) := by decide +kernel
theorem dX7_forgetOn_30 : decode cX7_forgetOn 30 = .ok (.iadd, 1) := by decide +kernel
theorem dX7_forgetOn_31 : decode cX7_forgetOn 31 = .ok (.iaload, 1) := by decide +kernel
theorem dX7_forgetOn_32 : decode cX7_forgetOn 32 = .ok (.iastore, 1) := by decide +kernel
theorem dX7_forgetOn_33 : decode cX7_forgetOn 33 = .ok (.iinc 2 1, 3) := by decide +kernel
theorem dX7_forgetOn_36 : decode cX7_forgetOn 36 = .ok (.goto (-23), 3) := by decide +kernel
theorem dX7_forgetOn_39 : decode cX7_forgetOn 39 = .ok (.aload_n 0, 1) := by decide +kernel
theorem dX7_forgetOn_40 : decode cX7_forgetOn 40 = .ok (.bipush 110, 2) := by decide +kernel
theorem dX7_forgetOn_42 : decode cX7_forgetOn 42 = .ok (.iaload, 1) := by decide +kernel
theorem dX7_forgetOn_43 : decode cX7_forgetOn 43 = .ok (.ireturn, 1) := by decide +kernel
set_option maxRecDepth 20000 in
theorem ggX7_forget_X7_isSample : GoodIn wsX7_forget wsX7_isSample := goodIn_r _ [5, 6, 7, 4, 8] (by decide +kernel) (by decide +kernel)
set_option maxRecDepth 20000 in
theorem gX7_forget_X7_isSample : GoodIn wsX7_forget (va_wsS RX7 140 yX7_isSample wsX7_isSample) := goodIn_app (goodIn_of _ (by decide +kernel)) ggX7_forget_X7_isSample
set_option maxRecDepth 20000 in
theorem ggX7_forget_X7_refused : GoodIn wsX7_forget wsX7_refused := goodIn_r _ [12, 13, 29, 30, 31, 32, 33, 34, 35, 36, 37, 38, 39, 40, 41, 42, 43, 44, 45, 46, 47] (by decide +kernel) (by decide +kernel)
set_option maxRecDepth 20000 in
theorem gX7_forget_X7_refused : GoodIn wsX7_forget (wsV RX7 102 RX7 yX7_refused wsX7_refused) := goodIn_app (goodIn_of _ (by decide +kernel)) ggX7_forget_X7_refused
set_option maxRecDepth 20000 in
theorem ggX7_forget_X7_remember : GoodIn wsX7_forget wsX7_remember := goodIn_r _ [17, 18, 19, 1, 20, 21, 4, 22, 29, 30, 31, 32, 33, 34, 35, 36, 37, 38, 39, 40, 41, 42, 43, 44, 45, 46, 47] (by decide +kernel) (by decide +kernel)
set_option maxRecDepth 20000 in
theorem gX7_forget_X7_remember : GoodIn wsX7_forget (wsV RX7 173 RX7 yX7_remember wsX7_remember) := goodIn_app (goodIn_of _ (by decide +kernel)) ggX7_forget_X7_remember
set_option maxRecDepth 20000 in
theorem ggX7_forget_X7_forgetOn : GoodIn wsX7_forget wsX7_forgetOn := goodIn_r _ [25, 26, 27, 4, 28] (by decide +kernel) (by decide +kernel)
set_option maxRecDepth 20000 in
theorem gX7_forget_X7_forgetOn : GoodIn wsX7_forget (va_wsS RX7 182 yX7_forgetOn wsX7_forgetOn) := goodIn_app (goodIn_of _ (by decide +kernel)) ggX7_forget_X7_forgetOn
theorem dX7_forget_0 : decode cX7_forget 0 = .ok (.aload_n 0, 1) := by decide +kernel
theorem dX7_forget_1 : decode cX7_forget 1 = .ok (.aload_n 0, 1) := by decide +kernel
theorem dX7_forget_2 : decode cX7_forget 2 = .ok (.getfield 13, 3) := by decide +kernel
theorem dX7_forget_5 : decode cX7_forget 5 = .ok (.iload_n 1, 1) := by decide +kernel
theorem dX7_forget_6 : decode cX7_forget 6 = .ok (.invokestatic 140, 3) := by decide +kernel
theorem dX7_forget_9 : decode cX7_forget 9 = .ok (.ifCond .eq 7, 3) := by decide +kernel
theorem dX7_forget_12 : decode cX7_forget 12 = .ok (.iconst 0, 1) := by decide +kernel
theorem dX7_forget_13 : decode cX7_forget 13 = .ok (.goto 4, 3) := by decide +kernel
theorem dX7_forget_16 : decode cX7_forget 16 = .ok (.iconst 1, 1) := by decide +kernel
theorem dX7_forget_17 : decode cX7_forget 17 = .ok (.invokevirtual 102, 3) := by decide +kernel
theorem dX7_forget_20 : decode cX7_forget 20 = .ok (.ifCond .eq 5, 3) := by decide +kernel
theorem dX7_forget_23 : decode cX7_forget 23 = .ok (.iconst 0, 1) := by decide +kernel
theorem dX7_forget_24 : decode cX7_forget 24 = .ok (.ireturn, 1) := by decide +kernel
theorem dX7_forget_25 : decode cX7_forget 25 = .ok (.aload_n 0, 1) := by decide +kernel
theorem dX7_forget_26 : decode cX7_forget 26 = .ok (.invokevirtual 173, 3) := by decide +kernel
theorem dX7_forget_29 : decode cX7_forget 29 = .ok (.aload_n 0, 1) := by decide +kernel
theorem dX7_forget_30 : decode cX7_forget 30 = .ok (.getfield 13, 3) := by decide +kernel
theorem dX7_forget_33 : decode cX7_forget 33 = .ok (.iload_n 1, 1) := by decide +kernel
theorem dX7_forget_34 : decode cX7_forget 34 = .ok (.invokestatic 182, 3) := by decide +kernel
theorem dX7_forget_37 : decode cX7_forget 37 = .ok (.ireturn, 1) := by decide +kernel
set_option maxRecDepth 20000 in
theorem ggX7_practiseOn_X7_readFigure : GoodIn wsX7_practiseOn wsX7_readFigure := goodIn_r _ [7, 2, 8, 1, 9, 10, 11, 6, 12, 13, 14, 15, 16, 17, 18, 19, 20, 21, 22, 23, 24, 25, 26, 27, 28, 29, 30, 31, 32, 33, 34, 35, 36, 37, 38, 39, 40, 41, 42, 43, 44, 45, 46, 53, 54, 55, 56, 57, 58, 59, 60, 61, 62, 63, 64, 65, 66, 67, 68, 69, 70, 71] (by decide +kernel) (by decide +kernel)
set_option maxRecDepth 20000 in
theorem gX7_practiseOn_X7_readFigure : GoodIn wsX7_practiseOn (wsV RX7 185 RX7 yX7_readFigure wsX7_readFigure) := goodIn_app (goodIn_of _ (by decide +kernel)) ggX7_practiseOn_X7_readFigure
set_option maxRecDepth 20000 in
theorem ggX7_practiseOn_X7_nameOf : GoodIn wsX7_practiseOn wsX7_nameOf := goodIn_r _ [49, 30, 31, 6, 32] (by decide +kernel) (by decide +kernel)
set_option maxRecDepth 20000 in
theorem gX7_practiseOn_X7_nameOf : GoodIn wsX7_practiseOn (va_wsS RX7 146 yX7_nameOf wsX7_nameOf) := goodIn_app (goodIn_of _ (by decide +kernel)) ggX7_practiseOn_X7_nameOf
set_option maxRecDepth 20000 in
theorem ggX7_practiseOn_X7_clearFigure : GoodIn wsX7_practiseOn wsX7_clearFigure := goodIn_r _ [52] (by decide +kernel) (by decide +kernel)
set_option maxRecDepth 20000 in
theorem gX7_practiseOn_X7_clearFigure : GoodIn wsX7_practiseOn (va_wsS RX7 120 yX7_clearFigure wsX7_clearFigure) := goodIn_app (goodIn_of _ (by decide +kernel)) ggX7_practiseOn_X7_clearFigure
theorem dX7_practiseOn_0 : decode cX7_practiseOn 0 = .ok (.aload_n 0, 1) := by decide +kernel
theorem dX7_practiseOn_1 : decode cX7_practiseOn 1 = .ok (.aload_n 1, 1) := by decide +kernel
theorem dX7_practiseOn_2 : decode cX7_practiseOn 2 = .ok (.iconst 0, 1) := by decide +kernel
theorem dX7_practiseOn_3 : decode cX7_practiseOn 3 = .ok (.aload_n 1, 1) := by decide +kernel
theorem dX7_practiseOn_4 : decode cX7_practiseOn 4 = .ok (.iconst (-1), 1) := by decide +kernel
