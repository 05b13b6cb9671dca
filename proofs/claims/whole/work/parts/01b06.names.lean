theorem dX7_distance_188 : decode cX7_distance 188 = .ok (.iadd, 1) := by decide +kernel
theorem dX7_distance_189 : decode cX7_distance 189 = .ok (.iload 5, 2) := by decide +kernel
theorem dX7_distance_191 : decode cX7_distance 191 = .ok (.iastore, 1) := by decide +kernel
theorem dX7_distance_192 : decode cX7_distance 192 = .ok (.iinc 4 1, 3) := by decide +kernel
theorem dX7_distance_195 : decode cX7_distance 195 = .ok (.goto (-185), 3) := by decide +kernel
theorem dX7_distance_198 : decode cX7_distance 198 = .ok (.iinc 3 1, 3) := by decide +kernel
theorem dX7_distance_201 : decode cX7_distance 201 = .ok (.goto (-199), 3) := by decide +kernel
theorem dX7_distance_204 : decode cX7_distance 204 = .ok (.aload_n 0, 1) := by decide +kernel
theorem dX7_distance_205 : decode cX7_distance 205 = .ok (.getfield 38, 3) := by decide +kernel
theorem dX7_distance_208 : decode cX7_distance 208 = .ok (.bipush 41, 2) := by decide +kernel
theorem dX7_distance_210 : decode cX7_distance 210 = .ok (.iload_n 1, 1) := by decide +kernel
theorem dX7_distance_211 : decode cX7_distance 211 = .ok (.imul, 1) := by decide +kernel
theorem dX7_distance_212 : decode cX7_distance 212 = .ok (.iload_n 2, 1) := by decide +kernel
theorem dX7_distance_213 : decode cX7_distance 213 = .ok (.iadd, 1) := by decide +kernel
theorem dX7_distance_214 : decode cX7_distance 214 = .ok (.iaload, 1) := by decide +kernel
theorem dX7_distance_215 : decode cX7_distance 215 = .ok (.ireturn, 1) := by decide +kernel
set_option maxRecDepth 20000 in
theorem ggX7_distanceTo_X7_signature : GoodIn wsX7_distanceTo wsX7_signature := goodIn_r _ [6, 7, 8, 5, 9, 10, 11, 12, 13, 14, 15, 16, 17, 18] (by decide +kernel) (by decide +kernel)
set_option maxRecDepth 20000 in
theorem gX7_distanceTo_X7_signature : GoodIn wsX7_distanceTo (va_wsS RX7 75 yX7_signature wsX7_signature) := goodIn_app (goodIn_of _ (by decide +kernel)) ggX7_distanceTo_X7_signature
set_option maxRecDepth 20000 in
theorem ggX7_distanceTo_X7_at : GoodIn wsX7_distanceTo wsX7_at := goodIn_r _ [21] (by decide +kernel) (by decide +kernel)
set_option maxRecDepth 20000 in
theorem gX7_distanceTo_X7_at : GoodIn wsX7_distanceTo (va_wsS RX7 79 yX7_at wsX7_at) := goodIn_app (goodIn_of _ (by decide +kernel)) ggX7_distanceTo_X7_at
set_option maxRecDepth 20000 in
theorem ggX7_distanceTo_X7_distance : GoodIn wsX7_distanceTo wsX7_distance := goodIn_r _ [25, 26, 1, 2, 27, 28, 5, 29, 30, 31, 32, 33, 34, 35, 13, 14, 15, 36, 37, 38, 39, 40, 41, 42, 43, 44, 45, 46, 47, 48, 49, 50, 51, 52, 53, 54] (by decide +kernel) (by decide +kernel)
set_option maxRecDepth 20000 in
theorem gX7_distanceTo_X7_distance : GoodIn wsX7_distanceTo (wsV RX7 82 RX7 yX7_distance wsX7_distance) := goodIn_app (goodIn_of _ (by decide +kernel)) ggX7_distanceTo_X7_distance
theorem dX7_distanceTo_0 : decode cX7_distanceTo 0 = .ok (.aload_n 1, 1) := by decide +kernel
theorem dX7_distanceTo_1 : decode cX7_distanceTo 1 = .ok (.iload_n 2, 1) := by decide +kernel
theorem dX7_distanceTo_2 : decode cX7_distanceTo 2 = .ok (.iload 5, 2) := by decide +kernel
theorem dX7_distanceTo_4 : decode cX7_distanceTo 4 = .ok (.aload_n 0, 1) := by decide +kernel
theorem dX7_distanceTo_5 : decode cX7_distanceTo 5 = .ok (.getfield 32, 3) := by decide +kernel
theorem dX7_distanceTo_8 : decode cX7_distanceTo 8 = .ok (.invokestatic 75, 3) := by decide +kernel
theorem dX7_distanceTo_11 : decode cX7_distanceTo 11 = .ok (.istore 6, 2) := by decide +kernel
theorem dX7_distanceTo_13 : decode cX7_distanceTo 13 = .ok (.aload_n 0, 1) := by decide +kernel
theorem dX7_distanceTo_14 : decode cX7_distanceTo 14 = .ok (.iload 6, 2) := by decide +kernel
theorem dX7_distanceTo_16 : decode cX7_distanceTo 16 = .ok (.aload_n 3, 1) := by decide +kernel
theorem dX7_distanceTo_17 : decode cX7_distanceTo 17 = .ok (.iload 4, 2) := by decide +kernel
theorem dX7_distanceTo_19 : decode cX7_distanceTo 19 = .ok (.invokestatic 79, 3) := by decide +kernel
theorem dX7_distanceTo_22 : decode cX7_distanceTo 22 = .ok (.iload 5, 2) := by decide +kernel
theorem dX7_distanceTo_24 : decode cX7_distanceTo 24 = .ok (.aload_n 0, 1) := by decide +kernel
theorem dX7_distanceTo_25 : decode cX7_distanceTo 25 = .ok (.getfield 35, 3) := by decide +kernel
theorem dX7_distanceTo_28 : decode cX7_distanceTo 28 = .ok (.invokestatic 75, 3) := by decide +kernel
theorem dX7_distanceTo_31 : decode cX7_distanceTo 31 = .ok (.invokevirtual 82, 3) := by decide +kernel
theorem dX7_distanceTo_34 : decode cX7_distanceTo 34 = .ok (.ireturn, 1) := by decide +kernel
set_option maxRecDepth 20000 in
theorem ggX7_readFigure_X7_distanceTo : GoodIn wsX7_readFigure wsX7_distanceTo := goodIn_r _ [8, 9, 10, 11, 12, 7, 13, 14, 15, 16, 17, 18, 19, 20, 21, 22, 23, 24, 25, 26, 27, 28, 29, 30, 31, 32, 33, 34, 35, 36, 37, 38, 39, 40, 41, 42, 43, 44, 45, 46, 47, 48, 49, 50, 51, 52, 53, 54, 55, 56, 57, 58, 59, 60, 61] (by decide +kernel) (by decide +kernel)
set_option maxRecDepth 20000 in
theorem gX7_readFigure_X7_distanceTo : GoodIn wsX7_readFigure (wsV RX7 91 RX7 yX7_distanceTo wsX7_distanceTo) := goodIn_app (goodIn_of _ (by decide +kernel)) ggX7_readFigure_X7_distanceTo
set_option maxRecDepth 20000 in
theorem ggX7_readFigure_X7_at : GoodIn wsX7_readFigure wsX7_at := goodIn_r _ [28] (by decide +kernel) (by decide +kernel)
set_option maxRecDepth 20000 in
theorem gX7_readFigure_X7_at : GoodIn wsX7_readFigure (va_wsS RX7 79 yX7_at wsX7_at) := goodIn_app (goodIn_of _ (by decide +kernel)) ggX7_readFigure_X7_at
theorem dX7_readFigure_0 : decode cX7_readFigure 0 = .ok (.aload_n 3, 1) := by decide +kernel
theorem dX7_readFigure_1 : decode cX7_readFigure 1 = .ok (.bipush 77, 2) := by decide +kernel
theorem dX7_readFigure_3 : decode cX7_readFigure 3 = .ok (.iaload, 1) := by decide +kernel
theorem dX7_readFigure_4 : decode cX7_readFigure 4 = .ok (.istore 5, 2) := by decide +kernel
theorem dX7_readFigure_6 : decode cX7_readFigure 6 = .ok (.aload_n 0, 1) := by decide +kernel
theorem dX7_readFigure_7 : decode cX7_readFigure 7 = .ok (.iconst (-1), 1) := by decide +kernel
theorem dX7_readFigure_8 : decode cX7_readFigure 8 = .ok (.putfield 85, 3) := by decide +kernel
theorem dX7_readFigure_11 : decode cX7_readFigure 11 = .ok (.aload_n 0, 1) := by decide +kernel
theorem dX7_readFigure_12 : decode cX7_readFigure 12 = .ok (.iconst (-1), 1) := by decide +kernel
theorem dX7_readFigure_13 : decode cX7_readFigure 13 = .ok (.putfield 88, 3) := by decide +kernel
theorem dX7_readFigure_16 : decode cX7_readFigure 16 = .ok (.iconst 0, 1) := by decide +kernel
theorem dX7_readFigure_17 : decode cX7_readFigure 17 = .ok (.istore 6, 2) := by decide +kernel
theorem dX7_readFigure_19 : decode cX7_readFigure 19 = .ok (.iload 6, 2) := by decide +kernel
theorem dX7_readFigure_21 : decode cX7_readFigure 21 = .ok (.aload_n 3, 1) := by decide +kernel
theorem dX7_readFigure_22 : decode cX7_readFigure 22 = .ok (.bipush 110, 2) := by decide +kernel
theorem dX7_readFigure_24 : decode cX7_readFigure 24 = .ok (.iaload, 1) := by decide +kernel
theorem dX7_readFigure_25 : decode cX7_readFigure 25 = .ok (.if_icmp .ge 89, 3) := by decide +kernel
theorem dX7_readFigure_28 : decode cX7_readFigure 28 = .ok (.iload 6, 2) := by decide +kernel
theorem dX7_readFigure_30 : decode cX7_readFigure 30 = .ok (.iload 4, 2) := by decide +kernel
theorem dX7_readFigure_32 : decode cX7_readFigure 32 = .ok (.if_icmp .eq 76, 3) := by decide +kernel
theorem dX7_readFigure_35 : decode cX7_readFigure 35 = .ok (.aload_n 0, 1) := by decide +kernel
theorem dX7_readFigure_36 : decode cX7_readFigure 36 = .ok (.aload_n 1, 1) := by decide +kernel
theorem dX7_readFigure_37 : decode cX7_readFigure 37 = .ok (.iload_n 2, 1) := by decide +kernel
theorem dX7_readFigure_38 : decode cX7_readFigure 38 = .ok (.aload_n 3, 1) := by decide +kernel
theorem dX7_readFigure_39 : decode cX7_readFigure 39 = .ok (.iload 6, 2) := by decide +kernel
theorem dX7_readFigure_41 : decode cX7_readFigure 41 = .ok (.iload 5, 2) := by decide +kernel
theorem dX7_readFigure_43 : decode cX7_readFigure 43 = .ok (.invokevirtual 91, 3) := by decide +kernel
theorem dX7_readFigure_46 : decode cX7_readFigure 46 = .ok (.istore 7, 2) := by decide +kernel
theorem dX7_readFigure_48 : decode cX7_readFigure 48 = .ok (.aload_n 0, 1) := by decide +kernel
theorem dX7_readFigure_49 : decode cX7_readFigure 49 = .ok (.getfield 85, 3) := by decide +kernel
theorem dX7_readFigure_52 : decode cX7_readFigure 52 = .ok (.iconst (-1), 1) := by decide +kernel
theorem dX7_readFigure_53 : decode cX7_readFigure 53 = .ok (.if_icmp .eq 12, 3) := by decide +kernel
theorem dX7_readFigure_56 : decode cX7_readFigure 56 = .ok (.iload 7, 2) := by decide +kernel
theorem dX7_readFigure_58 : decode cX7_readFigure 58 = .ok (.aload_n 0, 1) := by decide +kernel
theorem dX7_readFigure_59 : decode cX7_readFigure 59 = .ok (.getfield 88, 3) := by decide +kernel
theorem dX7_readFigure_62 : decode cX7_readFigure 62 = .ok (.if_icmp .ge 7, 3) := by decide +kernel
theorem dX7_readFigure_65 : decode cX7_readFigure 65 = .ok (.iconst 1, 1) := by decide +kernel
theorem dX7_readFigure_66 : decode cX7_readFigure 66 = .ok (.goto 4, 3) := by decide +kernel
theorem dX7_readFigure_69 : decode cX7_readFigure 69 = .ok (.iconst 0, 1) := by decide +kernel
theorem dX7_readFigure_70 : decode cX7_readFigure 70 = .ok (.istore 8, 2) := by decide +kernel
theorem dX7_readFigure_72 : decode cX7_readFigure 72 = .ok (.aload_n 0, 1) := by decide +kernel
theorem dX7_readFigure_73 : decode cX7_readFigure 73 = .ok (.iload 8, 2) := by decide +kernel
theorem dX7_readFigure_75 : decode cX7_readFigure 75 = .ok (.ifCond .eq 8, 3) := by decide +kernel
theorem dX7_readFigure_78 : decode cX7_readFigure 78 = .ok (.iload 6, 2) := by decide +kernel
theorem dX7_readFigure_80 : decode cX7_readFigure 80 = .ok (.goto 7, 3) := by decide +kernel
theorem dX7_readFigure_83 : decode cX7_readFigure 83 = .ok (.aload_n 0, 1) := by decide +kernel
theorem dX7_readFigure_84 : decode cX7_readFigure 84 = .ok (.getfield 85, 3) := by decide +kernel
theorem dX7_readFigure_87 : decode cX7_readFigure 87 = .ok (.putfield 85, 3) := by decide +kernel
theorem dX7_readFigure_90 : decode cX7_readFigure 90 = .ok (.aload_n 0, 1) := by decide +kernel
theorem dX7_readFigure_91 : decode cX7_readFigure 91 = .ok (.iload 8, 2) := by decide +kernel
theorem dX7_readFigure_93 : decode cX7_readFigure 93 = .ok (.ifCond .eq 8, 3) := by decide +kernel
theorem dX7_readFigure_96 : decode cX7_readFigure 96 = .ok (.iload 7, 2) := by decide +kernel
theorem dX7_readFigure_98 : decode cX7_readFigure 98 = .ok (.goto 7, 3) := by decide +kernel
theorem dX7_readFigure_101 : decode cX7_readFigure 101 = .ok (.aload_n 0, 1) := by decide +kernel
theorem dX7_readFigure_102 : decode cX7_readFigure 102 = .ok (.getfield 88, 3) := by decide +kernel
theorem dX7_readFigure_105 : decode cX7_readFigure 105 = .ok (.putfield 88, 3) := by decide +kernel
theorem dX7_readFigure_108 : decode cX7_readFigure 108 = .ok (.iinc 6 1, 3) := by decide +kernel
theorem dX7_readFigure_111 : decode cX7_readFigure 111 = .ok (.goto (-92), 3) := by decide +kernel
theorem dX7_readFigure_114 : decode cX7_readFigure 114 = .ok (.aload_n 0, 1) := by decide +kernel
theorem dX7_readFigure_115 : decode cX7_readFigure 115 = .ok (.aload_n 0, 1) := by decide +kernel
theorem dX7_readFigure_116 : decode cX7_readFigure 116 = .ok (.getfield 85, 3) := by decide +kernel
theorem dX7_readFigure_119 : decode cX7_readFigure 119 = .ok (.iconst (-1), 1) := by decide +kernel
theorem dX7_readFigure_120 : decode cX7_readFigure 120 = .ok (.if_icmp .eq 14, 3) := by decide +kernel
theorem dX7_readFigure_123 : decode cX7_readFigure 123 = .ok (.aload_n 0, 1) := by decide +kernel
theorem dX7_readFigure_124 : decode cX7_readFigure 124 = .ok (.getfield 88, 3) := by decide +kernel
theorem dX7_readFigure_127 : decode cX7_readFigure 127 = .ok (.aload_n 3, 1) := by decide +kernel
theorem dX7_readFigure_128 : decode cX7_readFigure 128 = .ok (.bipush 78, 2) := by decide +kernel
theorem dX7_readFigure_130 : decode cX7_readFigure 130 = .ok (.iaload, 1) := by decide +kernel
theorem dX7_readFigure_131 : decode cX7_readFigure 131 = .ok (.if_icmp .le 7, 3) := by decide +kernel
theorem dX7_readFigure_134 : decode cX7_readFigure 134 = .ok (.iconst 2, 1) := by decide +kernel
theorem dX7_readFigure_135 : decode cX7_readFigure 135 = .ok (.goto 4, 3) := by decide +kernel
theorem dX7_readFigure_138 : decode cX7_readFigure 138 = .ok (.iconst 0, 1) := by decide +kernel
theorem dX7_readFigure_139 : decode cX7_readFigure 139 = .ok (.putfield 95, 3) := by decide +kernel
theorem dX7_readFigure_142 : decode cX7_readFigure 142 = .ok (.iconst 0, 1) := by decide +kernel
theorem dX7_readFigure_143 : decode cX7_readFigure 143 = .ok (.istore 6, 2) := by decide +kernel
theorem dX7_readFigure_145 : decode cX7_readFigure 145 = .ok (.iload 6, 2) := by decide +kernel
theorem dX7_readFigure_147 : decode cX7_readFigure 147 = .ok (.aload_n 3, 1) := by decide +kernel
theorem dX7_readFigure_148 : decode cX7_readFigure 148 = .ok (.bipush 110, 2) := by decide +kernel
theorem dX7_readFigure_150 : decode cX7_readFigure 150 = .ok (.iaload, 1) := by decide +kernel
theorem dX7_readFigure_151 : decode cX7_readFigure 151 = .ok (.if_icmp .ge 88, 3) := by decide +kernel
theorem dX7_readFigure_154 : decode cX7_readFigure 154 = .ok (.aload_n 0, 1) := by decide +kernel
theorem dX7_readFigure_155 : decode cX7_readFigure 155 = .ok (.getfield 95, 3) := by decide +kernel
theorem dX7_readFigure_158 : decode cX7_readFigure 158 = .ok (.ifCond .ne 81, 3) := by decide +kernel
theorem dX7_readFigure_161 : decode cX7_readFigure 161 = .ok (.iload 6, 2) := by decide +kernel
theorem dX7_readFigure_163 : decode cX7_readFigure 163 = .ok (.iload 4, 2) := by decide +kernel
theorem dX7_readFigure_165 : decode cX7_readFigure 165 = .ok (.if_icmp .eq 32, 3) := by decide +kernel
theorem dX7_readFigure_168 : decode cX7_readFigure 168 = .ok (.aload_n 3, 1) := by decide +kernel
theorem dX7_readFigure_169 : decode cX7_readFigure 169 = .ok (.iload 6, 2) := by decide +kernel
theorem dX7_readFigure_171 : decode cX7_readFigure 171 = .ok (.invokestatic 79, 3) := by decide +kernel
theorem dX7_readFigure_174 : decode cX7_readFigure 174 = .ok (.bipush 76, 2) := by decide +kernel
theorem dX7_readFigure_176 : decode cX7_readFigure 176 = .ok (.iadd, 1) := by decide +kernel
theorem dX7_readFigure_177 : decode cX7_readFigure 177 = .ok (.iaload, 1) := by decide +kernel
theorem dX7_readFigure_178 : decode cX7_readFigure 178 = .ok (.aload_n 3, 1) := by decide +kernel
theorem dX7_readFigure_179 : decode cX7_readFigure 179 = .ok (.aload_n 0, 1) := by decide +kernel
theorem dX7_readFigure_180 : decode cX7_readFigure 180 = .ok (.getfield 85, 3) := by decide +kernel
theorem dX7_readFigure_183 : decode cX7_readFigure 183 = .ok (.invokestatic 79, 3) := by decide +kernel
theorem dX7_readFigure_186 : decode cX7_readFigure 186 = .ok (.bipush 76, 2) := by decide +kernel
theorem dX7_readFigure_188 : decode cX7_readFigure 188 = .ok (.iadd, 1) := by decide +kernel
theorem dX7_readFigure_189 : decode cX7_readFigure 189 = .ok (.iaload, 1) := by decide +kernel
theorem dX7_readFigure_190 : decode cX7_readFigure 190 = .ok (.if_icmp .eq 7, 3) := by decide +kernel
theorem dX7_readFigure_193 : decode cX7_readFigure 193 = .ok (.iconst 1, 1) := by decide +kernel
theorem dX7_readFigure_194 : decode cX7_readFigure 194 = .ok (.goto 4, 3) := by decide +kernel
theorem dX7_readFigure_197 : decode cX7_readFigure 197 = .ok (.iconst 0, 1) := by decide +kernel
theorem dX7_readFigure_198 : decode cX7_readFigure 198 = .ok (.istore 7, 2) := by decide +kernel
theorem dX7_readFigure_200 : decode cX7_readFigure 200 = .ok (.iload 7, 2) := by decide +kernel
theorem dX7_readFigure_202 : decode cX7_readFigure 202 = .ok (.ifCond .eq 31, 3) := by decide +kernel
theorem dX7_readFigure_205 : decode cX7_readFigure 205 = .ok (.aload_n 0, 1) := by decide +kernel
theorem dX7_readFigure_206 : decode cX7_readFigure 206 = .ok (.aload_n 1, 1) := by decide +kernel
theorem dX7_readFigure_207 : decode cX7_readFigure 207 = .ok (.iload_n 2, 1) := by decide +kernel
theorem dX7_readFigure_208 : decode cX7_readFigure 208 = .ok (.aload_n 3, 1) := by decide +kernel
theorem dX7_readFigure_209 : decode cX7_readFigure 209 = .ok (.iload 6, 2) := by decide +kernel
theorem dX7_readFigure_211 : decode cX7_readFigure 211 = .ok (.iload 5, 2) := by decide +kernel
theorem dX7_readFigure_213 : decode cX7_readFigure 213 = .ok (.invokevirtual 91, 3) := by decide +kernel
theorem dX7_readFigure_216 : decode cX7_readFigure 216 = .ok (.aload_n 0, 1) := by decide +kernel
theorem dX7_readFigure_217 : decode cX7_readFigure 217 = .ok (.getfield 88, 3) := by decide +kernel
theorem dX7_readFigure_220 : decode cX7_readFigure 220 = .ok (.aload_n 3, 1) := by decide +kernel
theorem dX7_readFigure_221 : decode cX7_readFigure 221 = .ok (.bipush 79, 2) := by decide +kernel
theorem dX7_readFigure_223 : decode cX7_readFigure 223 = .ok (.iaload, 1) := by decide +kernel
theorem dX7_readFigure_224 : decode cX7_readFigure 224 = .ok (.iadd, 1) := by decide +kernel
theorem dX7_readFigure_225 : decode cX7_readFigure 225 = .ok (.if_icmp .ge 8, 3) := by decide +kernel
theorem dX7_readFigure_228 : decode cX7_readFigure 228 = .ok (.aload_n 0, 1) := by decide +kernel
theorem dX7_readFigure_229 : decode cX7_readFigure 229 = .ok (.iconst 1, 1) := by decide +kernel
theorem dX7_readFigure_230 : decode cX7_readFigure 230 = .ok (.putfield 95, 3) := by decide +kernel
theorem dX7_readFigure_233 : decode cX7_readFigure 233 = .ok (.iinc 6 1, 3) := by decide +kernel
theorem dX7_readFigure_236 : decode cX7_readFigure 236 = .ok (.goto (-91), 3) := by decide +kernel
theorem dX7_readFigure_239 : decode cX7_readFigure 239 = .ok (.return_, 1) := by decide +kernel
set_option maxRecDepth 20000 in
theorem ggX7_nameOf_X7_at : GoodIn wsX7_nameOf wsX7_at := goodIn_r _ [4] (by decide +kernel) (by decide +kernel)
set_option maxRecDepth 20000 in
theorem gX7_nameOf_X7_at : GoodIn wsX7_nameOf (va_wsS RX7 79 yX7_at wsX7_at) := goodIn_app (goodIn_of _ (by decide +kernel)) ggX7_nameOf_X7_at
theorem dX7_nameOf_0 : decode cX7_nameOf 0 = .ok (.aload_n 0, 1) := by decide +kernel
theorem dX7_nameOf_1 : decode cX7_nameOf 1 = .ok (.iload_n 1, 1) := by decide +kernel
theorem dX7_nameOf_2 : decode cX7_nameOf 2 = .ok (.invokestatic 79, 3) := by decide +kernel
theorem dX7_nameOf_5 : decode cX7_nameOf 5 = .ok (.bipush 76, 2) := by decide +kernel
theorem dX7_nameOf_7 : decode cX7_nameOf 7 = .ok (.iadd, 1) := by decide +kernel
theorem dX7_nameOf_8 : decode cX7_nameOf 8 = .ok (.iaload, 1) := by decide +kernel
theorem dX7_nameOf_9 : decode cX7_nameOf 9 = .ok (.ireturn, 1) := by decide +kernel
set_option maxRecDepth 20000 in
theorem ggX7_append_X7_in : GoodIn wsX7_append wsX7_in := goodIn_r _ [7] (by decide +kernel) (by decide +kernel)
set_option maxRecDepth 20000 in
theorem gX7_append_X7_in : GoodIn wsX7_append (va_wsS RX7 45 yX7_in wsX7_in) := goodIn_app (goodIn_of _ (by decide +kernel)) ggX7_append_X7_in
set_option maxRecDepth 20000 in
theorem ggX7_append_X7_refused : GoodIn wsX7_append wsX7_refused := goodIn_r _ [11, 12, 13, 14, 15, 16, 17, 18, 19, 20, 21, 22, 23, 24, 25, 26, 27, 28, 29, 30, 31] (by decide +kernel) (by decide +kernel)
set_option maxRecDepth 20000 in
theorem gX7_append_X7_refused : GoodIn wsX7_append (wsV RX7 102 RX7 yX7_refused wsX7_refused) := goodIn_app (goodIn_of _ (by decide +kernel)) ggX7_append_X7_refused
theorem dX7_append_0 : decode cX7_append 0 = .ok (.aload_n 0, 1) := by decide +kernel
theorem dX7_append_1 : decode cX7_append 1 = .ok (.iload_n 1, 1) := by decide +kernel
theorem dX7_append_2 : decode cX7_append 2 = .ok (.i2l, 1) := by decide +kernel
theorem dX7_append_3 : decode cX7_append 3 = .ok (.lconst 0, 1) := by decide +kernel
theorem dX7_append_4 : decode cX7_append 4 = .ok (.ldc2_w 98, 3) := by decide +kernel
theorem dX7_append_7 : decode cX7_append 7 = .ok (.invokestatic 45, 3) := by decide +kernel
theorem dX7_append_10 : decode cX7_append 10 = .ok (.ifCond .ne 7, 3) := by decide +kernel
theorem dX7_append_13 : decode cX7_append 13 = .ok (.iconst 1, 1) := by decide +kernel
theorem dX7_append_14 : decode cX7_append 14 = .ok (.goto 17, 3) := by decide +kernel
theorem dX7_append_17 : decode cX7_append 17 = .ok (.aload_n 0, 1) := by decide +kernel
theorem dX7_append_18 : decode cX7_append 18 = .ok (.getfield 100, 3) := by decide +kernel
theorem dX7_append_21 : decode cX7_append 21 = .ok (.bipush 100, 2) := by decide +kernel
theorem dX7_append_23 : decode cX7_append 23 = .ok (.if_icmp .ne 7, 3) := by decide +kernel
theorem dX7_append_26 : decode cX7_append 26 = .ok (.iconst 2, 1) := by decide +kernel
theorem dX7_append_27 : decode cX7_append 27 = .ok (.goto 4, 3) := by decide +kernel
theorem dX7_append_30 : decode cX7_append 30 = .ok (.iconst 0, 1) := by decide +kernel
theorem dX7_append_31 : decode cX7_append 31 = .ok (.invokevirtual 102, 3) := by decide +kernel
theorem dX7_append_34 : decode cX7_append 34 = .ok (.ifCond .eq 5, 3) := by decide +kernel
theorem dX7_append_37 : decode cX7_append 37 = .ok (.iconst 0, 1) := by decide +kernel
theorem dX7_append_38 : decode cX7_append 38 = .ok (.ireturn, 1) := by decide +kernel
theorem dX7_append_39 : decode cX7_append 39 = .ok (.aload_n 0, 1) := by decide +kernel
theorem dX7_append_40 : decode cX7_append 40 = .ok (.getfield 7, 3) := by decide +kernel
theorem dX7_append_43 : decode cX7_append 43 = .ok (.aload_n 0, 1) := by decide +kernel
theorem dX7_append_44 : decode cX7_append 44 = .ok (.getfield 100, 3) := by decide +kernel
theorem dX7_append_47 : decode cX7_append 47 = .ok (.iload_n 1, 1) := by decide +kernel
theorem dX7_append_48 : decode cX7_append 48 = .ok (.iastore, 1) := by decide +kernel
theorem dX7_append_49 : decode cX7_append 49 = .ok (.aload_n 0, 1) := by decide +kernel
theorem dX7_append_50 : decode cX7_append 50 = .ok (.dup, 1) := by decide +kernel
theorem dX7_append_51 : decode cX7_append 51 = .ok (.getfield 100, 3) := by decide +kernel
theorem dX7_append_54 : decode cX7_append 54 = .ok (.iconst 1, 1) := by decide +kernel
theorem dX7_append_55 : decode cX7_append 55 = .ok (.iadd, 1) := by decide +kernel
theorem dX7_append_56 : decode cX7_append 56 = .ok (.putfield 100, 3) := by decide +kernel
theorem dX7_append_59 : decode cX7_append 59 = .ok (.aload_n 0, 1) := by decide +kernel
theorem dX7_append_60 : decode cX7_append 60 = .ok (.getfield 100, 3) := by decide +kernel
theorem dX7_append_63 : decode cX7_append 63 = .ok (.ireturn, 1) := by decide +kernel
theorem dX7_clearText_0 : decode cX7_clearText 0 = .ok (.aload_n 0, 1) := by decide +kernel
theorem dX7_clearText_1 : decode cX7_clearText 1 = .ok (.iconst 0, 1) := by decide +kernel
theorem dX7_clearText_2 : decode cX7_clearText 2 = .ok (.putfield 41, 3) := by decide +kernel
theorem dX7_clearText_5 : decode cX7_clearText 5 = .ok (.aload_n 0, 1) := by decide +kernel
theorem dX7_clearText_6 : decode cX7_clearText 6 = .ok (.getfield 100, 3) := by decide +kernel
theorem dX7_clearText_9 : decode cX7_clearText 9 = .ok (.istore_n 1, 1) := by decide +kernel
theorem dX7_clearText_10 : decode cX7_clearText 10 = .ok (.aload_n 0, 1) := by decide +kernel
theorem dX7_clearText_11 : decode cX7_clearText 11 = .ok (.iconst 0, 1) := by decide +kernel
theorem dX7_clearText_12 : decode cX7_clearText 12 = .ok (.putfield 100, 3) := by decide +kernel
theorem dX7_clearText_15 : decode cX7_clearText 15 = .ok (.iload_n 1, 1) := by decide +kernel
theorem dX7_clearText_16 : decode cX7_clearText 16 = .ok (.ireturn, 1) := by decide +kernel
theorem dX7_here_0 : decode cX7_here 0 = .ok (.aload_n 0, 1) := by decide +kernel
theorem dX7_here_1 : decode cX7_here 1 = .ok (.getfield 106, 3) := by decide +kernel
theorem dX7_here_4 : decode cX7_here 4 = .ok (.aload_n 0, 1) := by decide +kernel
theorem dX7_here_5 : decode cX7_here 5 = .ok (.getfield 100, 3) := by decide +kernel
theorem dX7_here_8 : decode cX7_here 8 = .ok (.if_icmp .ge 15, 3) := by decide +kernel
theorem dX7_here_11 : decode cX7_here 11 = .ok (.aload_n 0, 1) := by decide +kernel
theorem dX7_here_12 : decode cX7_here 12 = .ok (.getfield 7, 3) := by decide +kernel
theorem dX7_here_15 : decode cX7_here 15 = .ok (.aload_n 0, 1) := by decide +kernel
theorem dX7_here_16 : decode cX7_here 16 = .ok (.getfield 106, 3) := by decide +kernel
theorem dX7_here_19 : decode cX7_here 19 = .ok (.iaload, 1) := by decide +kernel
theorem dX7_here_20 : decode cX7_here 20 = .ok (.goto 4, 3) := by decide +kernel
theorem dX7_here_23 : decode cX7_here 23 = .ok (.iconst (-1), 1) := by decide +kernel
theorem dX7_here_24 : decode cX7_here 24 = .ok (.ireturn, 1) := by decide +kernel
set_option maxRecDepth 20000 in
theorem ggX7_number_X7_here : GoodIn wsX7_number wsX7_here := goodIn_r _ [8, 3, 9, 10, 14, 15, 16, 17, 18, 19, 20, 21, 22, 23, 24, 25, 26, 27, 28, 29, 30, 31, 32] (by decide +kernel) (by decide +kernel)
set_option maxRecDepth 20000 in
theorem gX7_number_X7_here : GoodIn wsX7_number (wsV RX7 109 RX7 yX7_here wsX7_here) := goodIn_app (goodIn_of _ (by decide +kernel)) ggX7_number_X7_here
set_option maxRecDepth 20000 in
theorem ggX7_number_X7_in : GoodIn wsX7_number wsX7_in := goodIn_r _ [13] (by decide +kernel) (by decide +kernel)
set_option maxRecDepth 20000 in
theorem gX7_number_X7_in : GoodIn wsX7_number (va_wsS RX7 45 yX7_in wsX7_in) := goodIn_app (goodIn_of _ (by decide +kernel)) ggX7_number_X7_in
theorem dX7_number_0 : decode cX7_number 0 = .ok (.aload_n 0, 1) := by decide +kernel
theorem dX7_number_1 : decode cX7_number 1 = .ok (.invokevirtual 109, 3) := by decide +kernel
theorem dX7_number_4 : decode cX7_number 4 = .ok (.i2l, 1) := by decide +kernel
theorem dX7_number_5 : decode cX7_number 5 = .ok (.ldc2_w 113, 3) := by decide +kernel
theorem dX7_number_8 : decode cX7_number 8 = .ok (.ldc2_w 115, 3) := by decide +kernel
theorem dX7_number_11 : decode cX7_number 11 = .ok (.invokestatic 45, 3) := by decide +kernel
theorem dX7_number_14 : decode cX7_number 14 = .ok (.ifCond .ne 5, 3) := by decide +kernel
theorem dX7_number_17 : decode cX7_number 17 = .ok (.iconst (-1), 1) := by decide +kernel
theorem dX7_number_18 : decode cX7_number 18 = .ok (.ireturn, 1) := by decide +kernel
theorem dX7_number_19 : decode cX7_number 19 = .ok (.aload_n 0, 1) := by decide +kernel
theorem dX7_number_20 : decode cX7_number 20 = .ok (.invokevirtual 109, 3) := by decide +kernel
theorem dX7_number_23 : decode cX7_number 23 = .ok (.bipush 48, 2) := by decide +kernel
theorem dX7_number_25 : decode cX7_number 25 = .ok (.isub, 1) := by decide +kernel
theorem dX7_number_26 : decode cX7_number 26 = .ok (.istore_n 1, 1) := by decide +kernel
theorem dX7_number_27 : decode cX7_number 27 = .ok (.aload_n 0, 1) := by decide +kernel
theorem dX7_number_28 : decode cX7_number 28 = .ok (.dup, 1) := by decide +kernel
theorem dX7_number_29 : decode cX7_number 29 = .ok (.getfield 106, 3) := by decide +kernel
theorem dX7_number_32 : decode cX7_number 32 = .ok (.iconst 1, 1) := by decide +kernel
theorem dX7_number_33 : decode cX7_number 33 = .ok (.iadd, 1) := by decide +kernel
theorem dX7_number_34 : decode cX7_number 34 = .ok (.putfield 106, 3) := by decide +kernel
theorem dX7_number_37 : decode cX7_number 37 = .ok (.iload_n 1, 1) := by decide +kernel
theorem dX7_number_38 : decode cX7_number 38 = .ok (.ifCond .le 60, 3) := by decide +kernel
theorem dX7_number_41 : decode cX7_number 41 = .ok (.aload_n 0, 1) := by decide +kernel
theorem dX7_number_42 : decode cX7_number 42 = .ok (.invokevirtual 109, 3) := by decide +kernel
theorem dX7_number_45 : decode cX7_number 45 = .ok (.i2l, 1) := by decide +kernel
theorem dX7_number_46 : decode cX7_number 46 = .ok (.ldc2_w 113, 3) := by decide +kernel
theorem dX7_number_49 : decode cX7_number 49 = .ok (.ldc2_w 115, 3) := by decide +kernel
theorem dX7_number_52 : decode cX7_number 52 = .ok (.invokestatic 45, 3) := by decide +kernel
theorem dX7_number_55 : decode cX7_number 55 = .ok (.ifCond .eq 43, 3) := by decide +kernel
theorem dX7_number_58 : decode cX7_number 58 = .ok (.bipush 10, 2) := by decide +kernel
theorem dX7_number_60 : decode cX7_number 60 = .ok (.iload_n 1, 1) := by decide +kernel
theorem dX7_number_61 : decode cX7_number 61 = .ok (.imul, 1) := by decide +kernel
theorem dX7_number_62 : decode cX7_number 62 = .ok (.aload_n 0, 1) := by decide +kernel
theorem dX7_number_63 : decode cX7_number 63 = .ok (.invokevirtual 109, 3) := by decide +kernel
theorem dX7_number_66 : decode cX7_number 66 = .ok (.iadd, 1) := by decide +kernel
theorem dX7_number_67 : decode cX7_number 67 = .ok (.bipush 48, 2) := by decide +kernel
theorem dX7_number_69 : decode cX7_number 69 = .ok (.isub, 1) := by decide +kernel
theorem dX7_number_70 : decode cX7_number 70 = .ok (.bipush 60, 2) := by decide +kernel
theorem dX7_number_72 : decode cX7_number 72 = .ok (.if_icmp .gt 26, 3) := by decide +kernel
theorem dX7_number_75 : decode cX7_number 75 = .ok (.bipush 10, 2) := by decide +kernel
theorem dX7_number_77 : decode cX7_number 77 = .ok (.iload_n 1, 1) := by decide +kernel
theorem dX7_number_78 : decode cX7_number 78 = .ok (.imul, 1) := by decide +kernel
theorem dX7_number_79 : decode cX7_number 79 = .ok (.aload_n 0, 1) := by decide +kernel
theorem dX7_number_80 : decode cX7_number 80 = .ok (.invokevirtual 109, 3) := by decide +kernel
theorem dX7_number_83 : decode cX7_number 83 = .ok (.iadd, 1) := by decide +kernel
theorem dX7_number_84 : decode cX7_number 84 = .ok (.bipush 48, 2) := by decide +kernel
theorem dX7_number_86 : decode cX7_number 86 = .ok (.isub, 1) := by decide +kernel
theorem dX7_number_87 : decode cX7_number 87 = .ok (.istore_n 1, 1) := by decide +kernel
theorem dX7_number_88 : decode cX7_number 88 = .ok (.aload_n 0, 1) := by decide +kernel
theorem dX7_number_89 : decode cX7_number 89 = .ok (.dup, 1) := by decide +kernel
theorem dX7_number_90 : decode cX7_number 90 = .ok (.getfield 106, 3) := by decide +kernel
theorem dX7_number_93 : decode cX7_number 93 = .ok (.iconst 1, 1) := by decide +kernel
theorem dX7_number_94 : decode cX7_number 94 = .ok (.iadd, 1) := by decide +kernel
theorem dX7_number_95 : decode cX7_number 95 = .ok (.putfield 106, 3) := by decide +kernel
theorem dX7_number_98 : decode cX7_number 98 = .ok (.iload_n 1, 1) := by decide +kernel
theorem dX7_number_99 : decode cX7_number 99 = .ok (.ireturn, 1) := by decide +kernel
set_option maxRecDepth 20000 in
theorem ggX7_readPoint_X7_number : GoodIn wsX7_readPoint wsX7_number := goodIn_r _ [7, 8, 9, 1, 10, 11, 12, 6, 13, 14, 15, 16, 17, 18, 19, 20, 21, 22, 23, 24, 25, 26, 27, 28, 29, 30, 31, 32, 33, 34, 35, 36, 37] (by decide +kernel) (by decide +kernel)
set_option maxRecDepth 20000 in
theorem gX7_readPoint_X7_number : GoodIn wsX7_readPoint (wsV RX7 117 RX7 yX7_number wsX7_number) := goodIn_app (goodIn_of _ (by decide +kernel)) ggX7_readPoint_X7_number
set_option maxRecDepth 20000 in
theorem ggX7_readPoint_X7_here : GoodIn wsX7_readPoint wsX7_here := goodIn_r _ [13, 1, 14, 15, 19, 20, 21, 22, 23, 24, 25, 26, 27, 28, 29, 30, 31, 32, 33, 34, 35, 36, 37] (by decide +kernel) (by decide +kernel)
set_option maxRecDepth 20000 in
theorem gX7_readPoint_X7_here : GoodIn wsX7_readPoint (wsV RX7 109 RX7 yX7_here wsX7_here) := goodIn_app (goodIn_of _ (by decide +kernel)) ggX7_readPoint_X7_here
theorem dX7_readPoint_0 : decode cX7_readPoint 0 = .ok (.aload_n 0, 1) := by decide +kernel
theorem dX7_readPoint_1 : decode cX7_readPoint 1 = .ok (.invokevirtual 117, 3) := by decide +kernel
theorem dX7_readPoint_4 : decode cX7_readPoint 4 = .ok (.istore_n 1, 1) := by decide +kernel
theorem dX7_readPoint_5 : decode cX7_readPoint 5 = .ok (.iload_n 1, 1) := by decide +kernel
theorem dX7_readPoint_6 : decode cX7_readPoint 6 = .ok (.iconst (-1), 1) := by decide +kernel
theorem dX7_readPoint_7 : decode cX7_readPoint 7 = .ok (.if_icmp .eq 12, 3) := by decide +kernel
theorem dX7_readPoint_10 : decode cX7_readPoint 10 = .ok (.aload_n 0, 1) := by decide +kernel
theorem dX7_readPoint_11 : decode cX7_readPoint 11 = .ok (.invokevirtual 109, 3) := by decide +kernel
theorem dX7_readPoint_14 : decode cX7_readPoint 14 = .ok (.bipush 44, 2) := by decide +kernel
theorem dX7_readPoint_16 : decode cX7_readPoint 16 = .ok (.if_icmp .eq 5, 3) := by decide +kernel
theorem dX7_readPoint_19 : decode cX7_readPoint 19 = .ok (.iconst 0, 1) := by decide +kernel
theorem dX7_readPoint_20 : decode cX7_readPoint 20 = .ok (.ireturn, 1) := by decide +kernel
theorem dX7_readPoint_21 : decode cX7_readPoint 21 = .ok (.aload_n 0, 1) := by decide +kernel
theorem dX7_readPoint_22 : decode cX7_readPoint 22 = .ok (.dup, 1) := by decide +kernel
theorem dX7_readPoint_23 : decode cX7_readPoint 23 = .ok (.getfield 106, 3) := by decide +kernel
theorem dX7_readPoint_26 : decode cX7_readPoint 26 = .ok (.iconst 1, 1) := by decide +kernel
theorem dX7_readPoint_27 : decode cX7_readPoint 27 = .ok (.iadd, 1) := by decide +kernel
theorem dX7_readPoint_28 : decode cX7_readPoint 28 = .ok (.putfield 106, 3) := by decide +kernel
theorem dX7_readPoint_31 : decode cX7_readPoint 31 = .ok (.aload_n 0, 1) := by decide +kernel
theorem dX7_readPoint_32 : decode cX7_readPoint 32 = .ok (.invokevirtual 117, 3) := by decide +kernel
theorem dX7_readPoint_35 : decode cX7_readPoint 35 = .ok (.istore_n 2, 1) := by decide +kernel
theorem dX7_readPoint_36 : decode cX7_readPoint 36 = .ok (.iload_n 2, 1) := by decide +kernel
theorem dX7_readPoint_37 : decode cX7_readPoint 37 = .ok (.iconst (-1), 1) := by decide +kernel
theorem dX7_readPoint_38 : decode cX7_readPoint 38 = .ok (.if_icmp .ne 5, 3) := by decide +kernel
theorem dX7_readPoint_41 : decode cX7_readPoint 41 = .ok (.iconst 0, 1) := by decide +kernel
theorem dX7_readPoint_42 : decode cX7_readPoint 42 = .ok (.ireturn, 1) := by decide +kernel
theorem dX7_readPoint_43 : decode cX7_readPoint 43 = .ok (.aload_n 0, 1) := by decide +kernel
theorem dX7_readPoint_44 : decode cX7_readPoint 44 = .ok (.getfield 29, 3) := by decide +kernel
theorem dX7_readPoint_47 : decode cX7_readPoint 47 = .ok (.iconst 0, 1) := by decide +kernel
theorem dX7_readPoint_48 : decode cX7_readPoint 48 = .ok (.iaload, 1) := by decide +kernel
theorem dX7_readPoint_49 : decode cX7_readPoint 49 = .ok (.iconst 1, 1) := by decide +kernel
theorem dX7_readPoint_50 : decode cX7_readPoint 50 = .ok (.isub, 1) := by decide +kernel
theorem dX7_readPoint_51 : decode cX7_readPoint 51 = .ok (.istore_n 3, 1) := by decide +kernel
theorem dX7_readPoint_52 : decode cX7_readPoint 52 = .ok (.iconst 4, 1) := by decide +kernel
theorem dX7_readPoint_53 : decode cX7_readPoint 53 = .ok (.bipush 24, 2) := by decide +kernel
theorem dX7_readPoint_55 : decode cX7_readPoint 55 = .ok (.iload_n 3, 1) := by decide +kernel
theorem dX7_readPoint_56 : decode cX7_readPoint 56 = .ok (.imul, 1) := by decide +kernel
theorem dX7_readPoint_57 : decode cX7_readPoint 57 = .ok (.iadd, 1) := by decide +kernel
theorem dX7_readPoint_58 : decode cX7_readPoint 58 = .ok (.iconst 2, 1) := by decide +kernel
theorem dX7_readPoint_59 : decode cX7_readPoint 59 = .ok (.aload_n 0, 1) := by decide +kernel
theorem dX7_readPoint_60 : decode cX7_readPoint 60 = .ok (.getfield 29, 3) := by decide +kernel
theorem dX7_readPoint_63 : decode cX7_readPoint 63 = .ok (.iconst 1, 1) := by decide +kernel
theorem dX7_readPoint_64 : decode cX7_readPoint 64 = .ok (.iload_n 3, 1) := by decide +kernel
theorem dX7_readPoint_65 : decode cX7_readPoint 65 = .ok (.iadd, 1) := by decide +kernel
theorem dX7_readPoint_66 : decode cX7_readPoint 66 = .ok (.iaload, 1) := by decide +kernel
theorem dX7_readPoint_67 : decode cX7_readPoint 67 = .ok (.imul, 1) := by decide +kernel
theorem dX7_readPoint_68 : decode cX7_readPoint 68 = .ok (.iadd, 1) := by decide +kernel
theorem dX7_readPoint_69 : decode cX7_readPoint 69 = .ok (.istore 4, 2) := by decide +kernel
theorem dX7_readPoint_71 : decode cX7_readPoint 71 = .ok (.aload_n 0, 1) := by decide +kernel
theorem dX7_readPoint_72 : decode cX7_readPoint 72 = .ok (.getfield 29, 3) := by decide +kernel
theorem dX7_readPoint_75 : decode cX7_readPoint 75 = .ok (.iload 4, 2) := by decide +kernel
theorem dX7_readPoint_77 : decode cX7_readPoint 77 = .ok (.iload_n 1, 1) := by decide +kernel
theorem dX7_readPoint_78 : decode cX7_readPoint 78 = .ok (.iastore, 1) := by decide +kernel
theorem dX7_readPoint_79 : decode cX7_readPoint 79 = .ok (.aload_n 0, 1) := by decide +kernel
theorem dX7_readPoint_80 : decode cX7_readPoint 80 = .ok (.getfield 29, 3) := by decide +kernel
theorem dX7_readPoint_83 : decode cX7_readPoint 83 = .ok (.iload 4, 2) := by decide +kernel
theorem dX7_readPoint_85 : decode cX7_readPoint 85 = .ok (.iconst 1, 1) := by decide +kernel
theorem dX7_readPoint_86 : decode cX7_readPoint 86 = .ok (.iadd, 1) := by decide +kernel
theorem dX7_readPoint_87 : decode cX7_readPoint 87 = .ok (.iload_n 2, 1) := by decide +kernel
theorem dX7_readPoint_88 : decode cX7_readPoint 88 = .ok (.iastore, 1) := by decide +kernel
theorem dX7_readPoint_89 : decode cX7_readPoint 89 = .ok (.aload_n 0, 1) := by decide +kernel
theorem dX7_readPoint_90 : decode cX7_readPoint 90 = .ok (.getfield 29, 3) := by decide +kernel
theorem dX7_readPoint_93 : decode cX7_readPoint 93 = .ok (.iconst 1, 1) := by decide +kernel
theorem dX7_readPoint_94 : decode cX7_readPoint 94 = .ok (.iload_n 3, 1) := by decide +kernel
theorem dX7_readPoint_95 : decode cX7_readPoint 95 = .ok (.iadd, 1) := by decide +kernel
theorem dX7_readPoint_96 : decode cX7_readPoint 96 = .ok (.dup2, 1) := by decide +kernel
theorem dX7_readPoint_97 : decode cX7_readPoint 97 = .ok (.iaload, 1) := by decide +kernel
theorem dX7_readPoint_98 : decode cX7_readPoint 98 = .ok (.iconst 1, 1) := by decide +kernel
theorem dX7_readPoint_99 : decode cX7_readPoint 99 = .ok (.iadd, 1) := by decide +kernel
theorem dX7_readPoint_100 : decode cX7_readPoint 100 = .ok (.iastore, 1) := by decide +kernel
theorem dX7_readPoint_101 : decode cX7_readPoint 101 = .ok (.iconst 1, 1) := by decide +kernel
theorem dX7_readPoint_102 : decode cX7_readPoint 102 = .ok (.ireturn, 1) := by decide +kernel
set_option maxRecDepth 20000 in
theorem ggX7_readText_X7_clearFigure : GoodIn wsX7_readText wsX7_clearFigure := goodIn_r _ [7] (by decide +kernel) (by decide +kernel)
set_option maxRecDepth 20000 in
theorem gX7_readText_X7_clearFigure : GoodIn wsX7_readText (va_wsS RX7 120 yX7_clearFigure wsX7_clearFigure) := goodIn_app (goodIn_of _ (by decide +kernel)) ggX7_readText_X7_clearFigure
set_option maxRecDepth 20000 in
theorem ggX7_readText_X7_readPoint : GoodIn wsX7_readText wsX7_readPoint := goodIn_r _ [11, 2, 1, 12, 13, 14, 6, 15, 16, 17, 18, 19, 20, 21, 3, 22, 23, 24, 25, 26, 27, 28, 29, 30, 31, 32, 33, 34, 35, 36, 37, 38, 39, 40, 41, 42, 43, 44] (by decide +kernel) (by decide +kernel)
set_option maxRecDepth 20000 in
theorem gX7_readText_X7_readPoint : GoodIn wsX7_readText (wsV RX7 124 RX7 yX7_readPoint wsX7_readPoint) := goodIn_app (goodIn_of _ (by decide +kernel)) ggX7_readText_X7_readPoint
set_option maxRecDepth 20000 in
theorem ggX7_readText_X7_here : GoodIn wsX7_readText wsX7_here := goodIn_r _ [21, 2, 3, 22, 26, 27, 28, 29, 30, 31, 32, 33, 34, 35, 36, 37, 38, 39, 40, 41, 42, 43, 44] (by decide +kernel) (by decide +kernel)
set_option maxRecDepth 20000 in
theorem gX7_readText_X7_here : GoodIn wsX7_readText (wsV RX7 109 RX7 yX7_here wsX7_here) := goodIn_app (goodIn_of _ (by decide +kernel)) ggX7_readText_X7_here
theorem dX7_readText_0 : decode cX7_readText 0 = .ok (.aload_n 0, 1) := by decide +kernel
theorem dX7_readText_1 : decode cX7_readText 1 = .ok (.getfield 29, 3) := by decide +kernel
theorem dX7_readText_4 : decode cX7_readText 4 = .ok (.iconst 0, 1) := by decide +kernel
theorem dX7_readText_5 : decode cX7_readText 5 = .ok (.invokestatic 120, 3) := by decide +kernel
theorem dX7_readText_8 : decode cX7_readText 8 = .ok (.aload_n 0, 1) := by decide +kernel
theorem dX7_readText_9 : decode cX7_readText 9 = .ok (.iconst 0, 1) := by decide +kernel
theorem dX7_readText_10 : decode cX7_readText 10 = .ok (.putfield 106, 3) := by decide +kernel
theorem dX7_readText_13 : decode cX7_readText 13 = .ok (.aload_n 0, 1) := by decide +kernel
theorem dX7_readText_14 : decode cX7_readText 14 = .ok (.getfield 29, 3) := by decide +kernel
theorem dX7_readText_17 : decode cX7_readText 17 = .ok (.iconst 0, 1) := by decide +kernel
theorem dX7_readText_18 : decode cX7_readText 18 = .ok (.iconst 1, 1) := by decide +kernel
theorem dX7_readText_19 : decode cX7_readText 19 = .ok (.iastore, 1) := by decide +kernel
theorem dX7_readText_20 : decode cX7_readText 20 = .ok (.iconst 1, 1) := by decide +kernel
theorem dX7_readText_21 : decode cX7_readText 21 = .ok (.istore_n 1, 1) := by decide +kernel
theorem dX7_readText_22 : decode cX7_readText 22 = .ok (.iload_n 1, 1) := by decide +kernel
theorem dX7_readText_23 : decode cX7_readText 23 = .ok (.ifCond .eq 128, 3) := by decide +kernel
theorem dX7_readText_26 : decode cX7_readText 26 = .ok (.aload_n 0, 1) := by decide +kernel
theorem dX7_readText_27 : decode cX7_readText 27 = .ok (.invokevirtual 124, 3) := by decide +kernel
theorem dX7_readText_30 : decode cX7_readText 30 = .ok (.ifCond .ne 8, 3) := by decide +kernel
theorem dX7_readText_33 : decode cX7_readText 33 = .ok (.aload_n 0, 1) := by decide +kernel
theorem dX7_readText_34 : decode cX7_readText 34 = .ok (.getfield 106, 3) := by decide +kernel
theorem dX7_readText_37 : decode cX7_readText 37 = .ok (.ireturn, 1) := by decide +kernel
theorem dX7_readText_38 : decode cX7_readText 38 = .ok (.aload_n 0, 1) := by decide +kernel
theorem dX7_readText_39 : decode cX7_readText 39 = .ok (.invokevirtual 109, 3) := by decide +kernel
theorem dX7_readText_42 : decode cX7_readText 42 = .ok (.bipush 45, 2) := by decide +kernel
theorem dX7_readText_44 : decode cX7_readText 44 = .ok (.if_icmp .ne 27, 3) := by decide +kernel
theorem dX7_readText_47 : decode cX7_readText 47 = .ok (.aload_n 0, 1) := by decide +kernel
theorem dX7_readText_48 : decode cX7_readText 48 = .ok (.getfield 29, 3) := by decide +kernel
theorem dX7_readText_51 : decode cX7_readText 51 = .ok (.iconst 1, 1) := by decide +kernel
theorem dX7_readText_52 : decode cX7_readText 52 = .ok (.aload_n 0, 1) := by decide +kernel
theorem dX7_readText_53 : decode cX7_readText 53 = .ok (.getfield 29, 3) := by decide +kernel
theorem dX7_readText_56 : decode cX7_readText 56 = .ok (.iconst 0, 1) := by decide +kernel
theorem dX7_readText_57 : decode cX7_readText 57 = .ok (.iaload, 1) := by decide +kernel
theorem dX7_readText_58 : decode cX7_readText 58 = .ok (.iadd, 1) := by decide +kernel
theorem dX7_readText_59 : decode cX7_readText 59 = .ok (.iconst 1, 1) := by decide +kernel
theorem dX7_readText_60 : decode cX7_readText 60 = .ok (.isub, 1) := by decide +kernel
theorem dX7_readText_61 : decode cX7_readText 61 = .ok (.iaload, 1) := by decide +kernel
theorem dX7_readText_62 : decode cX7_readText 62 = .ok (.bipush 12, 2) := by decide +kernel
theorem dX7_readText_64 : decode cX7_readText 64 = .ok (.if_icmp .ge 7, 3) := by decide +kernel
theorem dX7_readText_67 : decode cX7_readText 67 = .ok (.iconst 1, 1) := by decide +kernel
theorem dX7_readText_68 : decode cX7_readText 68 = .ok (.goto 4, 3) := by decide +kernel
theorem dX7_readText_71 : decode cX7_readText 71 = .ok (.iconst 0, 1) := by decide +kernel
theorem dX7_readText_72 : decode cX7_readText 72 = .ok (.istore_n 2, 1) := by decide +kernel
theorem dX7_readText_73 : decode cX7_readText 73 = .ok (.aload_n 0, 1) := by decide +kernel
theorem dX7_readText_74 : decode cX7_readText 74 = .ok (.invokevirtual 109, 3) := by decide +kernel
theorem dX7_readText_77 : decode cX7_readText 77 = .ok (.bipush 47, 2) := by decide +kernel
theorem dX7_readText_79 : decode cX7_readText 79 = .ok (.if_icmp .ne 17, 3) := by decide +kernel
theorem dX7_readText_82 : decode cX7_readText 82 = .ok (.aload_n 0, 1) := by decide +kernel
theorem dX7_readText_83 : decode cX7_readText 83 = .ok (.getfield 29, 3) := by decide +kernel
theorem dX7_readText_86 : decode cX7_readText 86 = .ok (.iconst 0, 1) := by decide +kernel
theorem dX7_readText_87 : decode cX7_readText 87 = .ok (.iaload, 1) := by decide +kernel
theorem dX7_readText_88 : decode cX7_readText 88 = .ok (.iconst 3, 1) := by decide +kernel
theorem dX7_readText_89 : decode cX7_readText 89 = .ok (.if_icmp .ge 7, 3) := by decide +kernel
theorem dX7_readText_92 : decode cX7_readText 92 = .ok (.iconst 1, 1) := by decide +kernel
theorem dX7_readText_93 : decode cX7_readText 93 = .ok (.goto 4, 3) := by decide +kernel
theorem dX7_readText_96 : decode cX7_readText 96 = .ok (.iconst 0, 1) := by decide +kernel
theorem dX7_readText_97 : decode cX7_readText 97 = .ok (.istore_n 3, 1) := by decide +kernel
theorem dX7_readText_98 : decode cX7_readText 98 = .ok (.aload_n 0, 1) := by decide +kernel
theorem dX7_readText_99 : decode cX7_readText 99 = .ok (.getfield 29, 3) := by decide +kernel
theorem dX7_readText_102 : decode cX7_readText 102 = .ok (.iconst 0, 1) := by decide +kernel
theorem dX7_readText_103 : decode cX7_readText 103 = .ok (.dup2, 1) := by decide +kernel
theorem dX7_readText_104 : decode cX7_readText 104 = .ok (.iaload, 1) := by decide +kernel
theorem dX7_readText_105 : decode cX7_readText 105 = .ok (.iload_n 3, 1) := by decide +kernel
theorem dX7_readText_106 : decode cX7_readText 106 = .ok (.ifCond .eq 7, 3) := by decide +kernel
theorem dX7_readText_109 : decode cX7_readText 109 = .ok (.iconst 1, 1) := by decide +kernel
theorem dX7_readText_110 : decode cX7_readText 110 = .ok (.goto 4, 3) := by decide +kernel
theorem dX7_readText_113 : decode cX7_readText 113 = .ok (.iconst 0, 1) := by decide +kernel
theorem dX7_readText_114 : decode cX7_readText 114 = .ok (.iadd, 1) := by decide +kernel
theorem dX7_readText_115 : decode cX7_readText 115 = .ok (.iastore, 1) := by decide +kernel
theorem dX7_readText_116 : decode cX7_readText 116 = .ok (.iload_n 2, 1) := by decide +kernel
theorem dX7_readText_117 : decode cX7_readText 117 = .ok (.ifCond .ne 7, 3) := by decide +kernel
theorem dX7_readText_120 : decode cX7_readText 120 = .ok (.iload_n 3, 1) := by decide +kernel
theorem dX7_readText_121 : decode cX7_readText 121 = .ok (.ifCond .eq 7, 3) := by decide +kernel
theorem dX7_readText_124 : decode cX7_readText 124 = .ok (.iconst 1, 1) := by decide +kernel
theorem dX7_readText_125 : decode cX7_readText 125 = .ok (.goto 4, 3) := by decide +kernel
theorem dX7_readText_128 : decode cX7_readText 128 = .ok (.iconst 0, 1) := by decide +kernel
theorem dX7_readText_129 : decode cX7_readText 129 = .ok (.istore_n 1, 1) := by decide +kernel
theorem dX7_readText_130 : decode cX7_readText 130 = .ok (.aload_n 0, 1) := by decide +kernel
theorem dX7_readText_131 : decode cX7_readText 131 = .ok (.dup, 1) := by decide +kernel
theorem dX7_readText_132 : decode cX7_readText 132 = .ok (.getfield 106, 3) := by decide +kernel
theorem dX7_readText_135 : decode cX7_readText 135 = .ok (.iload_n 1, 1) := by decide +kernel
theorem dX7_readText_136 : decode cX7_readText 136 = .ok (.ifCond .eq 7, 3) := by decide +kernel
theorem dX7_readText_139 : decode cX7_readText 139 = .ok (.iconst 1, 1) := by decide +kernel
theorem dX7_readText_140 : decode cX7_readText 140 = .ok (.goto 4, 3) := by decide +kernel
theorem dX7_readText_143 : decode cX7_readText 143 = .ok (.iconst 0, 1) := by decide +kernel
theorem dX7_readText_144 : decode cX7_readText 144 = .ok (.iadd, 1) := by decide +kernel
