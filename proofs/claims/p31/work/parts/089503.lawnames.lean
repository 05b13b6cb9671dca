set_option maxRecDepth 20000 in
theorem gL_law_L_holds : GoodIn wsL_law (va_wsS RL 204 yL_holds wsL_holds) := goodIn_app (goodIn_of _ (by decide +kernel)) ggL_law_L_holds
set_option maxRecDepth 20000 in
theorem ggL_law_L_trySimulate_p0 : GoodIn wsL_law [.codeWith yL_trySimulate cL_trySimulate 5 (some .int) [(0, 6, 7, 13)]] := goodIn_r _ [540] (by decide +kernel) (by decide +kernel)
set_option maxRecDepth 20000 in
theorem ggL_law_L_trySimulate_p1 : GoodIn wsL_law wsL_trySimulate_r1 := goodIn_r _ [97, 86, 541, 542, 543, 2, 544, 103, 104, 16, 15, 545, 546, 124, 310, 231, 232, 14, 233, 39, 41, 42, 43, 177] (by decide +kernel) (by decide +kernel)
set_option maxRecDepth 20000 in
theorem ggL_law_L_trySimulate_p2 : GoodIn wsL_law wsL_trySimulate_r2 := goodIn_r _ [234, 235, 236, 237, 38, 238, 47, 48, 49, 50, 51, 239, 240, 241, 242, 72, 243, 244, 245, 246, 247, 144, 145, 146] (by decide +kernel) (by decide +kernel)
set_option maxRecDepth 20000 in
theorem ggL_law_L_trySimulate_p3 : GoodIn wsL_law wsL_trySimulate_r3 := goodIn_r _ [147, 148, 149, 150, 151, 129, 130, 547, 548, 549, 550, 551, 341, 342, 343, 344, 345, 126, 127, 128, 346, 347, 348, 349] (by decide +kernel) (by decide +kernel)
set_option maxRecDepth 20000 in
theorem ggL_law_L_trySimulate_p4 : GoodIn wsL_law wsL_trySimulate_r4 := goodIn_r _ [350, 179, 180, 181, 351, 352, 353, 354, 355, 141, 142, 143, 356, 160, 161, 162, 357, 358, 359, 360, 361, 362, 113, 114] (by decide +kernel) (by decide +kernel)
set_option maxRecDepth 20000 in
theorem ggL_law_L_trySimulate_p5 : GoodIn wsL_law wsL_trySimulate_r5 := goodIn_r _ [363, 312, 313, 314, 315, 316, 317, 318, 383, 384, 385, 386, 122, 20, 387, 388, 125, 389, 390, 391, 19, 392, 393, 394] (by decide +kernel) (by decide +kernel)
set_option maxRecDepth 20000 in
theorem ggL_law_L_trySimulate_p6 : GoodIn wsL_law wsL_trySimulate_r6 := goodIn_r _ [395, 396, 397, 56, 398, 399, 400, 401, 402, 55, 403, 404, 405, 406, 407, 408, 409, 410, 411, 412, 269, 270, 413, 208] (by decide +kernel) (by decide +kernel)
set_option maxRecDepth 20000 in
theorem ggL_law_L_trySimulate_p7 : GoodIn wsL_law wsL_trySimulate_r7 := goodIn_r _ [209, 210, 414, 415, 416, 417, 418, 419, 420, 421, 422, 311, 537, 325, 326, 327, 248, 249, 250, 251, 219, 220, 252, 253] (by decide +kernel) (by decide +kernel)
set_option maxRecDepth 20000 in
theorem ggL_law_L_trySimulate_p8 : GoodIn wsL_law wsL_trySimulate_r8 := goodIn_r _ [254, 255, 256, 135, 136, 137, 138, 139, 257, 258, 259, 260, 261, 262, 263, 264, 265, 266, 267, 268, 271, 272, 273, 274] (by decide +kernel) (by decide +kernel)
set_option maxRecDepth 20000 in
theorem ggL_law_L_trySimulate_p9 : GoodIn wsL_law wsL_trySimulate_r9 := goodIn_r _ [275, 276, 277, 278, 279, 280, 281, 282, 283, 284, 285, 286, 287, 288, 289] (by decide +kernel) (by decide +kernel)
set_option maxRecDepth 20000 in
theorem ggL_law_L_trySimulate_p10 : GoodIn wsL_law wsX60 := goodIn_r _ [606, 607, 608, 609, 610, 611] (by decide +kernel) (by decide +kernel)
set_option maxRecDepth 20000 in
theorem ggL_law_L_trySimulate_p11 : GoodIn wsL_law wsX40 := goodIn_r _ [612, 613, 614, 615, 616, 617] (by decide +kernel) (by decide +kernel)
set_option maxRecDepth 20000 in
theorem ggL_law_L_trySimulate_p12 : GoodIn wsL_law wsX00 := goodIn_r _ [630, 631, 632, 633, 634] (by decide +kernel) (by decide +kernel)
set_option maxRecDepth 20000 in
theorem ggL_law_L_trySimulate_p13 : GoodIn wsL_law wsX20 := goodIn_r _ [618, 619, 620, 621, 622, 623] (by decide +kernel) (by decide +kernel)
set_option maxRecDepth 20000 in
theorem ggL_law_L_trySimulate : GoodIn wsL_law wsL_trySimulate := goodIn_ca (goodIn_c2 ggL_law_L_trySimulate_p0 (goodIn_app (goodIn_app (goodIn_app (goodIn_app (goodIn_app ggL_law_L_trySimulate_p1 (goodIn_app ggL_law_L_trySimulate_p2 (goodIn_app ggL_law_L_trySimulate_p3 (goodIn_app ggL_law_L_trySimulate_p4 (goodIn_app ggL_law_L_trySimulate_p5 (goodIn_app ggL_law_L_trySimulate_p6 (goodIn_app ggL_law_L_trySimulate_p7 (goodIn_app ggL_law_L_trySimulate_p8 ggL_law_L_trySimulate_p9)))))))) ggL_law_L_trySimulate_p10) ggL_law_L_trySimulate_p11) ggL_law_L_trySimulate_p12) ggL_law_L_trySimulate_p13)) (goodIn_sub (fun _ h => List.mem_append_left _ (List.mem_append_left _ (List.mem_append_right _ h))) (by decide +kernel))
set_option maxRecDepth 20000 in
theorem gL_law_L_trySimulate : GoodIn wsL_law (va_wsS RL 162 yL_trySimulate wsL_trySimulate) := goodIn_app (goodIn_of _ (by decide +kernel)) ggL_law_L_trySimulate
set_option maxRecDepth 20000 in
theorem ggL_law_L_tryScript_p0 : GoodIn wsL_law [.codeWith yL_tryScript cL_tryScript 5 (some .int) [(0, 6, 7, 13)]] := goodIn_r _ [524] (by decide +kernel) (by decide +kernel)
set_option maxRecDepth 20000 in
theorem ggL_law_L_tryScript_p1 : GoodIn wsL_law wsL_tryScript_r1 := goodIn_r _ [97, 86, 525, 526, 527, 2, 528, 103, 104, 16, 15, 529, 530, 531, 532, 310, 231, 232, 14, 233, 39, 41, 42, 43] (by decide +kernel) (by decide +kernel)
set_option maxRecDepth 20000 in
theorem ggL_law_L_tryScript_p2 : GoodIn wsL_law wsL_tryScript_r2 := goodIn_r _ [177, 234, 235, 236, 237, 38, 238, 47, 48, 49, 50, 51, 239, 240, 241, 242, 72, 243, 244, 245, 246, 247, 533, 534] (by decide +kernel) (by decide +kernel)
set_option maxRecDepth 20000 in
theorem ggL_law_L_tryScript_p3 : GoodIn wsL_law wsL_tryScript_r3 := goodIn_r _ [535, 536, 20, 388, 124, 478, 477, 248, 249, 250, 251, 219, 220, 252, 208, 209, 210, 129, 130, 253, 254, 255, 256, 135] (by decide +kernel) (by decide +kernel)
set_option maxRecDepth 20000 in
theorem ggL_law_L_tryScript_p4 : GoodIn wsL_law wsL_tryScript_r4 := goodIn_r _ [126, 127, 128, 136, 137, 138, 139, 257, 258, 259, 260, 261, 141, 142, 143, 262, 263, 264, 265, 266, 267, 268, 269, 270] (by decide +kernel) (by decide +kernel)
set_option maxRecDepth 20000 in
theorem ggL_law_L_tryScript_p5 : GoodIn wsL_law wsL_tryScript_r5 := goodIn_r _ [113, 114, 271, 272, 273, 274, 275, 276, 277, 278, 279, 280, 281, 282, 283, 284, 285, 286, 287, 288, 289, 537, 325, 326] (by decide +kernel) (by decide +kernel)
set_option maxRecDepth 20000 in
theorem ggL_law_L_tryScript_p6 : GoodIn wsL_law wsL_tryScript_r6 := goodIn_r _ [327, 341, 342, 343, 344, 345, 346, 347, 348, 349, 350, 179, 180, 181, 351, 352, 353, 354, 355, 356, 160, 161, 162, 357] (by decide +kernel) (by decide +kernel)
set_option maxRecDepth 20000 in
theorem ggL_law_L_tryScript_p7 : GoodIn wsL_law wsL_tryScript_r7 := goodIn_r _ [358, 359, 360, 361, 362, 363, 312, 313, 314, 315, 316, 317, 318, 371, 372, 373, 374, 375, 174, 175, 176, 430, 431, 432] (by decide +kernel) (by decide +kernel)
set_option maxRecDepth 20000 in
theorem ggL_law_L_tryScript_p8 : GoodIn wsL_law wsL_tryScript_r8 := goodIn_r _ [433, 434, 435, 436, 437, 438, 439, 440, 441, 442, 443, 444, 445, 71, 73, 446, 447, 448, 449, 389, 390, 391, 19, 392] (by decide +kernel) (by decide +kernel)
set_option maxRecDepth 20000 in
theorem ggL_law_L_tryScript_p9 : GoodIn wsL_law wsL_tryScript_r9 := goodIn_r _ [393, 394, 395, 396, 397, 56, 398, 399, 400, 401, 402, 55, 403, 404, 405, 406, 407, 408, 409, 410, 411, 412, 413, 414] (by decide +kernel) (by decide +kernel)
set_option maxRecDepth 20000 in
theorem ggL_law_L_tryScript_p10 : GoodIn wsL_law wsL_tryScript_r10 := goodIn_r _ [415, 416, 417, 418, 383, 384, 385, 386, 122, 387, 125, 419, 420, 421, 422, 148, 149, 150, 151, 311] (by decide +kernel) (by decide +kernel)
set_option maxRecDepth 20000 in
theorem ggL_law_L_tryScript_p11 : GoodIn wsL_law wsX60 := goodIn_r _ [606, 607, 608, 609, 610, 611] (by decide +kernel) (by decide +kernel)
set_option maxRecDepth 20000 in
theorem ggL_law_L_tryScript_p12 : GoodIn wsL_law wsX40 := goodIn_r _ [612, 613, 614, 615, 616, 617] (by decide +kernel) (by decide +kernel)
set_option maxRecDepth 20000 in
theorem ggL_law_L_tryScript_p13 : GoodIn wsL_law wsX00 := goodIn_r _ [630, 631, 632, 633, 634] (by decide +kernel) (by decide +kernel)
set_option maxRecDepth 20000 in
theorem ggL_law_L_tryScript_p14 : GoodIn wsL_law wsX20 := goodIn_r _ [618, 619, 620, 621, 622, 623] (by decide +kernel) (by decide +kernel)
set_option maxRecDepth 20000 in
theorem ggL_law_L_tryScript : GoodIn wsL_law wsL_tryScript := goodIn_ca (goodIn_c2 ggL_law_L_tryScript_p0 (goodIn_app (goodIn_app (goodIn_app (goodIn_app (goodIn_app ggL_law_L_tryScript_p1 (goodIn_app ggL_law_L_tryScript_p2 (goodIn_app ggL_law_L_tryScript_p3 (goodIn_app ggL_law_L_tryScript_p4 (goodIn_app ggL_law_L_tryScript_p5 (goodIn_app ggL_law_L_tryScript_p6 (goodIn_app ggL_law_L_tryScript_p7 (goodIn_app ggL_law_L_tryScript_p8 (goodIn_app ggL_law_L_tryScript_p9 ggL_law_L_tryScript_p10))))))))) ggL_law_L_tryScript_p11) ggL_law_L_tryScript_p12) ggL_law_L_tryScript_p13) ggL_law_L_tryScript_p14)) (goodIn_sub (fun _ h => List.mem_append_left _ (List.mem_append_left _ (List.mem_append_right _ h))) (by decide +kernel))
set_option maxRecDepth 20000 in
theorem gL_law_L_tryScript : GoodIn wsL_law (va_wsS RL 154 yL_tryScript wsL_tryScript) := goodIn_app (goodIn_of _ (by decide +kernel)) ggL_law_L_tryScript
theorem dL_law_0 : decode cL_law 0 = .ok (.new 8, 3) := by decide +kernel
theorem dL_law_3 : decode cL_law 3 = .ok (.dup, 1) := by decide +kernel
theorem dL_law_4 : decode cL_law 4 = .ok (.invokespecial 188, 3) := by decide +kernel
theorem dL_law_7 : decode cL_law 7 = .ok (.astore_n 1, 1) := by decide +kernel
theorem dL_law_8 : decode cL_law 8 = .ok (.new 8, 3) := by decide +kernel
theorem dL_law_11 : decode cL_law 11 = .ok (.dup, 1) := by decide +kernel
theorem dL_law_12 : decode cL_law 12 = .ok (.invokespecial 188, 3) := by decide +kernel
theorem dL_law_15 : decode cL_law 15 = .ok (.astore_n 2, 1) := by decide +kernel
theorem dL_law_16 : decode cL_law 16 = .ok (.iconst 1, 1) := by decide +kernel
theorem dL_law_17 : decode cL_law 17 = .ok (.istore_n 3, 1) := by decide +kernel
theorem dL_law_18 : decode cL_law 18 = .ok (.iconst 0, 1) := by decide +kernel
theorem dL_law_19 : decode cL_law 19 = .ok (.istore 4, 2) := by decide +kernel
theorem dL_law_21 : decode cL_law 21 = .ok (.iload 4, 2) := by decide +kernel
theorem dL_law_23 : decode cL_law 23 = .ok (.bipush 30, 2) := by decide +kernel
theorem dL_law_25 : decode cL_law 25 = .ok (.if_icmp .ge 217, 3) := by decide +kernel
theorem dL_law_28 : decode cL_law 28 = .ok (.iload_n 3, 1) := by decide +kernel
theorem dL_law_29 : decode cL_law 29 = .ok (.ifCond .eq 213, 3) := by decide +kernel
theorem dL_law_32 : decode cL_law 32 = .ok (.aload_n 0, 1) := by decide +kernel
theorem dL_law_33 : decode cL_law 33 = .ok (.iconst 2, 1) := by decide +kernel
theorem dL_law_34 : decode cL_law 34 = .ok (.iload 4, 2) := by decide +kernel
theorem dL_law_36 : decode cL_law 36 = .ok (.imul, 1) := by decide +kernel
theorem dL_law_37 : decode cL_law 37 = .ok (.invokestatic 189, 3) := by decide +kernel
theorem dL_law_40 : decode cL_law 40 = .ok (.istore 5, 2) := by decide +kernel
theorem dL_law_42 : decode cL_law 42 = .ok (.aload_n 0, 1) := by decide +kernel
theorem dL_law_43 : decode cL_law 43 = .ok (.iconst 2, 1) := by decide +kernel
theorem dL_law_44 : decode cL_law 44 = .ok (.iload 4, 2) := by decide +kernel
theorem dL_law_46 : decode cL_law 46 = .ok (.imul, 1) := by decide +kernel
theorem dL_law_47 : decode cL_law 47 = .ok (.iconst 1, 1) := by decide +kernel
theorem dL_law_48 : decode cL_law 48 = .ok (.iadd, 1) := by decide +kernel
theorem dL_law_49 : decode cL_law 49 = .ok (.invokestatic 189, 3) := by decide +kernel
theorem dL_law_52 : decode cL_law 52 = .ok (.istore 6, 2) := by decide +kernel
theorem dL_law_54 : decode cL_law 54 = .ok (.aload_n 1, 1) := by decide +kernel
theorem dL_law_55 : decode cL_law 55 = .ok (.iload 5, 2) := by decide +kernel
theorem dL_law_57 : decode cL_law 57 = .ok (.invokestatic 193, 3) := by decide +kernel
theorem dL_law_60 : decode cL_law 60 = .ok (.ifCond .eq 45, 3) := by decide +kernel
theorem dL_law_63 : decode cL_law 63 = .ok (.aload_n 1, 1) := by decide +kernel
theorem dL_law_64 : decode cL_law 64 = .ok (.iload 5, 2) := by decide +kernel
theorem dL_law_66 : decode cL_law 66 = .ok (.iload 6, 2) := by decide +kernel
theorem dL_law_68 : decode cL_law 68 = .ok (.invokestatic 197, 3) := by decide +kernel
theorem dL_law_71 : decode cL_law 71 = .ok (.aload_n 2, 1) := by decide +kernel
theorem dL_law_72 : decode cL_law 72 = .ok (.iload 5, 2) := by decide +kernel
theorem dL_law_74 : decode cL_law 74 = .ok (.iload 6, 2) := by decide +kernel
theorem dL_law_76 : decode cL_law 76 = .ok (.invokestatic 197, 3) := by decide +kernel
theorem dL_law_79 : decode cL_law 79 = .ok (.if_icmp .ne 26, 3) := by decide +kernel
theorem dL_law_82 : decode cL_law 82 = .ok (.aload_n 1, 1) := by decide +kernel
theorem dL_law_83 : decode cL_law 83 = .ok (.iload 6, 2) := by decide +kernel
theorem dL_law_85 : decode cL_law 85 = .ok (.invokestatic 193, 3) := by decide +kernel
theorem dL_law_88 : decode cL_law 88 = .ok (.ifCond .eq 17, 3) := by decide +kernel
theorem dL_law_91 : decode cL_law 91 = .ok (.aload_n 1, 1) := by decide +kernel
theorem dL_law_92 : decode cL_law 92 = .ok (.aload_n 2, 1) := by decide +kernel
theorem dL_law_93 : decode cL_law 93 = .ok (.iload 5, 2) := by decide +kernel
theorem dL_law_95 : decode cL_law 95 = .ok (.invokestatic 200, 3) := by decide +kernel
theorem dL_law_98 : decode cL_law 98 = .ok (.ifCond .eq 7, 3) := by decide +kernel
theorem dL_law_101 : decode cL_law 101 = .ok (.iconst 1, 1) := by decide +kernel
theorem dL_law_102 : decode cL_law 102 = .ok (.goto 4, 3) := by decide +kernel
theorem dL_law_105 : decode cL_law 105 = .ok (.iconst 0, 1) := by decide +kernel
theorem dL_law_106 : decode cL_law 106 = .ok (.istore_n 3, 1) := by decide +kernel
theorem dL_law_107 : decode cL_law 107 = .ok (.iload 4, 2) := by decide +kernel
theorem dL_law_109 : decode cL_law 109 = .ok (.iconst 5, 1) := by decide +kernel
theorem dL_law_110 : decode cL_law 110 = .ok (.irem, 1) := by decide +kernel
theorem dL_law_111 : decode cL_law 111 = .ok (.iconst 4, 1) := by decide +kernel
theorem dL_law_112 : decode cL_law 112 = .ok (.if_icmp .ne 124, 3) := by decide +kernel
theorem dL_law_115 : decode cL_law 115 = .ok (.iload_n 3, 1) := by decide +kernel
theorem dL_law_116 : decode cL_law 116 = .ok (.ifCond .eq 120, 3) := by decide +kernel
theorem dL_law_119 : decode cL_law 119 = .ok (.aload_n 1, 1) := by decide +kernel
theorem dL_law_120 : decode cL_law 120 = .ok (.iload 6, 2) := by decide +kernel
theorem dL_law_122 : decode cL_law 122 = .ok (.invokestatic 204, 3) := by decide +kernel
theorem dL_law_125 : decode cL_law 125 = .ok (.ifCond .eq 16, 3) := by decide +kernel
theorem dL_law_128 : decode cL_law 128 = .ok (.aload_n 2, 1) := by decide +kernel
theorem dL_law_129 : decode cL_law 129 = .ok (.iload 6, 2) := by decide +kernel
theorem dL_law_131 : decode cL_law 131 = .ok (.invokestatic 204, 3) := by decide +kernel
theorem dL_law_134 : decode cL_law 134 = .ok (.ifCond .eq 7, 3) := by decide +kernel
theorem dL_law_137 : decode cL_law 137 = .ok (.iconst 1, 1) := by decide +kernel
theorem dL_law_138 : decode cL_law 138 = .ok (.goto 4, 3) := by decide +kernel
theorem dL_law_141 : decode cL_law 141 = .ok (.iconst 0, 1) := by decide +kernel
theorem dL_law_142 : decode cL_law 142 = .ok (.istore_n 3, 1) := by decide +kernel
theorem dL_law_143 : decode cL_law 143 = .ok (.iload 5, 2) := by decide +kernel
theorem dL_law_145 : decode cL_law 145 = .ok (.i2l, 1) := by decide +kernel
theorem dL_law_146 : decode cL_law 146 = .ok (.ldc2_w 207, 3) := by decide +kernel
theorem dL_law_149 : decode cL_law 149 = .ok (.lmul, 1) := by decide +kernel
theorem dL_law_150 : decode cL_law 150 = .ok (.ldc2_w 209, 3) := by decide +kernel
theorem dL_law_153 : decode cL_law 153 = .ok (.lsub, 1) := by decide +kernel
theorem dL_law_154 : decode cL_law 154 = .ok (.lstore 7, 2) := by decide +kernel
theorem dL_law_156 : decode cL_law 156 = .ok (.aload_n 1, 1) := by decide +kernel
theorem dL_law_157 : decode cL_law 157 = .ok (.lload 7, 2) := by decide +kernel
theorem dL_law_159 : decode cL_law 159 = .ok (.iconst 1, 1) := by decide +kernel
theorem dL_law_160 : decode cL_law 160 = .ok (.iload 6, 2) := by decide +kernel
theorem dL_law_162 : decode cL_law 162 = .ok (.bipush 60, 2) := by decide +kernel
theorem dL_law_164 : decode cL_law 164 = .ok (.irem, 1) := by decide +kernel
theorem dL_law_165 : decode cL_law 165 = .ok (.iadd, 1) := by decide +kernel
theorem dL_law_166 : decode cL_law 166 = .ok (.invokestatic 162, 3) := by decide +kernel
theorem dL_law_169 : decode cL_law 169 = .ok (.istore 9, 2) := by decide +kernel
theorem dL_law_171 : decode cL_law 171 = .ok (.iload_n 3, 1) := by decide +kernel
theorem dL_law_172 : decode cL_law 172 = .ok (.ifCond .eq 62, 3) := by decide +kernel
theorem dL_law_175 : decode cL_law 175 = .ok (.iload 9, 2) := by decide +kernel
theorem dL_law_177 : decode cL_law 177 = .ok (.aload_n 2, 1) := by decide +kernel
theorem dL_law_178 : decode cL_law 178 = .ok (.lload 7, 2) := by decide +kernel
theorem dL_law_180 : decode cL_law 180 = .ok (.iconst 1, 1) := by decide +kernel
theorem dL_law_181 : decode cL_law 181 = .ok (.iload 6, 2) := by decide +kernel
theorem dL_law_183 : decode cL_law 183 = .ok (.bipush 60, 2) := by decide +kernel
theorem dL_law_185 : decode cL_law 185 = .ok (.irem, 1) := by decide +kernel
theorem dL_law_186 : decode cL_law 186 = .ok (.iadd, 1) := by decide +kernel
theorem dL_law_187 : decode cL_law 187 = .ok (.invokestatic 162, 3) := by decide +kernel
theorem dL_law_190 : decode cL_law 190 = .ok (.if_icmp .ne 44, 3) := by decide +kernel
theorem dL_law_193 : decode cL_law 193 = .ok (.aload_n 1, 1) := by decide +kernel
theorem dL_law_194 : decode cL_law 194 = .ok (.iconst 2, 1) := by decide +kernel
theorem dL_law_195 : decode cL_law 195 = .ok (.iload 6, 2) := by decide +kernel
theorem dL_law_197 : decode cL_law 197 = .ok (.i2l, 1) := by decide +kernel
theorem dL_law_198 : decode cL_law 198 = .ok (.ldc2_w 211, 3) := by decide +kernel
theorem dL_law_201 : decode cL_law 201 = .ok (.lmul, 1) := by decide +kernel
theorem dL_law_202 : decode cL_law 202 = .ok (.invokestatic 154, 3) := by decide +kernel
theorem dL_law_205 : decode cL_law 205 = .ok (.aload_n 2, 1) := by decide +kernel
theorem dL_law_206 : decode cL_law 206 = .ok (.iconst 2, 1) := by decide +kernel
theorem dL_law_207 : decode cL_law 207 = .ok (.iload 6, 2) := by decide +kernel
theorem dL_law_209 : decode cL_law 209 = .ok (.i2l, 1) := by decide +kernel
theorem dL_law_210 : decode cL_law 210 = .ok (.ldc2_w 211, 3) := by decide +kernel
theorem dL_law_213 : decode cL_law 213 = .ok (.lmul, 1) := by decide +kernel
theorem dL_law_214 : decode cL_law 214 = .ok (.invokestatic 154, 3) := by decide +kernel
theorem dL_law_217 : decode cL_law 217 = .ok (.if_icmp .ne 17, 3) := by decide +kernel
theorem dL_law_220 : decode cL_law 220 = .ok (.aload_n 1, 1) := by decide +kernel
theorem dL_law_221 : decode cL_law 221 = .ok (.aload_n 2, 1) := by decide +kernel
theorem dL_law_222 : decode cL_law 222 = .ok (.iload 6, 2) := by decide +kernel
theorem dL_law_224 : decode cL_law 224 = .ok (.invokestatic 200, 3) := by decide +kernel
theorem dL_law_227 : decode cL_law 227 = .ok (.ifCond .eq 7, 3) := by decide +kernel
theorem dL_law_230 : decode cL_law 230 = .ok (.iconst 1, 1) := by decide +kernel
theorem dL_law_231 : decode cL_law 231 = .ok (.goto 4, 3) := by decide +kernel
theorem dL_law_234 : decode cL_law 234 = .ok (.iconst 0, 1) := by decide +kernel
theorem dL_law_235 : decode cL_law 235 = .ok (.istore_n 3, 1) := by decide +kernel
theorem dL_law_236 : decode cL_law 236 = .ok (.iinc 4 1, 3) := by decide +kernel
theorem dL_law_239 : decode cL_law 239 = .ok (.goto (-218), 3) := by decide +kernel
theorem dL_law_242 : decode cL_law 242 = .ok (.iload_n 3, 1) := by decide +kernel
theorem dL_law_243 : decode cL_law 243 = .ok (.ireturn, 1) := by decide +kernel
