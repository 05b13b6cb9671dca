theorem dL_alike_148 : decode cL_alike 148 = .ok (.invokestatic 150, 3) := by decide +kernel
theorem dL_alike_151 : decode cL_alike 151 = .ok (.istore 4, 2) := by decide +kernel
theorem dL_alike_153 : decode cL_alike 153 = .ok (.iconst 0, 1) := by decide +kernel
theorem dL_alike_154 : decode cL_alike 154 = .ok (.istore 5, 2) := by decide +kernel
theorem dL_alike_156 : decode cL_alike 156 = .ok (.iload 5, 2) := by decide +kernel
theorem dL_alike_158 : decode cL_alike 158 = .ok (.iload 4, 2) := by decide +kernel
theorem dL_alike_160 : decode cL_alike 160 = .ok (.if_icmp .ge 115, 3) := by decide +kernel
theorem dL_alike_163 : decode cL_alike 163 = .ok (.iload_n 3, 1) := by decide +kernel
theorem dL_alike_164 : decode cL_alike 164 = .ok (.ifCond .eq 111, 3) := by decide +kernel
theorem dL_alike_167 : decode cL_alike 167 = .ok (.aload_n 0, 1) := by decide +kernel
theorem dL_alike_168 : decode cL_alike 168 = .ok (.iconst 3, 1) := by decide +kernel
theorem dL_alike_169 : decode cL_alike 169 = .ok (.iload 5, 2) := by decide +kernel
theorem dL_alike_171 : decode cL_alike 171 = .ok (.iload_n 2, 1) := by decide +kernel
theorem dL_alike_172 : decode cL_alike 172 = .ok (.iconst 4, 1) := by decide +kernel
theorem dL_alike_173 : decode cL_alike 173 = .ok (.irem, 1) := by decide +kernel
theorem dL_alike_174 : decode cL_alike 174 = .ok (.iconst 0, 1) := by decide +kernel
theorem dL_alike_175 : decode cL_alike 175 = .ok (.invokestatic 150, 3) := by decide +kernel
theorem dL_alike_178 : decode cL_alike 178 = .ok (.aload_n 1, 1) := by decide +kernel
theorem dL_alike_179 : decode cL_alike 179 = .ok (.iconst 3, 1) := by decide +kernel
theorem dL_alike_180 : decode cL_alike 180 = .ok (.iload 5, 2) := by decide +kernel
theorem dL_alike_182 : decode cL_alike 182 = .ok (.iload_n 2, 1) := by decide +kernel
theorem dL_alike_183 : decode cL_alike 183 = .ok (.iconst 4, 1) := by decide +kernel
theorem dL_alike_184 : decode cL_alike 184 = .ok (.irem, 1) := by decide +kernel
theorem dL_alike_185 : decode cL_alike 185 = .ok (.iconst 0, 1) := by decide +kernel
theorem dL_alike_186 : decode cL_alike 186 = .ok (.invokestatic 150, 3) := by decide +kernel
theorem dL_alike_189 : decode cL_alike 189 = .ok (.if_icmp .ne 78, 3) := by decide +kernel
theorem dL_alike_192 : decode cL_alike 192 = .ok (.aload_n 0, 1) := by decide +kernel
theorem dL_alike_193 : decode cL_alike 193 = .ok (.iconst 3, 1) := by decide +kernel
theorem dL_alike_194 : decode cL_alike 194 = .ok (.iload 5, 2) := by decide +kernel
theorem dL_alike_196 : decode cL_alike 196 = .ok (.iconst 3, 1) := by decide +kernel
theorem dL_alike_197 : decode cL_alike 197 = .ok (.iconst 0, 1) := by decide +kernel
theorem dL_alike_198 : decode cL_alike 198 = .ok (.invokestatic 150, 3) := by decide +kernel
theorem dL_alike_201 : decode cL_alike 201 = .ok (.aload_n 1, 1) := by decide +kernel
theorem dL_alike_202 : decode cL_alike 202 = .ok (.iconst 3, 1) := by decide +kernel
theorem dL_alike_203 : decode cL_alike 203 = .ok (.iload 5, 2) := by decide +kernel
theorem dL_alike_205 : decode cL_alike 205 = .ok (.iconst 3, 1) := by decide +kernel
theorem dL_alike_206 : decode cL_alike 206 = .ok (.iconst 0, 1) := by decide +kernel
theorem dL_alike_207 : decode cL_alike 207 = .ok (.invokestatic 150, 3) := by decide +kernel
theorem dL_alike_210 : decode cL_alike 210 = .ok (.if_icmp .ne 57, 3) := by decide +kernel
theorem dL_alike_213 : decode cL_alike 213 = .ok (.aload_n 0, 1) := by decide +kernel
theorem dL_alike_214 : decode cL_alike 214 = .ok (.iconst 4, 1) := by decide +kernel
theorem dL_alike_215 : decode cL_alike 215 = .ok (.iload 5, 2) := by decide +kernel
theorem dL_alike_217 : decode cL_alike 217 = .ok (.iload_n 2, 1) := by decide +kernel
theorem dL_alike_218 : decode cL_alike 218 = .ok (.bipush 41, 2) := by decide +kernel
theorem dL_alike_220 : decode cL_alike 220 = .ok (.irem, 1) := by decide +kernel
theorem dL_alike_221 : decode cL_alike 221 = .ok (.iconst 0, 1) := by decide +kernel
theorem dL_alike_222 : decode cL_alike 222 = .ok (.invokestatic 150, 3) := by decide +kernel
theorem dL_alike_225 : decode cL_alike 225 = .ok (.aload_n 1, 1) := by decide +kernel
theorem dL_alike_226 : decode cL_alike 226 = .ok (.iconst 4, 1) := by decide +kernel
theorem dL_alike_227 : decode cL_alike 227 = .ok (.iload 5, 2) := by decide +kernel
theorem dL_alike_229 : decode cL_alike 229 = .ok (.iload_n 2, 1) := by decide +kernel
theorem dL_alike_230 : decode cL_alike 230 = .ok (.bipush 41, 2) := by decide +kernel
theorem dL_alike_232 : decode cL_alike 232 = .ok (.irem, 1) := by decide +kernel
theorem dL_alike_233 : decode cL_alike 233 = .ok (.iconst 0, 1) := by decide +kernel
theorem dL_alike_234 : decode cL_alike 234 = .ok (.invokestatic 150, 3) := by decide +kernel
theorem dL_alike_237 : decode cL_alike 237 = .ok (.if_icmp .ne 30, 3) := by decide +kernel
theorem dL_alike_240 : decode cL_alike 240 = .ok (.aload_n 0, 1) := by decide +kernel
theorem dL_alike_241 : decode cL_alike 241 = .ok (.bipush 15, 2) := by decide +kernel
theorem dL_alike_243 : decode cL_alike 243 = .ok (.iload 5, 2) := by decide +kernel
theorem dL_alike_245 : decode cL_alike 245 = .ok (.iconst 0, 1) := by decide +kernel
theorem dL_alike_246 : decode cL_alike 246 = .ok (.iconst 0, 1) := by decide +kernel
theorem dL_alike_247 : decode cL_alike 247 = .ok (.invokestatic 150, 3) := by decide +kernel
theorem dL_alike_250 : decode cL_alike 250 = .ok (.aload_n 1, 1) := by decide +kernel
theorem dL_alike_251 : decode cL_alike 251 = .ok (.bipush 15, 2) := by decide +kernel
theorem dL_alike_253 : decode cL_alike 253 = .ok (.iload 5, 2) := by decide +kernel
theorem dL_alike_255 : decode cL_alike 255 = .ok (.iconst 0, 1) := by decide +kernel
theorem dL_alike_256 : decode cL_alike 256 = .ok (.iconst 0, 1) := by decide +kernel
theorem dL_alike_257 : decode cL_alike 257 = .ok (.invokestatic 150, 3) := by decide +kernel
theorem dL_alike_260 : decode cL_alike 260 = .ok (.if_icmp .ne 7, 3) := by decide +kernel
theorem dL_alike_263 : decode cL_alike 263 = .ok (.iconst 1, 1) := by decide +kernel
theorem dL_alike_264 : decode cL_alike 264 = .ok (.goto 4, 3) := by decide +kernel
theorem dL_alike_267 : decode cL_alike 267 = .ok (.iconst 0, 1) := by decide +kernel
theorem dL_alike_268 : decode cL_alike 268 = .ok (.istore_n 3, 1) := by decide +kernel
theorem dL_alike_269 : decode cL_alike 269 = .ok (.iinc 5 1, 3) := by decide +kernel
theorem dL_alike_272 : decode cL_alike 272 = .ok (.goto (-116), 3) := by decide +kernel
theorem dL_alike_275 : decode cL_alike 275 = .ok (.iconst 0, 1) := by decide +kernel
theorem dL_alike_276 : decode cL_alike 276 = .ok (.istore 5, 2) := by decide +kernel
theorem dL_alike_278 : decode cL_alike 278 = .ok (.iload 5, 2) := by decide +kernel
theorem dL_alike_280 : decode cL_alike 280 = .ok (.bipush 10, 2) := by decide +kernel
theorem dL_alike_282 : decode cL_alike 282 = .ok (.if_icmp .ge 77, 3) := by decide +kernel
theorem dL_alike_285 : decode cL_alike 285 = .ok (.iload_n 3, 1) := by decide +kernel
theorem dL_alike_286 : decode cL_alike 286 = .ok (.ifCond .eq 73, 3) := by decide +kernel
theorem dL_alike_289 : decode cL_alike 289 = .ok (.aload_n 0, 1) := by decide +kernel
theorem dL_alike_290 : decode cL_alike 290 = .ok (.iconst 5, 1) := by decide +kernel
theorem dL_alike_291 : decode cL_alike 291 = .ok (.iload 5, 2) := by decide +kernel
theorem dL_alike_293 : decode cL_alike 293 = .ok (.iload_n 2, 1) := by decide +kernel
theorem dL_alike_294 : decode cL_alike 294 = .ok (.iconst 3, 1) := by decide +kernel
theorem dL_alike_295 : decode cL_alike 295 = .ok (.irem, 1) := by decide +kernel
theorem dL_alike_296 : decode cL_alike 296 = .ok (.iconst 0, 1) := by decide +kernel
theorem dL_alike_297 : decode cL_alike 297 = .ok (.invokestatic 150, 3) := by decide +kernel
theorem dL_alike_300 : decode cL_alike 300 = .ok (.aload_n 1, 1) := by decide +kernel
theorem dL_alike_301 : decode cL_alike 301 = .ok (.iconst 5, 1) := by decide +kernel
theorem dL_alike_302 : decode cL_alike 302 = .ok (.iload 5, 2) := by decide +kernel
theorem dL_alike_304 : decode cL_alike 304 = .ok (.iload_n 2, 1) := by decide +kernel
theorem dL_alike_305 : decode cL_alike 305 = .ok (.iconst 3, 1) := by decide +kernel
theorem dL_alike_306 : decode cL_alike 306 = .ok (.irem, 1) := by decide +kernel
theorem dL_alike_307 : decode cL_alike 307 = .ok (.iconst 0, 1) := by decide +kernel
theorem dL_alike_308 : decode cL_alike 308 = .ok (.invokestatic 150, 3) := by decide +kernel
theorem dL_alike_311 : decode cL_alike 311 = .ok (.if_icmp .ne 40, 3) := by decide +kernel
theorem dL_alike_314 : decode cL_alike 314 = .ok (.aload_n 0, 1) := by decide +kernel
theorem dL_alike_315 : decode cL_alike 315 = .ok (.iconst 2, 1) := by decide +kernel
theorem dL_alike_316 : decode cL_alike 316 = .ok (.iconst 4, 1) := by decide +kernel
theorem dL_alike_317 : decode cL_alike 317 = .ok (.iload 5, 2) := by decide +kernel
theorem dL_alike_319 : decode cL_alike 319 = .ok (.imul, 1) := by decide +kernel
theorem dL_alike_320 : decode cL_alike 320 = .ok (.iload_n 2, 1) := by decide +kernel
theorem dL_alike_321 : decode cL_alike 321 = .ok (.iconst 4, 1) := by decide +kernel
theorem dL_alike_322 : decode cL_alike 322 = .ok (.irem, 1) := by decide +kernel
theorem dL_alike_323 : decode cL_alike 323 = .ok (.iadd, 1) := by decide +kernel
theorem dL_alike_324 : decode cL_alike 324 = .ok (.iconst 0, 1) := by decide +kernel
theorem dL_alike_325 : decode cL_alike 325 = .ok (.iconst 0, 1) := by decide +kernel
theorem dL_alike_326 : decode cL_alike 326 = .ok (.invokestatic 150, 3) := by decide +kernel
theorem dL_alike_329 : decode cL_alike 329 = .ok (.aload_n 1, 1) := by decide +kernel
theorem dL_alike_330 : decode cL_alike 330 = .ok (.iconst 2, 1) := by decide +kernel
theorem dL_alike_331 : decode cL_alike 331 = .ok (.iconst 4, 1) := by decide +kernel
theorem dL_alike_332 : decode cL_alike 332 = .ok (.iload 5, 2) := by decide +kernel
theorem dL_alike_334 : decode cL_alike 334 = .ok (.imul, 1) := by decide +kernel
theorem dL_alike_335 : decode cL_alike 335 = .ok (.iload_n 2, 1) := by decide +kernel
theorem dL_alike_336 : decode cL_alike 336 = .ok (.iconst 4, 1) := by decide +kernel
theorem dL_alike_337 : decode cL_alike 337 = .ok (.irem, 1) := by decide +kernel
theorem dL_alike_338 : decode cL_alike 338 = .ok (.iadd, 1) := by decide +kernel
theorem dL_alike_339 : decode cL_alike 339 = .ok (.iconst 0, 1) := by decide +kernel
theorem dL_alike_340 : decode cL_alike 340 = .ok (.iconst 0, 1) := by decide +kernel
theorem dL_alike_341 : decode cL_alike 341 = .ok (.invokestatic 150, 3) := by decide +kernel
theorem dL_alike_344 : decode cL_alike 344 = .ok (.if_icmp .ne 7, 3) := by decide +kernel
theorem dL_alike_347 : decode cL_alike 347 = .ok (.iconst 1, 1) := by decide +kernel
theorem dL_alike_348 : decode cL_alike 348 = .ok (.goto 4, 3) := by decide +kernel
theorem dL_alike_351 : decode cL_alike 351 = .ok (.iconst 0, 1) := by decide +kernel
theorem dL_alike_352 : decode cL_alike 352 = .ok (.istore_n 3, 1) := by decide +kernel
theorem dL_alike_353 : decode cL_alike 353 = .ok (.iinc 5 1, 3) := by decide +kernel
theorem dL_alike_356 : decode cL_alike 356 = .ok (.goto (-78), 3) := by decide +kernel
theorem dL_alike_359 : decode cL_alike 359 = .ok (.iload_n 3, 1) := by decide +kernel
theorem dL_alike_360 : decode cL_alike 360 = .ok (.ireturn, 1) := by decide +kernel
set_option maxRecDepth 20000 in
theorem ggL_holds_L_call_p0 : GoodIn wsL_holds [.code yL_call cL_call 5 (some .int)] := goodIn_r _ [4] (by decide +kernel) (by decide +kernel)
set_option maxRecDepth 20000 in
theorem ggL_holds_L_call_p1 : GoodIn wsL_holds wsL_call_r1 := goodIn_r _ [5, 6, 3, 7, 8, 9, 10, 11, 12, 13, 14, 15, 16, 17, 18, 19, 20, 21, 22, 23, 24, 25, 26, 27] (by decide +kernel) (by decide +kernel)
set_option maxRecDepth 20000 in
theorem ggL_holds_L_call_p2 : GoodIn wsL_holds wsL_call_r2 := goodIn_r _ [28, 29, 30, 31, 32, 33, 34, 35, 36, 37, 38, 39, 40, 41, 42, 43, 44, 45, 46, 47, 48, 49, 50, 51] (by decide +kernel) (by decide +kernel)
set_option maxRecDepth 20000 in
theorem ggL_holds_L_call_p3 : GoodIn wsL_holds wsL_call_r3 := goodIn_r _ [52, 53, 54, 55, 56, 57, 58, 59, 60, 61, 62, 63, 64, 65, 66, 67, 68, 69, 70, 71, 72, 73, 74, 75] (by decide +kernel) (by decide +kernel)
set_option maxRecDepth 20000 in
theorem ggL_holds_L_call_p4 : GoodIn wsL_holds wsL_call_r4 := goodIn_r _ [76, 77, 78, 79, 80, 81, 82, 83, 84, 85, 86, 87, 88, 89, 90, 91, 92, 93, 94, 95, 96, 97, 98, 99] (by decide +kernel) (by decide +kernel)
set_option maxRecDepth 20000 in
theorem ggL_holds_L_call_p5 : GoodIn wsL_holds wsL_call_r5 := goodIn_r _ [100, 101, 102, 103, 104, 105, 106, 107, 108, 109, 110, 111, 112, 113, 114, 115, 116, 117, 118, 119, 120, 121, 122, 123] (by decide +kernel) (by decide +kernel)
set_option maxRecDepth 20000 in
theorem ggL_holds_L_call_p6 : GoodIn wsL_holds wsL_call_r6 := goodIn_r _ [124, 125, 126, 127, 128, 129, 130, 131, 132, 133, 134, 135, 136, 137, 138, 139, 140, 141, 142, 143, 144, 145, 146, 147] (by decide +kernel) (by decide +kernel)
set_option maxRecDepth 20000 in
theorem ggL_holds_L_call_p7 : GoodIn wsL_holds wsL_call_r7 := goodIn_r _ [148, 149, 150, 151, 152, 153, 154, 155, 156, 157, 158, 159, 160, 161, 162, 163, 164, 165, 166, 167, 168, 169, 170, 171] (by decide +kernel) (by decide +kernel)
set_option maxRecDepth 20000 in
theorem ggL_holds_L_call_p8 : GoodIn wsL_holds wsL_call_r8 := goodIn_r _ [172, 173, 174, 175, 176, 177, 178, 179, 180, 181, 182, 183, 184, 185, 186, 187, 188, 189, 190, 191, 192, 193, 194, 195] (by decide +kernel) (by decide +kernel)
set_option maxRecDepth 20000 in
theorem ggL_holds_L_call_p9 : GoodIn wsL_holds wsL_call_r9 := goodIn_r _ [196, 197, 198, 199, 200, 201, 202, 203, 204, 205, 206, 207, 208, 209, 210, 211, 212, 213, 214, 215, 216, 217, 218, 219] (by decide +kernel) (by decide +kernel)
set_option maxRecDepth 20000 in
theorem ggL_holds_L_call_p10 : GoodIn wsL_holds wsL_call_r10 := goodIn_r _ [220, 221, 222, 223, 224, 225, 226, 227, 228, 229, 230, 231, 232, 233, 234, 235, 236, 237, 238, 239, 240, 241, 242, 243] (by decide +kernel) (by decide +kernel)
set_option maxRecDepth 20000 in
theorem ggL_holds_L_call_p11 : GoodIn wsL_holds wsL_call_r11 := goodIn_r _ [244, 245, 246, 247, 248, 249, 250, 251, 252, 253, 254, 255, 256, 257, 258, 259, 260, 261, 262, 263, 264, 265, 266, 267] (by decide +kernel) (by decide +kernel)
set_option maxRecDepth 20000 in
theorem ggL_holds_L_call_p12 : GoodIn wsL_holds wsL_call_r12 := goodIn_r _ [268, 269, 270, 271, 272, 273, 274, 275, 276, 277, 278, 279, 280, 281, 282, 283, 284, 285, 286, 287, 288, 289, 290, 291] (by decide +kernel) (by decide +kernel)
set_option maxRecDepth 20000 in
theorem ggL_holds_L_call_p13 : GoodIn wsL_holds wsL_call_r13 := goodIn_r _ [292, 293, 294, 295, 296, 297, 298, 299, 300, 301, 302, 303, 304, 305, 306, 307, 308, 309, 310, 311, 312, 313, 314, 315] (by decide +kernel) (by decide +kernel)
set_option maxRecDepth 20000 in
theorem ggL_holds_L_call_p14 : GoodIn wsL_holds wsL_call_r14 := goodIn_r _ [316, 317, 318, 319, 320, 321, 322, 323, 324, 325, 326, 327, 328, 329, 330, 331, 332, 333, 334, 335, 336, 337, 338, 339] (by decide +kernel) (by decide +kernel)
set_option maxRecDepth 20000 in
theorem ggL_holds_L_call_p15 : GoodIn wsL_holds wsL_call_r15 := goodIn_r _ [340, 341, 342, 343, 344, 345, 346, 347, 348, 349, 350, 351, 352, 353, 354, 355, 356, 357, 358, 359, 360, 361, 362, 363] (by decide +kernel) (by decide +kernel)
set_option maxRecDepth 20000 in
theorem ggL_holds_L_call_p16 : GoodIn wsL_holds wsL_call_r16 := goodIn_r _ [364, 365, 366, 367, 368, 369, 370, 371, 372, 373, 374, 375, 376, 377, 378, 379, 380, 381, 382, 383, 384, 385, 386, 387] (by decide +kernel) (by decide +kernel)
set_option maxRecDepth 20000 in
theorem ggL_holds_L_call_p17 : GoodIn wsL_holds wsL_call_r17 := goodIn_r _ [388, 389, 390, 391, 392, 393, 394, 395, 396, 397, 398, 399, 400, 401, 402, 403, 404, 405, 406, 407, 408, 409, 410, 411] (by decide +kernel) (by decide +kernel)
set_option maxRecDepth 20000 in
theorem ggL_holds_L_call_p18 : GoodIn wsL_holds wsL_call_r18 := goodIn_r _ [412, 413, 414, 415, 416, 417, 418, 419, 420, 421, 422, 423, 424, 425, 426, 427, 428, 429, 430, 431, 432, 433, 434, 435] (by decide +kernel) (by decide +kernel)
set_option maxRecDepth 20000 in
theorem ggL_holds_L_call_p19 : GoodIn wsL_holds wsL_call_r19 := goodIn_r _ [436, 437, 438, 439, 440, 441, 442, 443, 444, 445, 446, 447, 448, 449, 450, 451, 452, 453, 454, 455, 456, 457, 458, 459] (by decide +kernel) (by decide +kernel)
set_option maxRecDepth 20000 in
theorem ggL_holds_L_call_p20 : GoodIn wsL_holds wsL_call_r20 := goodIn_r _ [460, 461, 462, 463, 464, 465, 466, 467, 468, 469, 470, 471, 472, 473, 474, 475, 476, 477, 478] (by decide +kernel) (by decide +kernel)
set_option maxRecDepth 20000 in
theorem ggL_holds_L_call_p21 : GoodIn wsL_holds wsX60 := goodIn_r _ [499, 500, 501, 502, 503, 504] (by decide +kernel) (by decide +kernel)
set_option maxRecDepth 20000 in
theorem ggL_holds_L_call_p22 : GoodIn wsL_holds wsX50 := goodIn_r _ [505, 506] (by decide +kernel) (by decide +kernel)
set_option maxRecDepth 20000 in
theorem ggL_holds_L_call_p23 : GoodIn wsL_holds wsX40 := goodIn_r _ [507, 508, 509, 510, 511, 512] (by decide +kernel) (by decide +kernel)
set_option maxRecDepth 20000 in
theorem ggL_holds_L_call_p24 : GoodIn wsL_holds wsX00 := goodIn_r _ [513, 514, 515, 516, 517] (by decide +kernel) (by decide +kernel)
set_option maxRecDepth 20000 in
theorem ggL_holds_L_call_p25 : GoodIn wsL_holds wsX10 := goodIn_r _ [518, 519, 520] (by decide +kernel) (by decide +kernel)
set_option maxRecDepth 20000 in
theorem ggL_holds_L_call_p26 : GoodIn wsL_holds wsX30 := goodIn_r _ [521] (by decide +kernel) (by decide +kernel)
set_option maxRecDepth 20000 in
theorem ggL_holds_L_call_p27 : GoodIn wsL_holds wsX20 := goodIn_r _ [522, 523, 524, 525, 526, 527] (by decide +kernel) (by decide +kernel)
set_option maxRecDepth 20000 in
theorem ggL_holds_L_call : GoodIn wsL_holds wsL_call := goodIn_ca (goodIn_ca (goodIn_ca (goodIn_c2 ggL_holds_L_call_p0 (goodIn_app (goodIn_app (goodIn_app (goodIn_app (goodIn_app (goodIn_app (goodIn_app (goodIn_app ggL_holds_L_call_p1 (goodIn_app ggL_holds_L_call_p2 (goodIn_app ggL_holds_L_call_p3 (goodIn_app ggL_holds_L_call_p4 (goodIn_app ggL_holds_L_call_p5 (goodIn_app ggL_holds_L_call_p6 (goodIn_app ggL_holds_L_call_p7 (goodIn_app ggL_holds_L_call_p8 (goodIn_app ggL_holds_L_call_p9 (goodIn_app ggL_holds_L_call_p10 (goodIn_app ggL_holds_L_call_p11 (goodIn_app ggL_holds_L_call_p12 (goodIn_app ggL_holds_L_call_p13 (goodIn_app ggL_holds_L_call_p14 (goodIn_app ggL_holds_L_call_p15 (goodIn_app ggL_holds_L_call_p16 (goodIn_app ggL_holds_L_call_p17 (goodIn_app ggL_holds_L_call_p18 (goodIn_app ggL_holds_L_call_p19 ggL_holds_L_call_p20))))))))))))))))))) ggL_holds_L_call_p21) ggL_holds_L_call_p22) ggL_holds_L_call_p23) ggL_holds_L_call_p24) ggL_holds_L_call_p25) ggL_holds_L_call_p26) ggL_holds_L_call_p27)) (goodIn_sub (fun _ h => List.mem_cons_of_mem _ (List.mem_append_left _ (List.mem_append_left _ (List.mem_append_right _ h)))) (by decide +kernel))) (goodIn_sub (fun _ h => List.mem_cons_of_mem _ (List.mem_append_left _ (List.mem_append_right _ h))) (by decide +kernel))) (goodIn_sub (fun _ h => List.mem_cons_of_mem _ (List.mem_append_right _ h)) (by decide +kernel))
set_option maxRecDepth 20000 in
theorem gL_holds_L_call : GoodIn wsL_holds (va_wsS RL 150 yL_call wsL_call) := goodIn_app (goodIn_of _ (by decide +kernel)) ggL_holds_L_call
set_option maxRecDepth 20000 in
theorem ggL_holds_X6_closest_p0 : GoodIn wsL_holds [.code yX6_closest cX6_closest 1 (some .int)] := goodIn_r _ [482] (by decide +kernel) (by decide +kernel)
theorem ggL_holds_X6_closest_p1 : GoodIn wsL_holds wsX6_closest_r1 := goodIn_r _ [337, 39, 483, 484, 485, 343, 486, 348, 349, 372, 105, 106, 69, 107, 108, 49, 15, 50, 352, 353, 354, 355, 356, 357] (by decide +kernel) (by decide +kernel)
theorem ggL_holds_X6_closest_p2 : GoodIn wsL_holds wsX6_closest_r2 := goodIn_r _ [190, 191, 192, 358, 62, 63, 46, 64, 65, 30, 31, 359, 84, 85, 86, 87, 360, 361, 362, 363, 364, 365, 366, 218] (by decide +kernel) (by decide +kernel)
theorem ggL_holds_X6_closest_p3 : GoodIn wsL_holds wsX6_closest_r3 := goodIn_r _ [219] (by decide +kernel) (by decide +kernel)
theorem ggL_holds_X6_closest_p4 : GoodIn wsL_holds wsX60 := goodIn_r _ [499, 500, 501, 502, 503, 504] (by decide +kernel) (by decide +kernel)
theorem ggL_holds_X6_closest_p5 : GoodIn wsL_holds wsX40 := goodIn_r _ [507, 508, 509, 510, 511, 512] (by decide +kernel) (by decide +kernel)
theorem ggL_holds_X6_closest_p6 : GoodIn wsL_holds wsX20 := goodIn_r _ [522, 523, 524, 525, 526, 527] (by decide +kernel) (by decide +kernel)
theorem ggL_holds_X6_closest_p7 : GoodIn wsL_holds wsX00 := goodIn_r _ [513, 514, 515, 516, 517] (by decide +kernel) (by decide +kernel)
theorem ggL_holds_X6_closest : GoodIn wsL_holds wsX6_closest := (goodIn_c2 ggL_holds_X6_closest_p0 (goodIn_app (goodIn_app (goodIn_app (goodIn_app (goodIn_app ggL_holds_X6_closest_p1 (goodIn_app ggL_holds_X6_closest_p2 ggL_holds_X6_closest_p3)) ggL_holds_X6_closest_p4) ggL_holds_X6_closest_p5) ggL_holds_X6_closest_p6) ggL_holds_X6_closest_p7))
set_option maxRecDepth 20000 in
theorem gL_holds_X6_closest : GoodIn wsL_holds (wsV RL 169 RX6 yX6_closest wsX6_closest) := goodIn_app (goodIn_of _ (by decide +kernel)) ggL_holds_X6_closest
set_option maxRecDepth 20000 in
theorem ggL_holds_X6_bestRuling_p0 : GoodIn wsL_holds [.code yX6_bestRuling cX6_bestRuling 5 (some .int)] := goodIn_r _ [490] (by decide +kernel) (by decide +kernel)
theorem ggL_holds_X6_bestRuling_p1 : GoodIn wsL_holds wsX6_bestRuling_r1 := goodIn_r _ [252, 39, 260, 179, 180, 69, 181, 172, 108, 138, 75, 103, 182, 183, 184, 185, 46, 186, 48, 60, 177, 65, 87, 187] (by decide +kernel) (by decide +kernel)
theorem ggL_holds_X6_bestRuling_p2 : GoodIn wsL_holds wsX6_bestRuling_r2 := goodIn_r _ [15, 188, 189, 190, 191, 192, 193, 194, 195, 196, 261, 262, 263, 264, 265, 266, 267, 268, 30, 31, 387, 388, 389, 390] (by decide +kernel) (by decide +kernel)
theorem ggL_holds_X6_bestRuling_p3 : GoodIn wsL_holds wsX6_bestRuling_r3 := goodIn_r _ [391, 392, 393, 394, 395, 396, 397, 398, 399, 400, 401, 55, 44, 45, 47, 49, 50, 56, 57, 58, 59, 206, 207, 208] (by decide +kernel) (by decide +kernel)
theorem ggL_holds_X6_bestRuling_p4 : GoodIn wsL_holds wsX6_bestRuling_r4 := goodIn_r _ [209, 211, 212, 213, 214, 215, 216, 217, 218, 219, 402, 403, 404, 405, 231, 232, 233, 234, 210, 62, 63, 64, 224, 225] (by decide +kernel) (by decide +kernel)
theorem ggL_holds_X6_bestRuling_p5 : GoodIn wsL_holds wsX6_bestRuling_r5 := goodIn_r _ [226, 227, 228, 229, 230, 491, 492, 493, 494, 337, 40, 483, 484, 485, 343, 486, 348, 349, 372, 105, 106, 107, 352, 353] (by decide +kernel) (by decide +kernel)
theorem ggL_holds_X6_bestRuling_p6 : GoodIn wsL_holds wsX6_bestRuling_r6 := goodIn_r _ [354, 355, 356, 357, 358, 359, 84, 85, 86, 360, 361, 362, 363, 364, 365, 366, 457] (by decide +kernel) (by decide +kernel)
theorem ggL_holds_X6_bestRuling_p7 : GoodIn wsL_holds wsX60 := goodIn_r _ [499, 500, 501, 502, 503, 504] (by decide +kernel) (by decide +kernel)
theorem ggL_holds_X6_bestRuling_p8 : GoodIn wsL_holds wsX40 := goodIn_r _ [507, 508, 509, 510, 511, 512] (by decide +kernel) (by decide +kernel)
theorem ggL_holds_X6_bestRuling_p9 : GoodIn wsL_holds wsX00 := goodIn_r _ [513, 514, 515, 516, 517] (by decide +kernel) (by decide +kernel)
theorem ggL_holds_X6_bestRuling_p10 : GoodIn wsL_holds wsX20 := goodIn_r _ [522, 523, 524, 525, 526, 527] (by decide +kernel) (by decide +kernel)
theorem ggL_holds_X6_bestRuling : GoodIn wsL_holds wsX6_bestRuling := (goodIn_c2 ggL_holds_X6_bestRuling_p0 (goodIn_app (goodIn_app (goodIn_app (goodIn_app (goodIn_app ggL_holds_X6_bestRuling_p1 (goodIn_app ggL_holds_X6_bestRuling_p2 (goodIn_app ggL_holds_X6_bestRuling_p3 (goodIn_app ggL_holds_X6_bestRuling_p4 (goodIn_app ggL_holds_X6_bestRuling_p5 ggL_holds_X6_bestRuling_p6))))) ggL_holds_X6_bestRuling_p7) ggL_holds_X6_bestRuling_p8) ggL_holds_X6_bestRuling_p9) ggL_holds_X6_bestRuling_p10))
set_option maxRecDepth 20000 in
theorem gL_holds_X6_bestRuling : GoodIn wsL_holds (wsV RL 178 RX6 yX6_bestRuling wsX6_bestRuling) := goodIn_app (goodIn_of _ (by decide +kernel)) ggL_holds_X6_bestRuling
set_option maxRecDepth 20000 in
theorem ggL_holds_X6_byOthers_p0 : GoodIn wsL_holds [.code yX6_byOthers cX6_byOthers 3 (some .int)] := goodIn_r _ [498] (by decide +kernel) (by decide +kernel)
theorem ggL_holds_X6_byOthers_p1 : GoodIn wsL_holds wsX6_byOthers_r1 := goodIn_r _ [39, 42, 337, 339, 340, 341, 342, 343, 344, 345, 346, 347, 348, 349, 350, 351, 352, 353, 354, 355, 356, 357, 190, 191] (by decide +kernel) (by decide +kernel)
theorem ggL_holds_X6_byOthers_p2 : GoodIn wsL_holds wsX6_byOthers_r2 := goodIn_r _ [192, 358, 62, 63, 46, 64, 65, 49, 15, 50, 30, 31, 359, 84, 85, 86, 87, 360, 361, 362, 363, 364, 365, 366] (by decide +kernel) (by decide +kernel)
theorem ggL_holds_X6_byOthers_p3 : GoodIn wsL_holds wsX6_byOthers_r3 := goodIn_r _ [218, 219, 367, 135, 136, 69, 137, 138, 368, 369, 370, 371, 372, 105, 106, 107, 108, 104] (by decide +kernel) (by decide +kernel)
theorem ggL_holds_X6_byOthers_p4 : GoodIn wsL_holds wsX60 := goodIn_r _ [499, 500, 501, 502, 503, 504] (by decide +kernel) (by decide +kernel)
theorem ggL_holds_X6_byOthers_p5 : GoodIn wsL_holds wsX40 := goodIn_r _ [507, 508, 509, 510, 511, 512] (by decide +kernel) (by decide +kernel)
theorem ggL_holds_X6_byOthers_p6 : GoodIn wsL_holds wsX20 := goodIn_r _ [522, 523, 524, 525, 526, 527] (by decide +kernel) (by decide +kernel)
theorem ggL_holds_X6_byOthers_p7 : GoodIn wsL_holds wsX00 := goodIn_r _ [513, 514, 515, 516, 517] (by decide +kernel) (by decide +kernel)
theorem ggL_holds_X6_byOthers : GoodIn wsL_holds wsX6_byOthers := (goodIn_c2 ggL_holds_X6_byOthers_p0 (goodIn_app (goodIn_app (goodIn_app (goodIn_app (goodIn_app ggL_holds_X6_byOthers_p1 (goodIn_app ggL_holds_X6_byOthers_p2 ggL_holds_X6_byOthers_p3)) ggL_holds_X6_byOthers_p4) ggL_holds_X6_byOthers_p5) ggL_holds_X6_byOthers_p6) ggL_holds_X6_byOthers_p7))
set_option maxRecDepth 20000 in
theorem gL_holds_X6_byOthers : GoodIn wsL_holds (wsV RL 172 RX6 yX6_byOthers wsX6_byOthers) := goodIn_app (goodIn_of _ (by decide +kernel)) ggL_holds_X6_byOthers
theorem dL_holds_0 : decode cL_holds 0 = .ok (.aload_n 0, 1) := by decide +kernel
theorem dL_holds_1 : decode cL_holds 1 = .ok (.iconst 1, 1) := by decide +kernel
theorem dL_holds_2 : decode cL_holds 2 = .ok (.iconst 4, 1) := by decide +kernel
theorem dL_holds_3 : decode cL_holds 3 = .ok (.iconst 0, 1) := by decide +kernel
theorem dL_holds_4 : decode cL_holds 4 = .ok (.iconst 0, 1) := by decide +kernel
theorem dL_holds_5 : decode cL_holds 5 = .ok (.invokestatic 150, 3) := by decide +kernel
theorem dL_holds_8 : decode cL_holds 8 = .ok (.istore_n 2, 1) := by decide +kernel
theorem dL_holds_9 : decode cL_holds 9 = .ok (.aload_n 0, 1) := by decide +kernel
theorem dL_holds_10 : decode cL_holds 10 = .ok (.iconst 1, 1) := by decide +kernel
theorem dL_holds_11 : decode cL_holds 11 = .ok (.iconst 3, 1) := by decide +kernel
theorem dL_holds_12 : decode cL_holds 12 = .ok (.iconst 0, 1) := by decide +kernel
theorem dL_holds_13 : decode cL_holds 13 = .ok (.iconst 0, 1) := by decide +kernel
theorem dL_holds_14 : decode cL_holds 14 = .ok (.invokestatic 150, 3) := by decide +kernel
theorem dL_holds_17 : decode cL_holds 17 = .ok (.istore_n 3, 1) := by decide +kernel
theorem dL_holds_18 : decode cL_holds 18 = .ok (.iload_n 3, 1) := by decide +kernel
theorem dL_holds_19 : decode cL_holds 19 = .ok (.bipush 40, 2) := by decide +kernel
theorem dL_holds_21 : decode cL_holds 21 = .ok (.if_icmp .gt 36, 3) := by decide +kernel
theorem dL_holds_24 : decode cL_holds 24 = .ok (.aload_n 0, 1) := by decide +kernel
theorem dL_holds_25 : decode cL_holds 25 = .ok (.iconst 2, 1) := by decide +kernel
theorem dL_holds_26 : decode cL_holds 26 = .ok (.iload_n 3, 1) := by decide +kernel
theorem dL_holds_27 : decode cL_holds 27 = .ok (.iconst 0, 1) := by decide +kernel
theorem dL_holds_28 : decode cL_holds 28 = .ok (.iconst 0, 1) := by decide +kernel
theorem dL_holds_29 : decode cL_holds 29 = .ok (.invokestatic 150, 3) := by decide +kernel
theorem dL_holds_32 : decode cL_holds 32 = .ok (.iconst (-1), 1) := by decide +kernel
theorem dL_holds_33 : decode cL_holds 33 = .ok (.if_icmp .ne 24, 3) := by decide +kernel
theorem dL_holds_36 : decode cL_holds 36 = .ok (.iload_n 3, 1) := by decide +kernel
theorem dL_holds_37 : decode cL_holds 37 = .ok (.ifCond .eq 16, 3) := by decide +kernel
theorem dL_holds_40 : decode cL_holds 40 = .ok (.aload_n 0, 1) := by decide +kernel
theorem dL_holds_41 : decode cL_holds 41 = .ok (.iconst 2, 1) := by decide +kernel
theorem dL_holds_42 : decode cL_holds 42 = .ok (.iload_n 3, 1) := by decide +kernel
theorem dL_holds_43 : decode cL_holds 43 = .ok (.iconst 1, 1) := by decide +kernel
theorem dL_holds_44 : decode cL_holds 44 = .ok (.isub, 1) := by decide +kernel
theorem dL_holds_45 : decode cL_holds 45 = .ok (.iconst 0, 1) := by decide +kernel
theorem dL_holds_46 : decode cL_holds 46 = .ok (.iconst 0, 1) := by decide +kernel
theorem dL_holds_47 : decode cL_holds 47 = .ok (.invokestatic 150, 3) := by decide +kernel
theorem dL_holds_50 : decode cL_holds 50 = .ok (.ifCond .lt 7, 3) := by decide +kernel
theorem dL_holds_53 : decode cL_holds 53 = .ok (.iconst 1, 1) := by decide +kernel
theorem dL_holds_54 : decode cL_holds 54 = .ok (.goto 4, 3) := by decide +kernel
theorem dL_holds_57 : decode cL_holds 57 = .ok (.iconst 0, 1) := by decide +kernel
theorem dL_holds_58 : decode cL_holds 58 = .ok (.istore 4, 2) := by decide +kernel
theorem dL_holds_60 : decode cL_holds 60 = .ok (.iconst 0, 1) := by decide +kernel
theorem dL_holds_61 : decode cL_holds 61 = .ok (.istore 5, 2) := by decide +kernel
theorem dL_holds_63 : decode cL_holds 63 = .ok (.iconst 0, 1) := by decide +kernel
theorem dL_holds_64 : decode cL_holds 64 = .ok (.istore 6, 2) := by decide +kernel
theorem dL_holds_66 : decode cL_holds 66 = .ok (.iload 6, 2) := by decide +kernel
theorem dL_holds_68 : decode cL_holds 68 = .ok (.iload_n 3, 1) := by decide +kernel
theorem dL_holds_69 : decode cL_holds 69 = .ok (.if_icmp .ge 32, 3) := by decide +kernel
theorem dL_holds_72 : decode cL_holds 72 = .ok (.iload 5, 2) := by decide +kernel
theorem dL_holds_74 : decode cL_holds 74 = .ok (.aload_n 0, 1) := by decide +kernel
theorem dL_holds_75 : decode cL_holds 75 = .ok (.iconst 2, 1) := by decide +kernel
theorem dL_holds_76 : decode cL_holds 76 = .ok (.iload 6, 2) := by decide +kernel
theorem dL_holds_78 : decode cL_holds 78 = .ok (.iconst 0, 1) := by decide +kernel
theorem dL_holds_79 : decode cL_holds 79 = .ok (.iconst 0, 1) := by decide +kernel
theorem dL_holds_80 : decode cL_holds 80 = .ok (.invokestatic 150, 3) := by decide +kernel
theorem dL_holds_83 : decode cL_holds 83 = .ok (.iconst 4, 1) := by decide +kernel
theorem dL_holds_84 : decode cL_holds 84 = .ok (.if_icmp .ne 7, 3) := by decide +kernel
theorem dL_holds_87 : decode cL_holds 87 = .ok (.iconst 1, 1) := by decide +kernel
theorem dL_holds_88 : decode cL_holds 88 = .ok (.goto 4, 3) := by decide +kernel
theorem dL_holds_91 : decode cL_holds 91 = .ok (.iconst 0, 1) := by decide +kernel
theorem dL_holds_92 : decode cL_holds 92 = .ok (.iadd, 1) := by decide +kernel
theorem dL_holds_93 : decode cL_holds 93 = .ok (.istore 5, 2) := by decide +kernel
theorem dL_holds_95 : decode cL_holds 95 = .ok (.iinc 6 1, 3) := by decide +kernel
theorem dL_holds_98 : decode cL_holds 98 = .ok (.goto (-32), 3) := by decide +kernel
theorem dL_holds_101 : decode cL_holds 101 = .ok (.aload_n 0, 1) := by decide +kernel
theorem dL_holds_102 : decode cL_holds 102 = .ok (.iconst 1, 1) := by decide +kernel
theorem dL_holds_103 : decode cL_holds 103 = .ok (.iconst 0, 1) := by decide +kernel
theorem dL_holds_104 : decode cL_holds 104 = .ok (.iconst 0, 1) := by decide +kernel
theorem dL_holds_105 : decode cL_holds 105 = .ok (.iconst 0, 1) := by decide +kernel
theorem dL_holds_106 : decode cL_holds 106 = .ok (.invokestatic 150, 3) := by decide +kernel
theorem dL_holds_109 : decode cL_holds 109 = .ok (.istore 6, 2) := by decide +kernel
theorem dL_holds_111 : decode cL_holds 111 = .ok (.iload 4, 2) := by decide +kernel
theorem dL_holds_113 : decode cL_holds 113 = .ok (.ifCond .eq 25, 3) := by decide +kernel
theorem dL_holds_116 : decode cL_holds 116 = .ok (.iload 5, 2) := by decide +kernel
theorem dL_holds_118 : decode cL_holds 118 = .ok (.iload 6, 2) := by decide +kernel
theorem dL_holds_120 : decode cL_holds 120 = .ok (.ifCond .ne 7, 3) := by decide +kernel
theorem dL_holds_123 : decode cL_holds 123 = .ok (.iconst 0, 1) := by decide +kernel
theorem dL_holds_124 : decode cL_holds 124 = .ok (.goto 7, 3) := by decide +kernel
theorem dL_holds_127 : decode cL_holds 127 = .ok (.iload 6, 2) := by decide +kernel
theorem dL_holds_129 : decode cL_holds 129 = .ok (.iconst 1, 1) := by decide +kernel
theorem dL_holds_130 : decode cL_holds 130 = .ok (.isub, 1) := by decide +kernel
theorem dL_holds_131 : decode cL_holds 131 = .ok (.if_icmp .ne 7, 3) := by decide +kernel
theorem dL_holds_134 : decode cL_holds 134 = .ok (.iconst 1, 1) := by decide +kernel
theorem dL_holds_135 : decode cL_holds 135 = .ok (.goto 4, 3) := by decide +kernel
theorem dL_holds_138 : decode cL_holds 138 = .ok (.iconst 0, 1) := by decide +kernel
theorem dL_holds_139 : decode cL_holds 139 = .ok (.istore 4, 2) := by decide +kernel
theorem dL_holds_141 : decode cL_holds 141 = .ok (.aload_n 0, 1) := by decide +kernel
theorem dL_holds_142 : decode cL_holds 142 = .ok (.bipush 14, 2) := by decide +kernel
theorem dL_holds_144 : decode cL_holds 144 = .ok (.iconst 0, 1) := by decide +kernel
theorem dL_holds_145 : decode cL_holds 145 = .ok (.iconst 0, 1) := by decide +kernel
theorem dL_holds_146 : decode cL_holds 146 = .ok (.iconst 0, 1) := by decide +kernel
theorem dL_holds_147 : decode cL_holds 147 = .ok (.invokestatic 150, 3) := by decide +kernel
theorem dL_holds_150 : decode cL_holds 150 = .ok (.istore 7, 2) := by decide +kernel
theorem dL_holds_152 : decode cL_holds 152 = .ok (.aload_n 0, 1) := by decide +kernel
theorem dL_holds_153 : decode cL_holds 153 = .ok (.bipush 14, 2) := by decide +kernel
theorem dL_holds_155 : decode cL_holds 155 = .ok (.iconst 2, 1) := by decide +kernel
theorem dL_holds_156 : decode cL_holds 156 = .ok (.iconst 0, 1) := by decide +kernel
theorem dL_holds_157 : decode cL_holds 157 = .ok (.iconst 0, 1) := by decide +kernel
theorem dL_holds_158 : decode cL_holds 158 = .ok (.invokestatic 150, 3) := by decide +kernel
theorem dL_holds_161 : decode cL_holds 161 = .ok (.istore 8, 2) := by decide +kernel
theorem dL_holds_163 : decode cL_holds 163 = .ok (.aload_n 0, 1) := by decide +kernel
theorem dL_holds_164 : decode cL_holds 164 = .ok (.bipush 14, 2) := by decide +kernel
theorem dL_holds_166 : decode cL_holds 166 = .ok (.iconst 3, 1) := by decide +kernel
theorem dL_holds_167 : decode cL_holds 167 = .ok (.iconst 0, 1) := by decide +kernel
theorem dL_holds_168 : decode cL_holds 168 = .ok (.iconst 0, 1) := by decide +kernel
theorem dL_holds_169 : decode cL_holds 169 = .ok (.invokestatic 150, 3) := by decide +kernel
