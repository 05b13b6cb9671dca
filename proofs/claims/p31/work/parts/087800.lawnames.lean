theorem dL_cell_0 : decode cL_cell 0 = .ok (.iload_n 1, 1) := by decide +kernel
theorem dL_cell_1 : decode cL_cell 1 = .ok (.aload_n 0, 1) := by decide +kernel
theorem dL_cell_2 : decode cL_cell 2 = .ok (.arraylength, 1) := by decide +kernel
theorem dL_cell_3 : decode cL_cell 3 = .ok (.if_icmp .ge 9, 3) := by decide +kernel
theorem dL_cell_6 : decode cL_cell 6 = .ok (.aload_n 0, 1) := by decide +kernel
theorem dL_cell_7 : decode cL_cell 7 = .ok (.iload_n 1, 1) := by decide +kernel
theorem dL_cell_8 : decode cL_cell 8 = .ok (.iaload, 1) := by decide +kernel
theorem dL_cell_9 : decode cL_cell 9 = .ok (.goto 13, 3) := by decide +kernel
theorem dL_cell_12 : decode cL_cell 12 = .ok (.ldc 148, 2) := by decide +kernel
theorem dL_cell_14 : decode cL_cell 14 = .ok (.iload_n 1, 1) := by decide +kernel
theorem dL_cell_15 : decode cL_cell 15 = .ok (.iconst 3, 1) := by decide +kernel
theorem dL_cell_16 : decode cL_cell 16 = .ok (.iadd, 1) := by decide +kernel
theorem dL_cell_17 : decode cL_cell 17 = .ok (.imul, 1) := by decide +kernel
theorem dL_cell_18 : decode cL_cell 18 = .ok (.sipush 10651, 3) := by decide +kernel
theorem dL_cell_21 : decode cL_cell 21 = .ok (.iadd, 1) := by decide +kernel
theorem dL_cell_22 : decode cL_cell 22 = .ok (.ldc 149, 2) := by decide +kernel
theorem dL_cell_24 : decode cL_cell 24 = .ok (.iand, 1) := by decide +kernel
theorem dL_cell_25 : decode cL_cell 25 = .ok (.ireturn, 1) := by decide +kernel
set_option maxRecDepth 20000 in
theorem ggL_refuses_L_call_p0 : GoodIn wsL_refuses [.code yL_call cL_call 5 (some .int)] := goodIn_r _ [9] (by decide +kernel) (by decide +kernel)
set_option maxRecDepth 20000 in
theorem ggL_refuses_L_call_p1 : GoodIn wsL_refuses wsL_call_r1 := goodIn_r _ [10, 11, 8, 12, 13, 14, 1, 5, 15, 16, 17, 18, 19, 20, 21, 22, 23, 24, 25, 26, 27, 28, 29, 30] (by decide +kernel) (by decide +kernel)
set_option maxRecDepth 20000 in
theorem ggL_refuses_L_call_p2 : GoodIn wsL_refuses wsL_call_r2 := goodIn_r _ [31, 32, 33, 34, 35, 36, 37, 38, 39, 40, 41, 42, 43, 44, 45, 46, 47, 48, 49, 50, 51, 52, 53, 54] (by decide +kernel) (by decide +kernel)
set_option maxRecDepth 20000 in
theorem ggL_refuses_L_call_p3 : GoodIn wsL_refuses wsL_call_r3 := goodIn_r _ [55, 56, 57, 58, 59, 60, 61, 62, 63, 64, 65, 66, 67, 68, 69, 70, 71, 72, 73, 74, 75, 76, 77, 78] (by decide +kernel) (by decide +kernel)
set_option maxRecDepth 20000 in
theorem ggL_refuses_L_call_p4 : GoodIn wsL_refuses wsL_call_r4 := goodIn_r _ [79, 80, 81, 82, 83, 84, 85, 86, 87, 88, 89, 90, 91, 92, 93, 94, 2, 95, 96, 97, 98, 99, 100, 101] (by decide +kernel) (by decide +kernel)
set_option maxRecDepth 20000 in
theorem ggL_refuses_L_call_p5 : GoodIn wsL_refuses wsL_call_r5 := goodIn_r _ [102, 103, 104, 105, 106, 107, 108, 109, 110, 111, 112, 113, 114, 115, 116, 117, 118, 119, 120, 121, 122, 123, 124, 125] (by decide +kernel) (by decide +kernel)
set_option maxRecDepth 20000 in
theorem ggL_refuses_L_call_p6 : GoodIn wsL_refuses wsL_call_r6 := goodIn_r _ [126, 127, 128, 129, 130, 131, 132, 133, 134, 135, 136, 137, 138, 139, 140, 141, 142, 143, 144, 145, 146, 147, 148, 149] (by decide +kernel) (by decide +kernel)
set_option maxRecDepth 20000 in
theorem ggL_refuses_L_call_p7 : GoodIn wsL_refuses wsL_call_r7 := goodIn_r _ [150, 151, 152, 153, 154, 155, 156, 157, 158, 159, 160, 161, 162, 163, 164, 165, 166, 167, 168, 169, 170, 171, 172, 173] (by decide +kernel) (by decide +kernel)
set_option maxRecDepth 20000 in
theorem ggL_refuses_L_call_p8 : GoodIn wsL_refuses wsL_call_r8 := goodIn_r _ [174, 175, 176, 177, 178, 179, 180, 181, 182, 183, 184, 185, 186, 187, 188, 189, 190, 191, 192, 193, 194, 195, 196, 197] (by decide +kernel) (by decide +kernel)
set_option maxRecDepth 20000 in
theorem ggL_refuses_L_call_p9 : GoodIn wsL_refuses wsL_call_r9 := goodIn_r _ [198, 199, 200, 201, 202, 203, 204, 205, 206, 207, 208, 209, 210, 211, 212, 213, 214, 215, 216, 217, 218, 219, 220, 221] (by decide +kernel) (by decide +kernel)
set_option maxRecDepth 20000 in
theorem ggL_refuses_L_call_p10 : GoodIn wsL_refuses wsL_call_r10 := goodIn_r _ [222, 223, 224, 225, 226, 227, 228, 229, 230, 231, 232, 233, 234, 235, 236, 237, 238, 239, 240, 241, 242, 243, 244, 245] (by decide +kernel) (by decide +kernel)
set_option maxRecDepth 20000 in
theorem ggL_refuses_L_call_p11 : GoodIn wsL_refuses wsL_call_r11 := goodIn_r _ [246, 247, 248, 249, 250, 251, 252, 253, 254, 255, 256, 257, 258, 259, 260, 261, 262, 263, 264, 265, 266, 267, 268, 269] (by decide +kernel) (by decide +kernel)
set_option maxRecDepth 20000 in
theorem ggL_refuses_L_call_p12 : GoodIn wsL_refuses wsL_call_r12 := goodIn_r _ [270, 271, 272, 273, 274, 275, 276, 277, 278, 279, 280, 281, 282, 283, 284, 285, 286, 287, 288, 289, 290, 291, 292, 293] (by decide +kernel) (by decide +kernel)
set_option maxRecDepth 20000 in
theorem ggL_refuses_L_call_p13 : GoodIn wsL_refuses wsL_call_r13 := goodIn_r _ [294, 295, 296, 297, 298, 299, 300, 301, 302, 303, 304, 305, 306, 307, 308, 309, 310, 311, 312, 313, 314, 315, 316, 317] (by decide +kernel) (by decide +kernel)
set_option maxRecDepth 20000 in
theorem ggL_refuses_L_call_p14 : GoodIn wsL_refuses wsL_call_r14 := goodIn_r _ [318, 319, 320, 321, 322, 323, 324, 325, 326, 327, 328, 329, 330, 331, 332, 333, 334, 335, 336, 337, 338, 339, 340, 341] (by decide +kernel) (by decide +kernel)
set_option maxRecDepth 20000 in
theorem ggL_refuses_L_call_p15 : GoodIn wsL_refuses wsL_call_r15 := goodIn_r _ [342, 343, 344, 345, 346, 347, 348, 349, 350, 351, 352, 353, 354, 355, 356, 357, 358, 359, 360, 361, 362, 363, 364, 365] (by decide +kernel) (by decide +kernel)
set_option maxRecDepth 20000 in
theorem ggL_refuses_L_call_p16 : GoodIn wsL_refuses wsL_call_r16 := goodIn_r _ [366, 367, 368, 369, 370, 371, 372, 373, 374, 375, 376, 377, 378, 379, 380, 381, 382, 383, 384, 385, 386, 387, 388, 389] (by decide +kernel) (by decide +kernel)
set_option maxRecDepth 20000 in
theorem ggL_refuses_L_call_p17 : GoodIn wsL_refuses wsL_call_r17 := goodIn_r _ [390, 391, 392, 393, 394, 395, 396, 397, 398, 399, 400, 401, 402, 403, 404, 405, 406, 407, 408, 409, 410, 411, 412, 413] (by decide +kernel) (by decide +kernel)
set_option maxRecDepth 20000 in
theorem ggL_refuses_L_call_p18 : GoodIn wsL_refuses wsL_call_r18 := goodIn_r _ [414, 415, 416, 417, 418, 419, 420, 421, 422, 423, 424, 425, 426, 427, 428, 429, 430, 431, 432, 433, 434, 435, 436, 437] (by decide +kernel) (by decide +kernel)
set_option maxRecDepth 20000 in
theorem ggL_refuses_L_call_p19 : GoodIn wsL_refuses wsL_call_r19 := goodIn_r _ [438, 439, 440, 441, 442, 443, 444, 445, 446, 447, 448, 449, 450, 451, 452, 453, 454, 455, 456, 457, 458, 459, 460, 461] (by decide +kernel) (by decide +kernel)
set_option maxRecDepth 20000 in
theorem ggL_refuses_L_call_p20 : GoodIn wsL_refuses wsL_call_r20 := goodIn_r _ [462, 463, 464, 465, 466, 467, 468, 469, 470, 471, 472, 473, 474, 475, 476, 477, 478, 479, 480] (by decide +kernel) (by decide +kernel)
set_option maxRecDepth 20000 in
theorem ggL_refuses_L_call_p21 : GoodIn wsL_refuses wsX60 := goodIn_r _ [515, 516, 517, 518, 519, 520] (by decide +kernel) (by decide +kernel)
set_option maxRecDepth 20000 in
theorem ggL_refuses_L_call_p22 : GoodIn wsL_refuses wsX50 := goodIn_r _ [521, 522] (by decide +kernel) (by decide +kernel)
set_option maxRecDepth 20000 in
theorem ggL_refuses_L_call_p23 : GoodIn wsL_refuses wsX40 := goodIn_r _ [523, 524, 525, 526, 527, 528] (by decide +kernel) (by decide +kernel)
set_option maxRecDepth 20000 in
theorem ggL_refuses_L_call_p24 : GoodIn wsL_refuses wsX00 := goodIn_r _ [529, 530, 531, 532, 533] (by decide +kernel) (by decide +kernel)
set_option maxRecDepth 20000 in
theorem ggL_refuses_L_call_p25 : GoodIn wsL_refuses wsX10 := goodIn_r _ [534, 535, 536] (by decide +kernel) (by decide +kernel)
set_option maxRecDepth 20000 in
theorem ggL_refuses_L_call_p26 : GoodIn wsL_refuses wsX30 := goodIn_r _ [537] (by decide +kernel) (by decide +kernel)
set_option maxRecDepth 20000 in
theorem ggL_refuses_L_call_p27 : GoodIn wsL_refuses wsX20 := goodIn_r _ [538, 539, 540, 541, 542, 543] (by decide +kernel) (by decide +kernel)
set_option maxRecDepth 20000 in
theorem ggL_refuses_L_call : GoodIn wsL_refuses wsL_call := goodIn_ca (goodIn_ca (goodIn_ca (goodIn_c2 ggL_refuses_L_call_p0 (goodIn_app (goodIn_app (goodIn_app (goodIn_app (goodIn_app (goodIn_app (goodIn_app (goodIn_app ggL_refuses_L_call_p1 (goodIn_app ggL_refuses_L_call_p2 (goodIn_app ggL_refuses_L_call_p3 (goodIn_app ggL_refuses_L_call_p4 (goodIn_app ggL_refuses_L_call_p5 (goodIn_app ggL_refuses_L_call_p6 (goodIn_app ggL_refuses_L_call_p7 (goodIn_app ggL_refuses_L_call_p8 (goodIn_app ggL_refuses_L_call_p9 (goodIn_app ggL_refuses_L_call_p10 (goodIn_app ggL_refuses_L_call_p11 (goodIn_app ggL_refuses_L_call_p12 (goodIn_app ggL_refuses_L_call_p13 (goodIn_app ggL_refuses_L_call_p14 (goodIn_app ggL_refuses_L_call_p15 (goodIn_app ggL_refuses_L_call_p16 (goodIn_app ggL_refuses_L_call_p17 (goodIn_app ggL_refuses_L_call_p18 (goodIn_app ggL_refuses_L_call_p19 ggL_refuses_L_call_p20))))))))))))))))))) ggL_refuses_L_call_p21) ggL_refuses_L_call_p22) ggL_refuses_L_call_p23) ggL_refuses_L_call_p24) ggL_refuses_L_call_p25) ggL_refuses_L_call_p26) ggL_refuses_L_call_p27)) (goodIn_sub (fun _ h => List.mem_cons_of_mem _ (List.mem_append_left _ (List.mem_append_left _ (List.mem_append_right _ h)))) (by decide +kernel))) (goodIn_sub (fun _ h => List.mem_cons_of_mem _ (List.mem_append_left _ (List.mem_append_right _ h))) (by decide +kernel))) (goodIn_sub (fun _ h => List.mem_cons_of_mem _ (List.mem_append_right _ h)) (by decide +kernel))
set_option maxRecDepth 20000 in
theorem gL_refuses_L_call : GoodIn wsL_refuses (va_wsS RL 150 yL_call wsL_call) := goodIn_app (goodIn_of _ (by decide +kernel)) ggL_refuses_L_call
set_option maxRecDepth 20000 in
theorem ggL_refuses_L_tryScript_p0 : GoodIn wsL_refuses [.codeWith yL_tryScript cL_tryScript 5 (some .int) [(0, 6, 7, 13)]] := goodIn_r _ [483] (by decide +kernel) (by decide +kernel)
set_option maxRecDepth 20000 in
theorem ggL_refuses_L_tryScript_p1 : GoodIn wsL_refuses wsL_tryScript_r1 := goodIn_r _ [13, 1, 484, 485, 486, 18, 487, 20, 21, 254, 42, 488, 489, 490, 491, 262, 181, 182, 72, 183, 174, 110, 140, 78] (by decide +kernel) (by decide +kernel)
set_option maxRecDepth 20000 in
theorem ggL_refuses_L_tryScript_p2 : GoodIn wsL_refuses wsL_tryScript_r2 := goodIn_r _ [105, 184, 185, 186, 187, 49, 188, 51, 63, 179, 68, 90, 189, 190, 191, 192, 193, 194, 195, 196, 197, 198, 492, 493] (by decide +kernel) (by decide +kernel)
set_option maxRecDepth 20000 in
theorem ggL_refuses_L_tryScript_p3 : GoodIn wsL_refuses wsL_tryScript_r3 := goodIn_r _ [494, 495, 339, 341, 45, 436, 435, 199, 200, 201, 202, 150, 151, 203, 137, 138, 139, 52, 53, 204, 205, 206, 207, 58] (by decide +kernel) (by decide +kernel)
set_option maxRecDepth 20000 in
theorem ggL_refuses_L_tryScript_p4 : GoodIn wsL_refuses wsL_tryScript_r4 := goodIn_r _ [47, 48, 50, 59, 60, 61, 62, 208, 209, 210, 211, 212, 65, 66, 67, 213, 214, 215, 216, 217, 218, 219, 220, 221] (by decide +kernel) (by decide +kernel)
set_option maxRecDepth 20000 in
theorem ggL_refuses_L_tryScript_p5 : GoodIn wsL_refuses wsL_tryScript_r5 := goodIn_r _ [33, 34, 222, 223, 224, 225, 226, 227, 228, 229, 230, 231, 232, 233, 234, 235, 236, 237, 238, 239, 240, 496, 277, 278] (by decide +kernel) (by decide +kernel)
set_option maxRecDepth 20000 in
theorem ggL_refuses_L_tryScript_p6 : GoodIn wsL_refuses wsL_tryScript_r6 := goodIn_r _ [279, 293, 294, 295, 296, 297, 298, 299, 300, 301, 302, 107, 108, 109, 303, 304, 305, 306, 307, 308, 87, 88, 89, 309] (by decide +kernel) (by decide +kernel)
set_option maxRecDepth 20000 in
theorem ggL_refuses_L_tryScript_p7 : GoodIn wsL_refuses wsL_tryScript_r7 := goodIn_r _ [310, 311, 312, 313, 314, 315, 264, 265, 266, 267, 268, 269, 270, 323, 324, 325, 326, 327, 102, 103, 104, 386, 387, 388] (by decide +kernel) (by decide +kernel)
set_option maxRecDepth 20000 in
theorem ggL_refuses_L_tryScript_p8 : GoodIn wsL_refuses wsL_tryScript_r8 := goodIn_r _ [389, 390, 391, 392, 393, 394, 395, 396, 397, 398, 399, 400, 401, 402, 403, 404, 405, 406, 407, 342, 343, 344, 345, 346] (by decide +kernel) (by decide +kernel)
set_option maxRecDepth 20000 in
theorem ggL_refuses_L_tryScript_p9 : GoodIn wsL_refuses wsL_tryScript_r9 := goodIn_r _ [347, 348, 349, 350, 351, 352, 353, 354, 355, 356, 357, 358, 359, 360, 361, 362, 363, 364, 365, 366, 367, 368, 369, 370] (by decide +kernel) (by decide +kernel)
set_option maxRecDepth 20000 in
theorem ggL_refuses_L_tryScript_p10 : GoodIn wsL_refuses wsL_tryScript_r10 := goodIn_r _ [371, 372, 373, 374, 335, 336, 337, 338, 43, 340, 46, 375, 376, 377, 378, 74, 75, 76, 77, 263] (by decide +kernel) (by decide +kernel)
set_option maxRecDepth 20000 in
theorem ggL_refuses_L_tryScript_p11 : GoodIn wsL_refuses wsX60 := goodIn_r _ [515, 516, 517, 518, 519, 520] (by decide +kernel) (by decide +kernel)
set_option maxRecDepth 20000 in
theorem ggL_refuses_L_tryScript_p12 : GoodIn wsL_refuses wsX40 := goodIn_r _ [523, 524, 525, 526, 527, 528] (by decide +kernel) (by decide +kernel)
set_option maxRecDepth 20000 in
theorem ggL_refuses_L_tryScript_p13 : GoodIn wsL_refuses wsX00 := goodIn_r _ [529, 530, 531, 532, 533] (by decide +kernel) (by decide +kernel)
set_option maxRecDepth 20000 in
theorem ggL_refuses_L_tryScript_p14 : GoodIn wsL_refuses wsX20 := goodIn_r _ [538, 539, 540, 541, 542, 543] (by decide +kernel) (by decide +kernel)
set_option maxRecDepth 20000 in
theorem ggL_refuses_L_tryScript : GoodIn wsL_refuses wsL_tryScript := goodIn_ca (goodIn_c2 ggL_refuses_L_tryScript_p0 (goodIn_app (goodIn_app (goodIn_app (goodIn_app (goodIn_app ggL_refuses_L_tryScript_p1 (goodIn_app ggL_refuses_L_tryScript_p2 (goodIn_app ggL_refuses_L_tryScript_p3 (goodIn_app ggL_refuses_L_tryScript_p4 (goodIn_app ggL_refuses_L_tryScript_p5 (goodIn_app ggL_refuses_L_tryScript_p6 (goodIn_app ggL_refuses_L_tryScript_p7 (goodIn_app ggL_refuses_L_tryScript_p8 (goodIn_app ggL_refuses_L_tryScript_p9 ggL_refuses_L_tryScript_p10))))))))) ggL_refuses_L_tryScript_p11) ggL_refuses_L_tryScript_p12) ggL_refuses_L_tryScript_p13) ggL_refuses_L_tryScript_p14)) (goodIn_sub (fun _ h => List.mem_cons_of_mem _ (List.mem_append_left _ (List.mem_append_left _ (List.mem_append_right _ h)))) (by decide +kernel))
set_option maxRecDepth 20000 in
theorem gL_refuses_L_tryScript : GoodIn wsL_refuses (va_wsS RL 154 yL_tryScript wsL_tryScript) := goodIn_app (goodIn_of _ (by decide +kernel)) ggL_refuses_L_tryScript
set_option maxRecDepth 20000 in
theorem ggL_refuses_L_trySimulate_p0 : GoodIn wsL_refuses [.codeWith yL_trySimulate cL_trySimulate 5 (some .int) [(0, 6, 7, 13)]] := goodIn_r _ [499] (by decide +kernel) (by decide +kernel)
set_option maxRecDepth 20000 in
theorem ggL_refuses_L_trySimulate_p1 : GoodIn wsL_refuses wsL_trySimulate_r1 := goodIn_r _ [13, 1, 500, 501, 502, 18, 503, 20, 21, 254, 42, 504, 505, 45, 262, 181, 182, 72, 183, 174, 110, 140, 78, 105] (by decide +kernel) (by decide +kernel)
set_option maxRecDepth 20000 in
theorem ggL_refuses_L_trySimulate_p2 : GoodIn wsL_refuses wsL_trySimulate_r2 := goodIn_r _ [184, 185, 186, 187, 49, 188, 51, 63, 179, 68, 90, 189, 190, 191, 192, 193, 194, 195, 196, 197, 198, 69, 70, 71] (by decide +kernel) (by decide +kernel)
set_option maxRecDepth 20000 in
theorem ggL_refuses_L_trySimulate_p3 : GoodIn wsL_refuses wsL_trySimulate_r3 := goodIn_r _ [73, 74, 75, 76, 77, 52, 53, 506, 507, 508, 509, 510, 293, 294, 295, 296, 297, 47, 48, 50, 298, 299, 300, 301] (by decide +kernel) (by decide +kernel)
set_option maxRecDepth 20000 in
theorem ggL_refuses_L_trySimulate_p4 : GoodIn wsL_refuses wsL_trySimulate_r4 := goodIn_r _ [302, 107, 108, 109, 303, 304, 305, 306, 307, 65, 66, 67, 308, 87, 88, 89, 309, 310, 311, 312, 313, 314, 33, 34] (by decide +kernel) (by decide +kernel)
set_option maxRecDepth 20000 in
theorem ggL_refuses_L_trySimulate_p5 : GoodIn wsL_refuses wsL_trySimulate_r5 := goodIn_r _ [315, 264, 265, 266, 267, 268, 269, 270, 335, 336, 337, 338, 43, 339, 340, 341, 46, 342, 343, 344, 345, 346, 347, 348] (by decide +kernel) (by decide +kernel)
set_option maxRecDepth 20000 in
theorem ggL_refuses_L_trySimulate_p6 : GoodIn wsL_refuses wsL_trySimulate_r6 := goodIn_r _ [349, 350, 351, 352, 353, 354, 355, 356, 357, 358, 359, 360, 361, 362, 363, 364, 365, 366, 367, 368, 220, 221, 369, 137] (by decide +kernel) (by decide +kernel)
set_option maxRecDepth 20000 in
theorem ggL_refuses_L_trySimulate_p7 : GoodIn wsL_refuses wsL_trySimulate_r7 := goodIn_r _ [138, 139, 370, 371, 372, 373, 374, 375, 376, 377, 378, 263, 496, 277, 278, 279, 199, 200, 201, 202, 150, 151, 203, 204] (by decide +kernel) (by decide +kernel)
set_option maxRecDepth 20000 in
theorem ggL_refuses_L_trySimulate_p8 : GoodIn wsL_refuses wsL_trySimulate_r8 := goodIn_r _ [205, 206, 207, 58, 59, 60, 61, 62, 208, 209, 210, 211, 212, 213, 214, 215, 216, 217, 218, 219, 222, 223, 224, 225] (by decide +kernel) (by decide +kernel)
set_option maxRecDepth 20000 in
theorem ggL_refuses_L_trySimulate_p9 : GoodIn wsL_refuses wsL_trySimulate_r9 := goodIn_r _ [226, 227, 228, 229, 230, 231, 232, 233, 234, 235, 236, 237, 238, 239, 240] (by decide +kernel) (by decide +kernel)
set_option maxRecDepth 20000 in
theorem ggL_refuses_L_trySimulate_p10 : GoodIn wsL_refuses wsX60 := goodIn_r _ [515, 516, 517, 518, 519, 520] (by decide +kernel) (by decide +kernel)
set_option maxRecDepth 20000 in
theorem ggL_refuses_L_trySimulate_p11 : GoodIn wsL_refuses wsX40 := goodIn_r _ [523, 524, 525, 526, 527, 528] (by decide +kernel) (by decide +kernel)
set_option maxRecDepth 20000 in
theorem ggL_refuses_L_trySimulate_p12 : GoodIn wsL_refuses wsX00 := goodIn_r _ [529, 530, 531, 532, 533] (by decide +kernel) (by decide +kernel)
set_option maxRecDepth 20000 in
theorem ggL_refuses_L_trySimulate_p13 : GoodIn wsL_refuses wsX20 := goodIn_r _ [538, 539, 540, 541, 542, 543] (by decide +kernel) (by decide +kernel)
set_option maxRecDepth 20000 in
theorem ggL_refuses_L_trySimulate : GoodIn wsL_refuses wsL_trySimulate := goodIn_ca (goodIn_c2 ggL_refuses_L_trySimulate_p0 (goodIn_app (goodIn_app (goodIn_app (goodIn_app (goodIn_app ggL_refuses_L_trySimulate_p1 (goodIn_app ggL_refuses_L_trySimulate_p2 (goodIn_app ggL_refuses_L_trySimulate_p3 (goodIn_app ggL_refuses_L_trySimulate_p4 (goodIn_app ggL_refuses_L_trySimulate_p5 (goodIn_app ggL_refuses_L_trySimulate_p6 (goodIn_app ggL_refuses_L_trySimulate_p7 (goodIn_app ggL_refuses_L_trySimulate_p8 ggL_refuses_L_trySimulate_p9)))))))) ggL_refuses_L_trySimulate_p10) ggL_refuses_L_trySimulate_p11) ggL_refuses_L_trySimulate_p12) ggL_refuses_L_trySimulate_p13)) (goodIn_sub (fun _ h => List.mem_cons_of_mem _ (List.mem_append_left _ (List.mem_append_left _ (List.mem_append_right _ h)))) (by decide +kernel))
set_option maxRecDepth 20000 in
theorem gL_refuses_L_trySimulate : GoodIn wsL_refuses (va_wsS RL 162 yL_trySimulate wsL_trySimulate) := goodIn_app (goodIn_of _ (by decide +kernel)) ggL_refuses_L_trySimulate
set_option maxRecDepth 20000 in
theorem ggL_refuses_X6_errorPosition : GoodIn wsL_refuses wsX6_errorPosition := goodIn_r _ [514, 24, 255, 256, 257, 29, 258, 32, 31, 52, 18, 53, 259, 260, 261, 515, 516, 517, 518, 519, 520, 521, 522] (by decide +kernel) (by decide +kernel)
set_option maxRecDepth 20000 in
theorem gL_refuses_X6_errorPosition : GoodIn wsL_refuses (wsV RL 166 RX6 yX6_errorPosition wsX6_errorPosition) := goodIn_app (goodIn_of _ (by decide +kernel)) ggL_refuses_X6_errorPosition
theorem dL_refuses_0 : decode cL_refuses 0 = .ok (.aload_n 0, 1) := by decide +kernel
theorem dL_refuses_1 : decode cL_refuses 1 = .ok (.iconst 1, 1) := by decide +kernel
theorem dL_refuses_2 : decode cL_refuses 2 = .ok (.iconst 4, 1) := by decide +kernel
theorem dL_refuses_3 : decode cL_refuses 3 = .ok (.iconst 0, 1) := by decide +kernel
theorem dL_refuses_4 : decode cL_refuses 4 = .ok (.iconst 0, 1) := by decide +kernel
theorem dL_refuses_5 : decode cL_refuses 5 = .ok (.invokestatic 150, 3) := by decide +kernel
theorem dL_refuses_8 : decode cL_refuses 8 = .ok (.istore_n 2, 1) := by decide +kernel
theorem dL_refuses_9 : decode cL_refuses 9 = .ok (.aload_n 0, 1) := by decide +kernel
theorem dL_refuses_10 : decode cL_refuses 10 = .ok (.iconst 1, 1) := by decide +kernel
theorem dL_refuses_11 : decode cL_refuses 11 = .ok (.bipush 8, 2) := by decide +kernel
theorem dL_refuses_13 : decode cL_refuses 13 = .ok (.iload_n 1, 1) := by decide +kernel
theorem dL_refuses_14 : decode cL_refuses 14 = .ok (.bipush 9, 2) := by decide +kernel
theorem dL_refuses_16 : decode cL_refuses 16 = .ok (.irem, 1) := by decide +kernel
theorem dL_refuses_17 : decode cL_refuses 17 = .ok (.iadd, 1) := by decide +kernel
theorem dL_refuses_18 : decode cL_refuses 18 = .ok (.iconst 0, 1) := by decide +kernel
theorem dL_refuses_19 : decode cL_refuses 19 = .ok (.iconst 0, 1) := by decide +kernel
theorem dL_refuses_20 : decode cL_refuses 20 = .ok (.invokestatic 150, 3) := by decide +kernel
theorem dL_refuses_23 : decode cL_refuses 23 = .ok (.ldc 15, 2) := by decide +kernel
theorem dL_refuses_25 : decode cL_refuses 25 = .ok (.if_icmp .ne 126, 3) := by decide +kernel
theorem dL_refuses_28 : decode cL_refuses 28 = .ok (.aload_n 0, 1) := by decide +kernel
theorem dL_refuses_29 : decode cL_refuses 29 = .ok (.iconst 2, 1) := by decide +kernel
theorem dL_refuses_30 : decode cL_refuses 30 = .ok (.iconst (-1), 1) := by decide +kernel
theorem dL_refuses_31 : decode cL_refuses 31 = .ok (.iload_n 1, 1) := by decide +kernel
theorem dL_refuses_32 : decode cL_refuses 32 = .ok (.bipush 9, 2) := by decide +kernel
theorem dL_refuses_34 : decode cL_refuses 34 = .ok (.irem, 1) := by decide +kernel
theorem dL_refuses_35 : decode cL_refuses 35 = .ok (.isub, 1) := by decide +kernel
theorem dL_refuses_36 : decode cL_refuses 36 = .ok (.iconst 0, 1) := by decide +kernel
theorem dL_refuses_37 : decode cL_refuses 37 = .ok (.iconst 0, 1) := by decide +kernel
theorem dL_refuses_38 : decode cL_refuses 38 = .ok (.invokestatic 150, 3) := by decide +kernel
theorem dL_refuses_41 : decode cL_refuses 41 = .ok (.ldc 15, 2) := by decide +kernel
theorem dL_refuses_43 : decode cL_refuses 43 = .ok (.if_icmp .ne 108, 3) := by decide +kernel
theorem dL_refuses_46 : decode cL_refuses 46 = .ok (.aload_n 0, 1) := by decide +kernel
theorem dL_refuses_47 : decode cL_refuses 47 = .ok (.iconst 3, 1) := by decide +kernel
theorem dL_refuses_48 : decode cL_refuses 48 = .ok (.iload_n 2, 1) := by decide +kernel
theorem dL_refuses_49 : decode cL_refuses 49 = .ok (.bipush 9, 2) := by decide +kernel
theorem dL_refuses_51 : decode cL_refuses 51 = .ok (.iconst 0, 1) := by decide +kernel
theorem dL_refuses_52 : decode cL_refuses 52 = .ok (.invokestatic 150, 3) := by decide +kernel
theorem dL_refuses_55 : decode cL_refuses 55 = .ok (.ldc 39, 2) := by decide +kernel
theorem dL_refuses_57 : decode cL_refuses 57 = .ok (.if_icmp .ne 94, 3) := by decide +kernel
theorem dL_refuses_60 : decode cL_refuses 60 = .ok (.iload_n 2, 1) := by decide +kernel
theorem dL_refuses_61 : decode cL_refuses 61 = .ok (.ifCond .eq 38, 3) := by decide +kernel
theorem dL_refuses_64 : decode cL_refuses 64 = .ok (.aload_n 0, 1) := by decide +kernel
theorem dL_refuses_65 : decode cL_refuses 65 = .ok (.iconst 3, 1) := by decide +kernel
theorem dL_refuses_66 : decode cL_refuses 66 = .ok (.iload_n 1, 1) := by decide +kernel
theorem dL_refuses_67 : decode cL_refuses 67 = .ok (.iload_n 2, 1) := by decide +kernel
theorem dL_refuses_68 : decode cL_refuses 68 = .ok (.irem, 1) := by decide +kernel
theorem dL_refuses_69 : decode cL_refuses 69 = .ok (.iconst 4, 1) := by decide +kernel
theorem dL_refuses_70 : decode cL_refuses 70 = .ok (.iload_n 1, 1) := by decide +kernel
theorem dL_refuses_71 : decode cL_refuses 71 = .ok (.bipush 9, 2) := by decide +kernel
theorem dL_refuses_73 : decode cL_refuses 73 = .ok (.irem, 1) := by decide +kernel
theorem dL_refuses_74 : decode cL_refuses 74 = .ok (.iadd, 1) := by decide +kernel
theorem dL_refuses_75 : decode cL_refuses 75 = .ok (.iconst 0, 1) := by decide +kernel
theorem dL_refuses_76 : decode cL_refuses 76 = .ok (.invokestatic 150, 3) := by decide +kernel
theorem dL_refuses_79 : decode cL_refuses 79 = .ok (.ldc 15, 2) := by decide +kernel
theorem dL_refuses_81 : decode cL_refuses 81 = .ok (.if_icmp .ne 70, 3) := by decide +kernel
theorem dL_refuses_84 : decode cL_refuses 84 = .ok (.aload_n 0, 1) := by decide +kernel
theorem dL_refuses_85 : decode cL_refuses 85 = .ok (.iconst 4, 1) := by decide +kernel
theorem dL_refuses_86 : decode cL_refuses 86 = .ok (.iload_n 1, 1) := by decide +kernel
theorem dL_refuses_87 : decode cL_refuses 87 = .ok (.iload_n 2, 1) := by decide +kernel
theorem dL_refuses_88 : decode cL_refuses 88 = .ok (.irem, 1) := by decide +kernel
theorem dL_refuses_89 : decode cL_refuses 89 = .ok (.iconst (-1), 1) := by decide +kernel
theorem dL_refuses_90 : decode cL_refuses 90 = .ok (.iconst 0, 1) := by decide +kernel
theorem dL_refuses_91 : decode cL_refuses 91 = .ok (.invokestatic 150, 3) := by decide +kernel
theorem dL_refuses_94 : decode cL_refuses 94 = .ok (.ldc 15, 2) := by decide +kernel
theorem dL_refuses_96 : decode cL_refuses 96 = .ok (.if_icmp .ne 55, 3) := by decide +kernel
theorem dL_refuses_99 : decode cL_refuses 99 = .ok (.aload_n 0, 1) := by decide +kernel
theorem dL_refuses_100 : decode cL_refuses 100 = .ok (.iconst 4, 1) := by decide +kernel
theorem dL_refuses_101 : decode cL_refuses 101 = .ok (.iload_n 2, 1) := by decide +kernel
theorem dL_refuses_102 : decode cL_refuses 102 = .ok (.iconst (-1), 1) := by decide +kernel
theorem dL_refuses_103 : decode cL_refuses 103 = .ok (.iconst 0, 1) := by decide +kernel
theorem dL_refuses_104 : decode cL_refuses 104 = .ok (.invokestatic 150, 3) := by decide +kernel
theorem dL_refuses_107 : decode cL_refuses 107 = .ok (.ldc 39, 2) := by decide +kernel
theorem dL_refuses_109 : decode cL_refuses 109 = .ok (.if_icmp .ne 42, 3) := by decide +kernel
theorem dL_refuses_112 : decode cL_refuses 112 = .ok (.aload_n 0, 1) := by decide +kernel
theorem dL_refuses_113 : decode cL_refuses 113 = .ok (.iconst 5, 1) := by decide +kernel
theorem dL_refuses_114 : decode cL_refuses 114 = .ok (.bipush 10, 2) := by decide +kernel
theorem dL_refuses_116 : decode cL_refuses 116 = .ok (.iconst 0, 1) := by decide +kernel
theorem dL_refuses_117 : decode cL_refuses 117 = .ok (.iconst 0, 1) := by decide +kernel
theorem dL_refuses_118 : decode cL_refuses 118 = .ok (.invokestatic 150, 3) := by decide +kernel
theorem dL_refuses_121 : decode cL_refuses 121 = .ok (.ldc 15, 2) := by decide +kernel
theorem dL_refuses_123 : decode cL_refuses 123 = .ok (.if_icmp .ne 28, 3) := by decide +kernel
theorem dL_refuses_126 : decode cL_refuses 126 = .ok (.aload_n 0, 1) := by decide +kernel
theorem dL_refuses_127 : decode cL_refuses 127 = .ok (.iconst 5, 1) := by decide +kernel
theorem dL_refuses_128 : decode cL_refuses 128 = .ok (.iload_n 1, 1) := by decide +kernel
theorem dL_refuses_129 : decode cL_refuses 129 = .ok (.bipush 10, 2) := by decide +kernel
theorem dL_refuses_131 : decode cL_refuses 131 = .ok (.irem, 1) := by decide +kernel
theorem dL_refuses_132 : decode cL_refuses 132 = .ok (.iconst 3, 1) := by decide +kernel
theorem dL_refuses_133 : decode cL_refuses 133 = .ok (.iload_n 1, 1) := by decide +kernel
theorem dL_refuses_134 : decode cL_refuses 134 = .ok (.bipush 9, 2) := by decide +kernel
theorem dL_refuses_136 : decode cL_refuses 136 = .ok (.irem, 1) := by decide +kernel
theorem dL_refuses_137 : decode cL_refuses 137 = .ok (.iadd, 1) := by decide +kernel
theorem dL_refuses_138 : decode cL_refuses 138 = .ok (.iconst 0, 1) := by decide +kernel
theorem dL_refuses_139 : decode cL_refuses 139 = .ok (.invokestatic 150, 3) := by decide +kernel
theorem dL_refuses_142 : decode cL_refuses 142 = .ok (.ldc 15, 2) := by decide +kernel
theorem dL_refuses_144 : decode cL_refuses 144 = .ok (.if_icmp .ne 7, 3) := by decide +kernel
theorem dL_refuses_147 : decode cL_refuses 147 = .ok (.iconst 1, 1) := by decide +kernel
theorem dL_refuses_148 : decode cL_refuses 148 = .ok (.goto 4, 3) := by decide +kernel
theorem dL_refuses_151 : decode cL_refuses 151 = .ok (.iconst 0, 1) := by decide +kernel
theorem dL_refuses_152 : decode cL_refuses 152 = .ok (.istore_n 3, 1) := by decide +kernel
theorem dL_refuses_153 : decode cL_refuses 153 = .ok (.iload_n 3, 1) := by decide +kernel
theorem dL_refuses_154 : decode cL_refuses 154 = .ok (.ifCond .eq 194, 3) := by decide +kernel
theorem dL_refuses_157 : decode cL_refuses 157 = .ok (.aload_n 0, 1) := by decide +kernel
theorem dL_refuses_158 : decode cL_refuses 158 = .ok (.bipush 6, 2) := by decide +kernel
theorem dL_refuses_160 : decode cL_refuses 160 = .ok (.iconst 3, 1) := by decide +kernel
theorem dL_refuses_161 : decode cL_refuses 161 = .ok (.iload_n 1, 1) := by decide +kernel
theorem dL_refuses_162 : decode cL_refuses 162 = .ok (.bipush 9, 2) := by decide +kernel
theorem dL_refuses_164 : decode cL_refuses 164 = .ok (.irem, 1) := by decide +kernel
theorem dL_refuses_165 : decode cL_refuses 165 = .ok (.iadd, 1) := by decide +kernel
theorem dL_refuses_166 : decode cL_refuses 166 = .ok (.iconst 0, 1) := by decide +kernel
theorem dL_refuses_167 : decode cL_refuses 167 = .ok (.iconst 0, 1) := by decide +kernel
theorem dL_refuses_168 : decode cL_refuses 168 = .ok (.invokestatic 150, 3) := by decide +kernel
theorem dL_refuses_171 : decode cL_refuses 171 = .ok (.ldc 15, 2) := by decide +kernel
theorem dL_refuses_173 : decode cL_refuses 173 = .ok (.if_icmp .ne 175, 3) := by decide +kernel
theorem dL_refuses_176 : decode cL_refuses 176 = .ok (.aload_n 0, 1) := by decide +kernel
theorem dL_refuses_177 : decode cL_refuses 177 = .ok (.bipush 7, 2) := by decide +kernel
theorem dL_refuses_179 : decode cL_refuses 179 = .ok (.bipush 61, 2) := by decide +kernel
theorem dL_refuses_181 : decode cL_refuses 181 = .ok (.iload_n 1, 1) := by decide +kernel
theorem dL_refuses_182 : decode cL_refuses 182 = .ok (.bipush 9, 2) := by decide +kernel
theorem dL_refuses_184 : decode cL_refuses 184 = .ok (.irem, 1) := by decide +kernel
theorem dL_refuses_185 : decode cL_refuses 185 = .ok (.iadd, 1) := by decide +kernel
theorem dL_refuses_186 : decode cL_refuses 186 = .ok (.iconst 0, 1) := by decide +kernel
theorem dL_refuses_187 : decode cL_refuses 187 = .ok (.iconst 0, 1) := by decide +kernel
theorem dL_refuses_188 : decode cL_refuses 188 = .ok (.invokestatic 150, 3) := by decide +kernel
theorem dL_refuses_191 : decode cL_refuses 191 = .ok (.ldc 15, 2) := by decide +kernel
theorem dL_refuses_193 : decode cL_refuses 193 = .ok (.if_icmp .ne 155, 3) := by decide +kernel
theorem dL_refuses_196 : decode cL_refuses 196 = .ok (.aload_n 0, 1) := by decide +kernel
theorem dL_refuses_197 : decode cL_refuses 197 = .ok (.bipush 7, 2) := by decide +kernel
theorem dL_refuses_199 : decode cL_refuses 199 = .ok (.iload_n 1, 1) := by decide +kernel
theorem dL_refuses_200 : decode cL_refuses 200 = .ok (.bipush 61, 2) := by decide +kernel
theorem dL_refuses_202 : decode cL_refuses 202 = .ok (.irem, 1) := by decide +kernel
theorem dL_refuses_203 : decode cL_refuses 203 = .ok (.iconst (-1), 1) := by decide +kernel
theorem dL_refuses_204 : decode cL_refuses 204 = .ok (.iload_n 1, 1) := by decide +kernel
theorem dL_refuses_205 : decode cL_refuses 205 = .ok (.bipush 9, 2) := by decide +kernel
theorem dL_refuses_207 : decode cL_refuses 207 = .ok (.irem, 1) := by decide +kernel
theorem dL_refuses_208 : decode cL_refuses 208 = .ok (.isub, 1) := by decide +kernel
theorem dL_refuses_209 : decode cL_refuses 209 = .ok (.iconst 0, 1) := by decide +kernel
theorem dL_refuses_210 : decode cL_refuses 210 = .ok (.invokestatic 150, 3) := by decide +kernel
theorem dL_refuses_213 : decode cL_refuses 213 = .ok (.ldc 15, 2) := by decide +kernel
theorem dL_refuses_215 : decode cL_refuses 215 = .ok (.if_icmp .ne 133, 3) := by decide +kernel
theorem dL_refuses_218 : decode cL_refuses 218 = .ok (.aload_n 0, 1) := by decide +kernel
theorem dL_refuses_219 : decode cL_refuses 219 = .ok (.bipush 9, 2) := by decide +kernel
theorem dL_refuses_221 : decode cL_refuses 221 = .ok (.bipush 10, 2) := by decide +kernel
theorem dL_refuses_223 : decode cL_refuses 223 = .ok (.iload_n 1, 1) := by decide +kernel
theorem dL_refuses_224 : decode cL_refuses 224 = .ok (.bipush 9, 2) := by decide +kernel
theorem dL_refuses_226 : decode cL_refuses 226 = .ok (.irem, 1) := by decide +kernel
theorem dL_refuses_227 : decode cL_refuses 227 = .ok (.iadd, 1) := by decide +kernel
theorem dL_refuses_228 : decode cL_refuses 228 = .ok (.iconst 0, 1) := by decide +kernel
theorem dL_refuses_229 : decode cL_refuses 229 = .ok (.iconst 0, 1) := by decide +kernel
theorem dL_refuses_230 : decode cL_refuses 230 = .ok (.invokestatic 150, 3) := by decide +kernel
theorem dL_refuses_233 : decode cL_refuses 233 = .ok (.ldc 15, 2) := by decide +kernel
theorem dL_refuses_235 : decode cL_refuses 235 = .ok (.if_icmp .ne 113, 3) := by decide +kernel
theorem dL_refuses_238 : decode cL_refuses 238 = .ok (.aload_n 0, 1) := by decide +kernel
theorem dL_refuses_239 : decode cL_refuses 239 = .ok (.bipush 10, 2) := by decide +kernel
theorem dL_refuses_241 : decode cL_refuses 241 = .ok (.iload_n 2, 1) := by decide +kernel
theorem dL_refuses_242 : decode cL_refuses 242 = .ok (.iload_n 1, 1) := by decide +kernel
theorem dL_refuses_243 : decode cL_refuses 243 = .ok (.bipush 9, 2) := by decide +kernel
theorem dL_refuses_245 : decode cL_refuses 245 = .ok (.irem, 1) := by decide +kernel
theorem dL_refuses_246 : decode cL_refuses 246 = .ok (.iadd, 1) := by decide +kernel
theorem dL_refuses_247 : decode cL_refuses 247 = .ok (.iconst 0, 1) := by decide +kernel
theorem dL_refuses_248 : decode cL_refuses 248 = .ok (.iconst 0, 1) := by decide +kernel
theorem dL_refuses_249 : decode cL_refuses 249 = .ok (.invokestatic 150, 3) := by decide +kernel
theorem dL_refuses_252 : decode cL_refuses 252 = .ok (.ldc 39, 2) := by decide +kernel
theorem dL_refuses_254 : decode cL_refuses 254 = .ok (.if_icmp .ne 94, 3) := by decide +kernel
theorem dL_refuses_257 : decode cL_refuses 257 = .ok (.aload_n 0, 1) := by decide +kernel
theorem dL_refuses_258 : decode cL_refuses 258 = .ok (.bipush 11, 2) := by decide +kernel
theorem dL_refuses_260 : decode cL_refuses 260 = .ok (.iconst (-1), 1) := by decide +kernel
theorem dL_refuses_261 : decode cL_refuses 261 = .ok (.iload_n 1, 1) := by decide +kernel
theorem dL_refuses_262 : decode cL_refuses 262 = .ok (.bipush 9, 2) := by decide +kernel
theorem dL_refuses_264 : decode cL_refuses 264 = .ok (.irem, 1) := by decide +kernel
theorem dL_refuses_265 : decode cL_refuses 265 = .ok (.isub, 1) := by decide +kernel
theorem dL_refuses_266 : decode cL_refuses 266 = .ok (.iconst 0, 1) := by decide +kernel
theorem dL_refuses_267 : decode cL_refuses 267 = .ok (.iconst 0, 1) := by decide +kernel
theorem dL_refuses_268 : decode cL_refuses 268 = .ok (.invokestatic 150, 3) := by decide +kernel
theorem dL_refuses_271 : decode cL_refuses 271 = .ok (.ldc 15, 2) := by decide +kernel
theorem dL_refuses_273 : decode cL_refuses 273 = .ok (.if_icmp .ne 75, 3) := by decide +kernel
theorem dL_refuses_276 : decode cL_refuses 276 = .ok (.aload_n 0, 1) := by decide +kernel
theorem dL_refuses_277 : decode cL_refuses 277 = .ok (.bipush 12, 2) := by decide +kernel
theorem dL_refuses_279 : decode cL_refuses 279 = .ok (.iconst 0, 1) := by decide +kernel
theorem dL_refuses_280 : decode cL_refuses 280 = .ok (.bipush 21, 2) := by decide +kernel
theorem dL_refuses_282 : decode cL_refuses 282 = .ok (.iload_n 1, 1) := by decide +kernel
theorem dL_refuses_283 : decode cL_refuses 283 = .ok (.bipush 9, 2) := by decide +kernel
theorem dL_refuses_285 : decode cL_refuses 285 = .ok (.irem, 1) := by decide +kernel
theorem dL_refuses_286 : decode cL_refuses 286 = .ok (.iadd, 1) := by decide +kernel
theorem dL_refuses_287 : decode cL_refuses 287 = .ok (.iconst 0, 1) := by decide +kernel
theorem dL_refuses_288 : decode cL_refuses 288 = .ok (.invokestatic 150, 3) := by decide +kernel
theorem dL_refuses_291 : decode cL_refuses 291 = .ok (.ldc 15, 2) := by decide +kernel
theorem dL_refuses_293 : decode cL_refuses 293 = .ok (.if_icmp .ne 55, 3) := by decide +kernel
theorem dL_refuses_296 : decode cL_refuses 296 = .ok (.aload_n 0, 1) := by decide +kernel
theorem dL_refuses_297 : decode cL_refuses 297 = .ok (.bipush 12, 2) := by decide +kernel
theorem dL_refuses_299 : decode cL_refuses 299 = .ok (.iconst 0, 1) := by decide +kernel
theorem dL_refuses_300 : decode cL_refuses 300 = .ok (.iconst 4, 1) := by decide +kernel
theorem dL_refuses_301 : decode cL_refuses 301 = .ok (.iconst 0, 1) := by decide +kernel
theorem dL_refuses_302 : decode cL_refuses 302 = .ok (.invokestatic 150, 3) := by decide +kernel
theorem dL_refuses_305 : decode cL_refuses 305 = .ok (.ldc 15, 2) := by decide +kernel
theorem dL_refuses_307 : decode cL_refuses 307 = .ok (.if_icmp .ne 41, 3) := by decide +kernel
theorem dL_refuses_310 : decode cL_refuses 310 = .ok (.aload_n 0, 1) := by decide +kernel
theorem dL_refuses_311 : decode cL_refuses 311 = .ok (.bipush 12, 2) := by decide +kernel
theorem dL_refuses_313 : decode cL_refuses 313 = .ok (.iconst 1, 1) := by decide +kernel
theorem dL_refuses_314 : decode cL_refuses 314 = .ok (.bipush 100, 2) := by decide +kernel
theorem dL_refuses_316 : decode cL_refuses 316 = .ok (.iload_n 1, 1) := by decide +kernel
theorem dL_refuses_317 : decode cL_refuses 317 = .ok (.bipush 9, 2) := by decide +kernel
theorem dL_refuses_319 : decode cL_refuses 319 = .ok (.irem, 1) := by decide +kernel
theorem dL_refuses_320 : decode cL_refuses 320 = .ok (.iadd, 1) := by decide +kernel
theorem dL_refuses_321 : decode cL_refuses 321 = .ok (.iconst 0, 1) := by decide +kernel
theorem dL_refuses_322 : decode cL_refuses 322 = .ok (.invokestatic 150, 3) := by decide +kernel
theorem dL_refuses_325 : decode cL_refuses 325 = .ok (.ldc 15, 2) := by decide +kernel
theorem dL_refuses_327 : decode cL_refuses 327 = .ok (.if_icmp .ne 21, 3) := by decide +kernel
theorem dL_refuses_330 : decode cL_refuses 330 = .ok (.aload_n 0, 1) := by decide +kernel
theorem dL_refuses_331 : decode cL_refuses 331 = .ok (.bipush 12, 2) := by decide +kernel
theorem dL_refuses_333 : decode cL_refuses 333 = .ok (.iconst 3, 1) := by decide +kernel
theorem dL_refuses_334 : decode cL_refuses 334 = .ok (.iconst 5, 1) := by decide +kernel
theorem dL_refuses_335 : decode cL_refuses 335 = .ok (.iconst 0, 1) := by decide +kernel
theorem dL_refuses_336 : decode cL_refuses 336 = .ok (.invokestatic 150, 3) := by decide +kernel
theorem dL_refuses_339 : decode cL_refuses 339 = .ok (.ldc 15, 2) := by decide +kernel
theorem dL_refuses_341 : decode cL_refuses 341 = .ok (.if_icmp .ne 7, 3) := by decide +kernel
theorem dL_refuses_344 : decode cL_refuses 344 = .ok (.iconst 1, 1) := by decide +kernel
theorem dL_refuses_345 : decode cL_refuses 345 = .ok (.goto 4, 3) := by decide +kernel
