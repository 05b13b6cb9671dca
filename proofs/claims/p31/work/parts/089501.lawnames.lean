set_option maxRecDepth 20000 in
theorem ggL_law_L_act_p1 : GoodIn wsL_law wsL_act_r1 := goodIn_r _ [559, 91, 92, 79, 93, 94, 95, 96, 97, 98, 86, 90, 99, 100, 101, 2, 102, 103, 104, 105, 106, 24, 107, 108] (by decide +kernel) (by decide +kernel)
set_option maxRecDepth 20000 in
theorem ggL_law_L_act_p2 : GoodIn wsL_law wsL_act_r2 := goodIn_r _ [109, 110, 23, 111, 60, 112, 113, 114, 115, 116, 117, 118, 119, 120, 121, 15, 122, 123, 124, 125, 126, 127, 38, 128] (by decide +kernel) (by decide +kernel)
set_option maxRecDepth 20000 in
theorem ggL_law_L_act_p3 : GoodIn wsL_law wsL_act_r3 := goodIn_r _ [47, 129, 130, 131, 132, 133, 134, 135, 136, 137, 138, 139, 48, 140, 141, 142, 143, 50, 144, 145, 146, 14, 147, 148] (by decide +kernel) (by decide +kernel)
set_option maxRecDepth 20000 in
theorem ggL_law_L_act_p4 : GoodIn wsL_law wsL_act_r4 := goodIn_r _ [149, 150, 151, 43, 152, 153, 154, 155, 156, 157, 158, 159, 160, 161, 162, 51, 163, 164, 165, 166, 87, 167, 168, 169] (by decide +kernel) (by decide +kernel)
set_option maxRecDepth 20000 in
theorem ggL_law_L_act_p5 : GoodIn wsL_law wsL_act_r5 := goodIn_r _ [170, 171, 172, 173, 174, 175, 176, 177, 178, 179, 180, 181, 41, 182, 183, 184, 185, 186, 187, 188, 189, 190, 191, 192] (by decide +kernel) (by decide +kernel)
set_option maxRecDepth 20000 in
theorem ggL_law_L_act_p6 : GoodIn wsL_law wsL_act_r6 := goodIn_r _ [193, 194, 195, 196, 197, 198, 199, 200, 201, 202, 203, 204, 205, 206, 207, 208, 209, 210, 42, 211, 212, 213, 214, 215] (by decide +kernel) (by decide +kernel)
set_option maxRecDepth 20000 in
theorem ggL_law_L_act_p7 : GoodIn wsL_law wsL_act_r7 := goodIn_r _ [216, 217, 28, 218, 219, 220, 221, 222, 223, 27, 224, 65, 225, 226, 227, 228, 31, 229, 75, 74, 13, 33, 34, 35] (by decide +kernel) (by decide +kernel)
set_option maxRecDepth 20000 in
theorem ggL_law_L_act_p8 : GoodIn wsL_law wsL_act_r8 := goodIn_r _ [10, 11, 36, 37, 39, 40, 44, 45, 46, 49, 230, 231, 232, 233, 234, 235, 236, 237, 238, 239, 240, 241, 242, 72] (by decide +kernel) (by decide +kernel)
set_option maxRecDepth 20000 in
theorem ggL_law_L_act_p9 : GoodIn wsL_law wsL_act_r9 := goodIn_r _ [243, 244, 245, 246, 247, 248, 249, 250, 251, 252, 253, 254, 255, 256, 257, 258, 259, 260, 261, 262, 263, 264, 265, 266] (by decide +kernel) (by decide +kernel)
set_option maxRecDepth 20000 in
theorem ggL_law_L_act_p10 : GoodIn wsL_law wsL_act_r10 := goodIn_r _ [267, 268, 269, 270, 271, 272, 273, 274, 275, 276, 277, 278, 279, 280, 281, 282, 283, 284, 285, 286, 287, 288, 289, 290] (by decide +kernel) (by decide +kernel)
set_option maxRecDepth 20000 in
theorem ggL_law_L_act_p11 : GoodIn wsL_law wsL_act_r11 := goodIn_r _ [291, 292, 293, 294, 295, 296, 297, 298, 299, 300, 301, 302, 16, 303, 304, 305, 306, 307, 308, 309, 310, 311, 312, 313] (by decide +kernel) (by decide +kernel)
set_option maxRecDepth 20000 in
theorem ggL_law_L_act_p12 : GoodIn wsL_law wsL_act_r12 := goodIn_r _ [314, 315, 316, 317, 318, 319, 320, 321, 322, 323, 324, 325, 326, 327, 328, 329, 330, 331, 332, 333, 334, 335, 336, 337] (by decide +kernel) (by decide +kernel)
set_option maxRecDepth 20000 in
theorem ggL_law_L_act_p13 : GoodIn wsL_law wsL_act_r13 := goodIn_r _ [338, 339, 340, 341, 342, 343, 344, 345, 346, 347, 348, 349, 350, 351, 352, 353, 354, 355, 356, 357, 358, 359, 360, 361] (by decide +kernel) (by decide +kernel)
set_option maxRecDepth 20000 in
theorem ggL_law_L_act_p14 : GoodIn wsL_law wsL_act_r14 := goodIn_r _ [362, 363, 364, 365, 366, 367, 368, 369, 370, 371, 372, 373, 374, 375, 376, 377, 378, 379, 380, 381, 382, 383, 384, 385] (by decide +kernel) (by decide +kernel)
set_option maxRecDepth 20000 in
theorem ggL_law_L_act_p15 : GoodIn wsL_law wsL_act_r15 := goodIn_r _ [386, 20, 387, 388, 389, 390, 391, 19, 392, 393, 394, 395, 396, 397, 56, 398, 399, 400, 401, 402, 55, 403, 404, 405] (by decide +kernel) (by decide +kernel)
set_option maxRecDepth 20000 in
theorem ggL_law_L_act_p16 : GoodIn wsL_law wsL_act_r16 := goodIn_r _ [406, 407, 408, 409, 410, 411, 412, 413, 414, 415, 416, 417, 418, 419, 420, 421, 422, 423, 424, 425, 426, 427, 428, 429] (by decide +kernel) (by decide +kernel)
set_option maxRecDepth 20000 in
theorem ggL_law_L_act_p17 : GoodIn wsL_law wsL_act_r17 := goodIn_r _ [430, 431, 432, 433, 434, 435, 436, 437, 438, 439, 440, 441, 442, 443, 444, 445, 71, 73, 446, 447, 448, 449, 450, 451] (by decide +kernel) (by decide +kernel)
set_option maxRecDepth 20000 in
theorem ggL_law_L_act_p18 : GoodIn wsL_law wsL_act_r18 := goodIn_r _ [452, 453, 454, 455, 456, 457, 458, 459, 460, 461, 462, 463, 464, 465, 466, 467, 468, 469, 470, 471, 472, 473, 474, 475] (by decide +kernel) (by decide +kernel)
set_option maxRecDepth 20000 in
theorem ggL_law_L_act_p19 : GoodIn wsL_law wsL_act_r19 := goodIn_r _ [476, 477, 478, 479, 480, 481, 482, 483, 484, 485, 486, 487, 488, 489, 490, 491, 492, 493, 494, 495, 496, 497, 498, 499] (by decide +kernel) (by decide +kernel)
set_option maxRecDepth 20000 in
theorem ggL_law_L_act_p20 : GoodIn wsL_law wsL_act_r20 := goodIn_r _ [500, 501, 502, 503, 504, 505, 506, 507, 508, 32, 509, 510, 511, 512, 513, 514, 515, 516, 517, 518, 519, 520, 521, 560] (by decide +kernel) (by decide +kernel)
set_option maxRecDepth 20000 in
theorem ggL_law_L_act_p21 : GoodIn wsL_law wsL_act_r21 := goodIn_r _ [561, 562, 563, 537, 564, 565, 566, 567] (by decide +kernel) (by decide +kernel)
set_option maxRecDepth 20000 in
theorem ggL_law_L_act_p22 : GoodIn wsL_law wsX60 := goodIn_r _ [606, 607, 608, 609, 610, 611] (by decide +kernel) (by decide +kernel)
set_option maxRecDepth 20000 in
theorem ggL_law_L_act_p23 : GoodIn wsL_law wsX50 := goodIn_r _ [624, 625] (by decide +kernel) (by decide +kernel)
set_option maxRecDepth 20000 in
theorem ggL_law_L_act_p24 : GoodIn wsL_law wsX40 := goodIn_r _ [612, 613, 614, 615, 616, 617] (by decide +kernel) (by decide +kernel)
set_option maxRecDepth 20000 in
theorem ggL_law_L_act_p25 : GoodIn wsL_law wsX00 := goodIn_r _ [630, 631, 632, 633, 634] (by decide +kernel) (by decide +kernel)
set_option maxRecDepth 20000 in
theorem ggL_law_L_act_p26 : GoodIn wsL_law wsX10 := goodIn_r _ [626, 627, 628] (by decide +kernel) (by decide +kernel)
set_option maxRecDepth 20000 in
theorem ggL_law_L_act_p27 : GoodIn wsL_law wsX30 := goodIn_r _ [629] (by decide +kernel) (by decide +kernel)
set_option maxRecDepth 20000 in
theorem ggL_law_L_act_p28 : GoodIn wsL_law wsX20 := goodIn_r _ [618, 619, 620, 621, 622, 623] (by decide +kernel) (by decide +kernel)
set_option maxRecDepth 20000 in
theorem ggL_law_L_act : GoodIn wsL_law wsL_act := goodIn_ca (goodIn_ca (goodIn_ca (goodIn_c2 ggL_law_L_act_p0 (goodIn_app (goodIn_app (goodIn_app (goodIn_app (goodIn_app (goodIn_app (goodIn_app (goodIn_app ggL_law_L_act_p1 (goodIn_app ggL_law_L_act_p2 (goodIn_app ggL_law_L_act_p3 (goodIn_app ggL_law_L_act_p4 (goodIn_app ggL_law_L_act_p5 (goodIn_app ggL_law_L_act_p6 (goodIn_app ggL_law_L_act_p7 (goodIn_app ggL_law_L_act_p8 (goodIn_app ggL_law_L_act_p9 (goodIn_app ggL_law_L_act_p10 (goodIn_app ggL_law_L_act_p11 (goodIn_app ggL_law_L_act_p12 (goodIn_app ggL_law_L_act_p13 (goodIn_app ggL_law_L_act_p14 (goodIn_app ggL_law_L_act_p15 (goodIn_app ggL_law_L_act_p16 (goodIn_app ggL_law_L_act_p17 (goodIn_app ggL_law_L_act_p18 (goodIn_app ggL_law_L_act_p19 (goodIn_app ggL_law_L_act_p20 ggL_law_L_act_p21)))))))))))))))))))) ggL_law_L_act_p22) ggL_law_L_act_p23) ggL_law_L_act_p24) ggL_law_L_act_p25) ggL_law_L_act_p26) ggL_law_L_act_p27) ggL_law_L_act_p28)) (goodIn_sub (fun _ h => List.mem_append_left _ (List.mem_append_left _ (List.mem_append_right _ h))) (by decide +kernel))) (goodIn_sub (fun _ h => List.mem_append_left _ (List.mem_append_right _ h)) (by decide +kernel))) (goodIn_sub (fun _ h => List.mem_append_right _ h) (by decide +kernel))
set_option maxRecDepth 20000 in
theorem gL_law_L_act : GoodIn wsL_law (va_wsS RL 197 yL_act wsL_act) := goodIn_app (goodIn_of _ (by decide +kernel)) ggL_law_L_act
set_option maxRecDepth 20000 in
theorem ggL_law_L_alike_p0 : GoodIn wsL_law [.code yL_alike cL_alike 6 (some .boolean)] := goodIn_r _ [570] (by decide +kernel) (by decide +kernel)
set_option maxRecDepth 20000 in
theorem ggL_law_L_alike_p1 : GoodIn wsL_law wsL_alike_r1 := goodIn_r _ [552, 553, 554, 2, 555, 24, 303, 304, 305, 23, 306, 112, 60, 129, 130, 307, 308, 309, 571, 572, 573, 574, 20, 15] (by decide +kernel) (by decide +kernel)
set_option maxRecDepth 20000 in
theorem ggL_law_L_alike_p2 : GoodIn wsL_law wsL_alike_r2 := goodIn_r _ [575, 576, 577, 19, 578, 396, 397, 418, 179, 180, 14, 181, 41, 399, 400, 401, 402, 55, 403, 242, 72, 243, 404, 141] (by decide +kernel) (by decide +kernel)
set_option maxRecDepth 20000 in
theorem ggL_law_L_alike_p3 : GoodIn wsL_law wsL_alike_r3 := goodIn_r _ [142, 38, 143, 50, 113, 114, 405, 160, 161, 162, 51, 406, 407, 408, 409, 410, 411, 412, 269, 270, 579, 580, 581, 582] (by decide +kernel) (by decide +kernel)
set_option maxRecDepth 20000 in
theorem ggL_law_L_alike_p4 : GoodIn wsL_law wsL_alike_r4 := goodIn_r _ [124, 388, 389, 390, 391, 392, 393, 394, 395, 56, 398, 413, 208, 209, 210, 42, 414, 415, 416, 417, 178, 583, 584, 585] (by decide +kernel) (by decide +kernel)
set_option maxRecDepth 20000 in
theorem ggL_law_L_alike_p5 : GoodIn wsL_law wsL_alike_r5 := goodIn_r _ [586, 16, 310, 231, 232, 233, 39, 43, 177, 234, 235, 236, 237, 238, 47, 48, 49, 239, 240, 241, 244, 245, 246, 247] (by decide +kernel) (by decide +kernel)
set_option maxRecDepth 20000 in
theorem ggL_law_L_alike_p6 : GoodIn wsL_law wsL_alike_r6 := goodIn_r _ [587, 588, 589, 590, 591, 592, 593, 594, 135, 126, 127, 128, 136, 137, 138, 139, 257, 258, 259, 260, 271, 272, 273, 274] (by decide +kernel) (by decide +kernel)
set_option maxRecDepth 20000 in
theorem ggL_law_L_alike_p7 : GoodIn wsL_law wsL_alike_r7 := goodIn_r _ [252, 441, 442, 443, 444, 445, 71, 73, 262, 263, 264, 265, 266, 267, 268, 446, 447, 448, 449, 282, 283, 284, 285, 261] (by decide +kernel) (by decide +kernel)
set_option maxRecDepth 20000 in
theorem ggL_law_L_alike_p8 : GoodIn wsL_law wsL_alike_r8 := goodIn_r _ [275, 276, 277, 278, 279, 280, 281, 91, 92, 79, 93, 94, 95, 96, 97, 98, 86, 90, 99, 100, 101, 102, 103, 104] (by decide +kernel) (by decide +kernel)
set_option maxRecDepth 20000 in
theorem ggL_law_L_alike_p9 : GoodIn wsL_law wsL_alike_r9 := goodIn_r _ [105, 106, 107, 108, 109, 110, 111, 115, 116, 117, 118, 119, 120, 121, 122, 123, 125, 131, 132, 133, 134, 140, 144, 145] (by decide +kernel) (by decide +kernel)
set_option maxRecDepth 20000 in
theorem ggL_law_L_alike_p10 : GoodIn wsL_law wsL_alike_r10 := goodIn_r _ [146, 147, 148, 149, 150, 151, 152, 153, 154, 155, 156, 157, 158, 159, 163, 164, 165, 166, 87, 167, 168, 169, 170, 171] (by decide +kernel) (by decide +kernel)
set_option maxRecDepth 20000 in
theorem ggL_law_L_alike_p11 : GoodIn wsL_law wsL_alike_r11 := goodIn_r _ [172, 173, 174, 175, 176, 182, 183, 184, 185, 186, 187, 188, 189, 190, 191, 192, 193, 194, 195, 196, 197, 198, 199, 200] (by decide +kernel) (by decide +kernel)
set_option maxRecDepth 20000 in
theorem ggL_law_L_alike_p12 : GoodIn wsL_law wsL_alike_r12 := goodIn_r _ [201, 202, 203, 204, 205, 206, 207, 211, 212, 213, 214, 215, 216, 217, 28, 218, 219, 220, 221, 222, 223, 27, 224, 65] (by decide +kernel) (by decide +kernel)
set_option maxRecDepth 20000 in
theorem ggL_law_L_alike_p13 : GoodIn wsL_law wsL_alike_r13 := goodIn_r _ [225, 226, 227, 228, 31, 229, 75, 74, 13, 33, 34, 35, 10, 11, 36, 37, 40, 44, 45, 46, 230, 248, 249, 250] (by decide +kernel) (by decide +kernel)
set_option maxRecDepth 20000 in
theorem ggL_law_L_alike_p14 : GoodIn wsL_law wsL_alike_r14 := goodIn_r _ [251, 253, 254, 255, 256, 286, 287, 288, 289, 290, 291, 292, 293, 294, 295, 296, 297, 298, 299, 300, 301, 302, 311, 312] (by decide +kernel) (by decide +kernel)
set_option maxRecDepth 20000 in
theorem ggL_law_L_alike_p15 : GoodIn wsL_law wsL_alike_r15 := goodIn_r _ [313, 314, 315, 316, 317, 318, 319, 320, 321, 322, 323, 324, 325, 326, 327, 328, 329, 330, 331, 332, 333, 334, 335, 336] (by decide +kernel) (by decide +kernel)
