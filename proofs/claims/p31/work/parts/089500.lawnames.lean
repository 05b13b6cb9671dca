set_option maxRecDepth 20000 in
theorem ggL_law_X6_init_p0 : GoodIn wsL_law [.code yX6_init cX6_init 1 none] := goodIn_r _ [8] (by decide +kernel) (by decide +kernel)
theorem ggL_law_X6_init_p1 : GoodIn wsL_law wsX6_init_r1 := goodIn_r _ [9, 10, 11, 12, 13, 14, 15, 16, 17, 18, 19, 20, 21, 22, 23, 24, 25, 26, 27, 28, 29, 30, 31, 32] (by decide +kernel) (by decide +kernel)
theorem ggL_law_X6_init_p2 : GoodIn wsL_law wsX6_init_r2 := goodIn_r _ [33, 34, 35, 36, 37, 38, 39, 40, 41, 42, 43, 44, 45, 46, 47, 48, 49, 50, 51, 52, 53, 54, 55, 56] (by decide +kernel) (by decide +kernel)
theorem ggL_law_X6_init_p3 : GoodIn wsL_law wsX6_init_r3 := goodIn_r _ [57, 58, 59, 60, 61, 62, 63, 64, 65, 66, 67, 68, 69, 70, 71, 72, 73, 74, 75, 76] (by decide +kernel) (by decide +kernel)
theorem ggL_law_X6_init_p4 : GoodIn wsL_law wsX40 := goodIn_r _ [612, 613, 614, 615, 616, 617] (by decide +kernel) (by decide +kernel)
theorem ggL_law_X6_init_p5 : GoodIn wsL_law wsX60 := goodIn_r _ [606, 607, 608, 609, 610, 611] (by decide +kernel) (by decide +kernel)
theorem ggL_law_X6_init_p6 : GoodIn wsL_law wsX20 := goodIn_r _ [618, 619, 620, 621, 622, 623] (by decide +kernel) (by decide +kernel)
theorem ggL_law_X6_init_p7 : GoodIn wsL_law wsX50 := goodIn_r _ [624, 625] (by decide +kernel) (by decide +kernel)
theorem ggL_law_X6_init_p8 : GoodIn wsL_law wsX10 := goodIn_r _ [626, 627, 628] (by decide +kernel) (by decide +kernel)
theorem ggL_law_X6_init_p9 : GoodIn wsL_law wsX30 := goodIn_r _ [629] (by decide +kernel) (by decide +kernel)
theorem ggL_law_X6_init_p10 : GoodIn wsL_law wsX00 := goodIn_r _ [630, 631, 632, 633, 634] (by decide +kernel) (by decide +kernel)
theorem ggL_law_X6_init : GoodIn wsL_law wsX6_init := (goodIn_c2 ggL_law_X6_init_p0 (goodIn_app (goodIn_app (goodIn_app (goodIn_app (goodIn_app (goodIn_app (goodIn_app (goodIn_app ggL_law_X6_init_p1 (goodIn_app ggL_law_X6_init_p2 ggL_law_X6_init_p3)) ggL_law_X6_init_p4) ggL_law_X6_init_p5) ggL_law_X6_init_p6) ggL_law_X6_init_p7) ggL_law_X6_init_p8) ggL_law_X6_init_p9) ggL_law_X6_init_p10))
set_option maxRecDepth 20000 in
theorem gL_law_X6_init : GoodIn wsL_law (wsX6_init) := ggL_law_X6_init
set_option maxRecDepth 20000 in
theorem ggL_law_L_cell : GoodIn wsL_law wsL_cell := goodIn_r _ [80, 81, 82] (by decide +kernel) (by decide +kernel)
set_option maxRecDepth 20000 in
theorem gL_law_L_cell : GoodIn wsL_law (va_wsS RL 189 yL_cell wsL_cell) := goodIn_app (goodIn_of _ (by decide +kernel)) ggL_law_L_cell
set_option maxRecDepth 20000 in
theorem ggL_law_L_refuses_p0 : GoodIn wsL_law [.code yL_refuses cL_refuses 4 (some .boolean)] := goodIn_r _ [85] (by decide +kernel) (by decide +kernel)
set_option maxRecDepth 20000 in
theorem ggL_law_L_refuses_p1 : GoodIn wsL_law wsL_refuses_r1 := goodIn_r _ [86, 87, 88, 89, 90, 91, 92, 79, 93, 94, 95, 96, 97, 98, 99, 100, 101, 2, 102, 103, 104, 105, 106, 24] (by decide +kernel) (by decide +kernel)
set_option maxRecDepth 20000 in
theorem ggL_law_L_refuses_p2 : GoodIn wsL_law wsL_refuses_r2 := goodIn_r _ [107, 108, 109, 110, 23, 111, 60, 112, 113, 114, 115, 116, 117, 118, 119, 120, 121, 15, 122, 123, 124, 125, 126, 127] (by decide +kernel) (by decide +kernel)
set_option maxRecDepth 20000 in
theorem ggL_law_L_refuses_p3 : GoodIn wsL_law wsL_refuses_r3 := goodIn_r _ [38, 128, 47, 129, 130, 131, 132, 133, 134, 135, 136, 137, 138, 139, 48, 140, 141, 142, 143, 50, 144, 145, 146, 14] (by decide +kernel) (by decide +kernel)
set_option maxRecDepth 20000 in
theorem ggL_law_L_refuses_p4 : GoodIn wsL_law wsL_refuses_r4 := goodIn_r _ [147, 148, 149, 150, 151, 43, 152, 153, 154, 155, 156, 157, 158, 159, 160, 161, 162, 51, 163, 164, 165, 166, 167, 168] (by decide +kernel) (by decide +kernel)
set_option maxRecDepth 20000 in
theorem ggL_law_L_refuses_p5 : GoodIn wsL_law wsL_refuses_r5 := goodIn_r _ [169, 170, 171, 172, 173, 174, 175, 176, 177, 178, 179, 180, 181, 41, 182, 183, 184, 185, 186, 187, 188, 189, 190, 191] (by decide +kernel) (by decide +kernel)
set_option maxRecDepth 20000 in
theorem ggL_law_L_refuses_p6 : GoodIn wsL_law wsL_refuses_r6 := goodIn_r _ [192, 193, 194, 195, 196, 197, 198, 199, 200, 201, 202, 203, 204, 205, 206, 207, 208, 209, 210, 42, 211, 212, 213, 214] (by decide +kernel) (by decide +kernel)
set_option maxRecDepth 20000 in
theorem ggL_law_L_refuses_p7 : GoodIn wsL_law wsL_refuses_r7 := goodIn_r _ [215, 216, 217, 28, 218, 219, 220, 221, 222, 223, 27, 224, 65, 225, 226, 227, 228, 31, 229, 75, 74, 13, 33, 34] (by decide +kernel) (by decide +kernel)
set_option maxRecDepth 20000 in
theorem ggL_law_L_refuses_p8 : GoodIn wsL_law wsL_refuses_r8 := goodIn_r _ [35, 10, 11, 36, 37, 39, 40, 44, 45, 46, 49, 230, 231, 232, 233, 234, 235, 236, 237, 238, 239, 240, 241, 242] (by decide +kernel) (by decide +kernel)
set_option maxRecDepth 20000 in
theorem ggL_law_L_refuses_p9 : GoodIn wsL_law wsL_refuses_r9 := goodIn_r _ [72, 243, 244, 245, 246, 247, 248, 249, 250, 251, 252, 253, 254, 255, 256, 257, 258, 259, 260, 261, 262, 263, 264, 265] (by decide +kernel) (by decide +kernel)
set_option maxRecDepth 20000 in
theorem ggL_law_L_refuses_p10 : GoodIn wsL_law wsL_refuses_r10 := goodIn_r _ [266, 267, 268, 269, 270, 271, 272, 273, 274, 275, 276, 277, 278, 279, 280, 281, 282, 283, 284, 285, 286, 287, 288, 289] (by decide +kernel) (by decide +kernel)
set_option maxRecDepth 20000 in
theorem ggL_law_L_refuses_p11 : GoodIn wsL_law wsL_refuses_r11 := goodIn_r _ [290, 291, 292, 293, 294, 295, 296, 297, 298, 299, 300, 301, 302, 16, 303, 304, 305, 306, 307, 308, 309, 310, 311, 312] (by decide +kernel) (by decide +kernel)
set_option maxRecDepth 20000 in
theorem ggL_law_L_refuses_p12 : GoodIn wsL_law wsL_refuses_r12 := goodIn_r _ [313, 314, 315, 316, 317, 318, 319, 320, 321, 322, 323, 324, 325, 326, 327, 328, 329, 330, 331, 332, 333, 334, 335, 336] (by decide +kernel) (by decide +kernel)
set_option maxRecDepth 20000 in
theorem ggL_law_L_refuses_p13 : GoodIn wsL_law wsL_refuses_r13 := goodIn_r _ [337, 338, 339, 340, 341, 342, 343, 344, 345, 346, 347, 348, 349, 350, 351, 352, 353, 354, 355, 356, 357, 358, 359, 360] (by decide +kernel) (by decide +kernel)
set_option maxRecDepth 20000 in
theorem ggL_law_L_refuses_p14 : GoodIn wsL_law wsL_refuses_r14 := goodIn_r _ [361, 362, 363, 364, 365, 366, 367, 368, 369, 370, 371, 372, 373, 374, 375, 376, 377, 378, 379, 380, 381, 382, 383, 384] (by decide +kernel) (by decide +kernel)
set_option maxRecDepth 20000 in
theorem ggL_law_L_refuses_p15 : GoodIn wsL_law wsL_refuses_r15 := goodIn_r _ [385, 386, 20, 387, 388, 389, 390, 391, 19, 392, 393, 394, 395, 396, 397, 56, 398, 399, 400, 401, 402, 55, 403, 404] (by decide +kernel) (by decide +kernel)
set_option maxRecDepth 20000 in
theorem ggL_law_L_refuses_p16 : GoodIn wsL_law wsL_refuses_r16 := goodIn_r _ [405, 406, 407, 408, 409, 410, 411, 412, 413, 414, 415, 416, 417, 418, 419, 420, 421, 422, 423, 424, 425, 426, 427, 428] (by decide +kernel) (by decide +kernel)
set_option maxRecDepth 20000 in
theorem ggL_law_L_refuses_p17 : GoodIn wsL_law wsL_refuses_r17 := goodIn_r _ [429, 430, 431, 432, 433, 434, 435, 436, 437, 438, 439, 440, 441, 442, 443, 444, 445, 71, 73, 446, 447, 448, 449, 450] (by decide +kernel) (by decide +kernel)
set_option maxRecDepth 20000 in
theorem ggL_law_L_refuses_p18 : GoodIn wsL_law wsL_refuses_r18 := goodIn_r _ [451, 452, 453, 454, 455, 456, 457, 458, 459, 460, 461, 462, 463, 464, 465, 466, 467, 468, 469, 470, 471, 472, 473, 474] (by decide +kernel) (by decide +kernel)
set_option maxRecDepth 20000 in
theorem ggL_law_L_refuses_p19 : GoodIn wsL_law wsL_refuses_r19 := goodIn_r _ [475, 476, 477, 478, 479, 480, 481, 482, 483, 484, 485, 486, 487, 488, 489, 490, 491, 492, 493, 494, 495, 496, 497, 498] (by decide +kernel) (by decide +kernel)
set_option maxRecDepth 20000 in
theorem ggL_law_L_refuses_p20 : GoodIn wsL_law wsL_refuses_r20 := goodIn_r _ [499, 500, 501, 502, 503, 504, 505, 506, 507, 508, 32, 509, 510, 511, 512, 513, 514, 515, 516, 517, 518, 519, 520, 521] (by decide +kernel) (by decide +kernel)
set_option maxRecDepth 20000 in
theorem ggL_law_L_refuses_p21 : GoodIn wsL_law wsL_refuses_r21 := goodIn_r _ [522, 523, 524, 525, 526, 527, 528, 529, 530, 531, 532, 533, 534, 535, 536, 537, 538, 539, 540, 541, 542, 543, 544, 545] (by decide +kernel) (by decide +kernel)
set_option maxRecDepth 20000 in
theorem ggL_law_L_refuses_p22 : GoodIn wsL_law wsL_refuses_r22 := goodIn_r _ [546, 547, 548, 549, 550, 551, 552, 553, 554, 555] (by decide +kernel) (by decide +kernel)
set_option maxRecDepth 20000 in
theorem ggL_law_L_refuses_p23 : GoodIn wsL_law wsX60 := goodIn_r _ [606, 607, 608, 609, 610, 611] (by decide +kernel) (by decide +kernel)
set_option maxRecDepth 20000 in
theorem ggL_law_L_refuses_p24 : GoodIn wsL_law wsX50 := goodIn_r _ [624, 625] (by decide +kernel) (by decide +kernel)
set_option maxRecDepth 20000 in
theorem ggL_law_L_refuses_p25 : GoodIn wsL_law wsX40 := goodIn_r _ [612, 613, 614, 615, 616, 617] (by decide +kernel) (by decide +kernel)
set_option maxRecDepth 20000 in
theorem ggL_law_L_refuses_p26 : GoodIn wsL_law wsX00 := goodIn_r _ [630, 631, 632, 633, 634] (by decide +kernel) (by decide +kernel)
set_option maxRecDepth 20000 in
theorem ggL_law_L_refuses_p27 : GoodIn wsL_law wsX10 := goodIn_r _ [626, 627, 628] (by decide +kernel) (by decide +kernel)
set_option maxRecDepth 20000 in
theorem ggL_law_L_refuses_p28 : GoodIn wsL_law wsX30 := goodIn_r _ [629] (by decide +kernel) (by decide +kernel)
set_option maxRecDepth 20000 in
theorem ggL_law_L_refuses_p29 : GoodIn wsL_law wsX20 := goodIn_r _ [618, 619, 620, 621, 622, 623] (by decide +kernel) (by decide +kernel)
set_option maxRecDepth 20000 in
theorem ggL_law_L_refuses : GoodIn wsL_law wsL_refuses := goodIn_ca (goodIn_ca (goodIn_ca (goodIn_c2 ggL_law_L_refuses_p0 (goodIn_app (goodIn_app (goodIn_app (goodIn_app (goodIn_app (goodIn_app (goodIn_app (goodIn_app ggL_law_L_refuses_p1 (goodIn_app ggL_law_L_refuses_p2 (goodIn_app ggL_law_L_refuses_p3 (goodIn_app ggL_law_L_refuses_p4 (goodIn_app ggL_law_L_refuses_p5 (goodIn_app ggL_law_L_refuses_p6 (goodIn_app ggL_law_L_refuses_p7 (goodIn_app ggL_law_L_refuses_p8 (goodIn_app ggL_law_L_refuses_p9 (goodIn_app ggL_law_L_refuses_p10 (goodIn_app ggL_law_L_refuses_p11 (goodIn_app ggL_law_L_refuses_p12 (goodIn_app ggL_law_L_refuses_p13 (goodIn_app ggL_law_L_refuses_p14 (goodIn_app ggL_law_L_refuses_p15 (goodIn_app ggL_law_L_refuses_p16 (goodIn_app ggL_law_L_refuses_p17 (goodIn_app ggL_law_L_refuses_p18 (goodIn_app ggL_law_L_refuses_p19 (goodIn_app ggL_law_L_refuses_p20 (goodIn_app ggL_law_L_refuses_p21 ggL_law_L_refuses_p22))))))))))))))))))))) ggL_law_L_refuses_p23) ggL_law_L_refuses_p24) ggL_law_L_refuses_p25) ggL_law_L_refuses_p26) ggL_law_L_refuses_p27) ggL_law_L_refuses_p28) ggL_law_L_refuses_p29)) (goodIn_sub (fun _ h => List.mem_append_left _ (List.mem_append_left _ (List.mem_append_right _ h))) (by decide +kernel))) (goodIn_sub (fun _ h => List.mem_append_left _ (List.mem_append_right _ h)) (by decide +kernel))) (goodIn_sub (fun _ h => List.mem_append_right _ h) (by decide +kernel))
set_option maxRecDepth 20000 in
theorem gL_law_L_refuses : GoodIn wsL_law (va_wsS RL 193 yL_refuses wsL_refuses) := goodIn_app (goodIn_of _ (by decide +kernel)) ggL_law_L_refuses
set_option maxRecDepth 20000 in
theorem ggL_law_L_act_p0 : GoodIn wsL_law [.code yL_act cL_act 3 (some .int)] := goodIn_r _ [558] (by decide +kernel) (by decide +kernel)
