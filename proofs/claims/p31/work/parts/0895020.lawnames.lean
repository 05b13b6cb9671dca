set_option maxRecDepth 20000 in
theorem ggL_law_L_alike_p16 : GoodIn wsL_law wsL_alike_r16 := goodIn_r _ [337, 338, 339, 340, 341, 342, 343, 344, 345, 346, 347, 348, 349, 350, 351, 352, 353, 354, 355, 356, 357, 358, 359, 360] (by decide +kernel) (by decide +kernel)
set_option maxRecDepth 20000 in
theorem ggL_law_L_alike_p17 : GoodIn wsL_law wsL_alike_r17 := goodIn_r _ [361, 362, 363, 364, 365, 366, 367, 368, 369, 370, 371, 372, 373, 374, 375, 376, 377, 378, 379, 380, 381, 382, 383, 384] (by decide +kernel) (by decide +kernel)
set_option maxRecDepth 20000 in
theorem ggL_law_L_alike_p18 : GoodIn wsL_law wsL_alike_r18 := goodIn_r _ [385, 386, 387, 419, 420, 421, 422, 423, 424, 425, 426, 427, 428, 429, 430, 431, 432, 433, 434, 435, 436, 437, 438, 439] (by decide +kernel) (by decide +kernel)
set_option maxRecDepth 20000 in
theorem ggL_law_L_alike_p19 : GoodIn wsL_law wsL_alike_r19 := goodIn_r _ [440, 450, 451, 452, 453, 454, 455, 456, 457, 458, 459, 460, 461, 462, 463, 464, 465, 466, 467, 468, 469, 470, 471, 472] (by decide +kernel) (by decide +kernel)
set_option maxRecDepth 20000 in
theorem ggL_law_L_alike_p20 : GoodIn wsL_law wsL_alike_r20 := goodIn_r _ [473, 474, 475, 476, 477, 478, 479, 480, 481, 482, 483, 484, 485, 486, 487, 488, 489, 490, 491, 492, 493, 494, 495, 496] (by decide +kernel) (by decide +kernel)
set_option maxRecDepth 20000 in
theorem ggL_law_L_alike_p21 : GoodIn wsL_law wsL_alike_r21 := goodIn_r _ [497, 498, 499, 500, 501, 502, 503, 504, 505, 506, 507, 508, 32, 509, 510, 511, 512, 513, 514, 515, 516, 517, 518, 519] (by decide +kernel) (by decide +kernel)
set_option maxRecDepth 20000 in
theorem ggL_law_L_alike_p22 : GoodIn wsL_law wsL_alike_r22 := goodIn_r _ [520, 521] (by decide +kernel) (by decide +kernel)
set_option maxRecDepth 20000 in
theorem ggL_law_L_alike_p23 : GoodIn wsL_law wsX60 := goodIn_r _ [606, 607, 608, 609, 610, 611] (by decide +kernel) (by decide +kernel)
set_option maxRecDepth 20000 in
theorem ggL_law_L_alike_p24 : GoodIn wsL_law wsX50 := goodIn_r _ [624, 625] (by decide +kernel) (by decide +kernel)
set_option maxRecDepth 20000 in
theorem ggL_law_L_alike_p25 : GoodIn wsL_law wsX40 := goodIn_r _ [612, 613, 614, 615, 616, 617] (by decide +kernel) (by decide +kernel)
set_option maxRecDepth 20000 in
theorem ggL_law_L_alike_p26 : GoodIn wsL_law wsX20 := goodIn_r _ [618, 619, 620, 621, 622, 623] (by decide +kernel) (by decide +kernel)
set_option maxRecDepth 20000 in
theorem ggL_law_L_alike_p27 : GoodIn wsL_law wsX00 := goodIn_r _ [630, 631, 632, 633, 634] (by decide +kernel) (by decide +kernel)
set_option maxRecDepth 20000 in
theorem ggL_law_L_alike_p28 : GoodIn wsL_law wsX10 := goodIn_r _ [626, 627, 628] (by decide +kernel) (by decide +kernel)
set_option maxRecDepth 20000 in
theorem ggL_law_L_alike_p29 : GoodIn wsL_law wsX30 := goodIn_r _ [629] (by decide +kernel) (by decide +kernel)
set_option maxRecDepth 20000 in
theorem ggL_law_L_alike : GoodIn wsL_law wsL_alike := goodIn_ca (goodIn_ca (goodIn_ca (goodIn_c2 ggL_law_L_alike_p0 (goodIn_app (goodIn_app (goodIn_app (goodIn_app (goodIn_app (goodIn_app (goodIn_app (goodIn_app ggL_law_L_alike_p1 (goodIn_app ggL_law_L_alike_p2 (goodIn_app ggL_law_L_alike_p3 (goodIn_app ggL_law_L_alike_p4 (goodIn_app ggL_law_L_alike_p5 (goodIn_app ggL_law_L_alike_p6 (goodIn_app ggL_law_L_alike_p7 (goodIn_app ggL_law_L_alike_p8 (goodIn_app ggL_law_L_alike_p9 (goodIn_app ggL_law_L_alike_p10 (goodIn_app ggL_law_L_alike_p11 (goodIn_app ggL_law_L_alike_p12 (goodIn_app ggL_law_L_alike_p13 (goodIn_app ggL_law_L_alike_p14 (goodIn_app ggL_law_L_alike_p15 (goodIn_app ggL_law_L_alike_p16 (goodIn_app ggL_law_L_alike_p17 (goodIn_app ggL_law_L_alike_p18 (goodIn_app ggL_law_L_alike_p19 (goodIn_app ggL_law_L_alike_p20 (goodIn_app ggL_law_L_alike_p21 ggL_law_L_alike_p22))))))))))))))))))))) ggL_law_L_alike_p23) ggL_law_L_alike_p24) ggL_law_L_alike_p25) ggL_law_L_alike_p26) ggL_law_L_alike_p27) ggL_law_L_alike_p28) ggL_law_L_alike_p29)) (goodIn_sub (fun _ h => List.mem_append_left _ (List.mem_append_left _ (List.mem_append_right _ h))) (by decide +kernel))) (goodIn_sub (fun _ h => List.mem_append_left _ (List.mem_append_right _ h)) (by decide +kernel))) (goodIn_sub (fun _ h => List.mem_append_right _ h) (by decide +kernel))
set_option maxRecDepth 20000 in
theorem gL_law_L_alike : GoodIn wsL_law (va_wsS RL 200 yL_alike wsL_alike) := goodIn_app (goodIn_of _ (by decide +kernel)) ggL_law_L_alike
