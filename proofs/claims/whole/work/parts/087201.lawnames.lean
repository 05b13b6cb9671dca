set_option maxRecDepth 20000 in
theorem ggL_law_L_nearest_p5 : GoodIn wsL_law wsX40 := goodIn_r _ [897, 898, 899, 900, 901, 902] (by decide +kernel) (by decide +kernel)
set_option maxRecDepth 20000 in
theorem ggL_law_L_nearest_p6 : GoodIn wsL_law wsX20 := goodIn_r _ [903, 904, 905, 906, 907, 908] (by decide +kernel) (by decide +kernel)
set_option maxRecDepth 20000 in
theorem ggL_law_L_nearest_p7 : GoodIn wsL_law wsX00 := goodIn_r _ [915, 916, 917, 918, 919] (by decide +kernel) (by decide +kernel)
set_option maxRecDepth 20000 in
theorem ggL_law_L_nearest : GoodIn wsL_law wsL_nearest := goodIn_ca (goodIn_c2 ggL_law_L_nearest_p0 (goodIn_app (goodIn_app (goodIn_app (goodIn_app (goodIn_app ggL_law_L_nearest_p1 (goodIn_app ggL_law_L_nearest_p2 ggL_law_L_nearest_p3)) ggL_law_L_nearest_p4) ggL_law_L_nearest_p5) ggL_law_L_nearest_p6) ggL_law_L_nearest_p7)) (goodIn_sub (fun _ h => List.mem_append_right _ h) (by decide +kernel))
set_option maxRecDepth 20000 in
theorem gL_law_L_nearest : GoodIn wsL_law (va_wsS RL 152 yL_nearest wsL_nearest) := goodIn_app (goodIn_of _ (by decide +kernel)) ggL_law_L_nearest
set_option maxRecDepth 20000 in
theorem ggL_law_X7_nearest_p0 : GoodIn wsL_law [.code yX7_nearest cX7_nearest 8 (some .int)] := goodIn_r _ [724] (by decide +kernel) (by decide +kernel)
theorem ggL_law_X7_nearest_p1 : GoodIn wsL_law wsX7_nearest_r1 := goodIn_r _ [84, 281, 282, 5, 283, 122, 123, 124, 125, 126, 127, 128, 129, 523, 524, 525, 526, 91, 92, 224, 225, 226, 227, 228] (by decide +kernel) (by decide +kernel)
theorem ggL_law_X7_nearest_p2 : GoodIn wsL_law wsX7_nearest_r2 := goodIn_r _ [229, 230, 231, 232, 233, 234, 235, 236, 237, 238, 287, 288, 289, 527, 528, 529, 530, 93, 531, 532, 533, 534, 535, 536] (by decide +kernel) (by decide +kernel)
theorem ggL_law_X7_nearest_p3 : GoodIn wsL_law wsX7_nearest_r3 := goodIn_r _ [537, 538, 539] (by decide +kernel) (by decide +kernel)
theorem ggL_law_X7_nearest_p4 : GoodIn wsL_law wsX70 := goodIn_r _ [878, 879, 880, 881, 882, 883, 884, 885, 886, 887, 888, 889, 890, 891, 892, 893, 894, 895, 896] (by decide +kernel) (by decide +kernel)
theorem ggL_law_X7_nearest : GoodIn wsL_law wsX7_nearest := (goodIn_c2 ggL_law_X7_nearest_p0 (goodIn_app (goodIn_app ggL_law_X7_nearest_p1 (goodIn_app ggL_law_X7_nearest_p2 ggL_law_X7_nearest_p3)) ggL_law_X7_nearest_p4))
set_option maxRecDepth 20000 in
theorem gL_law_X7_nearest : GoodIn wsL_law (wsV RL 154 RX7 yX7_nearest wsX7_nearest) := goodIn_app (goodIn_of _ (by decide +kernel)) ggL_law_X7_nearest
set_option maxRecDepth 20000 in
theorem ggL_law_L_between_p0 : GoodIn wsL_law [.codeWith yL_between cL_between 5 (some .int) [(0, 10, 13, 27)]] := goodIn_r _ [727] (by decide +kernel) (by decide +kernel)
set_option maxRecDepth 20000 in
theorem ggL_law_L_between_p1 : GoodIn wsL_law wsL_between_r1 := goodIn_r _ [260, 728, 729, 730, 2, 731, 265, 266, 17, 22, 188, 267, 268, 269, 16, 270, 271, 732, 586, 587, 21, 588, 57, 589] (by decide +kernel) (by decide +kernel)
set_option maxRecDepth 20000 in
theorem ggL_law_L_between_p2 : GoodIn wsL_law wsL_between_r2 := goodIn_r _ [367, 74, 368, 590, 205, 206, 40, 207, 52, 150, 151, 114, 115, 591, 250, 251, 252, 53, 592, 593, 594, 595, 596, 597] (by decide +kernel) (by decide +kernel)
set_option maxRecDepth 20000 in
theorem ggL_law_L_between_p3 : GoodIn wsL_law wsL_between_r3 := goodIn_r _ [598, 394, 395] (by decide +kernel) (by decide +kernel)
set_option maxRecDepth 20000 in
theorem ggL_law_L_between_p4 : GoodIn wsL_law wsX60 := goodIn_r _ [872, 873, 874, 875, 876, 877] (by decide +kernel) (by decide +kernel)
set_option maxRecDepth 20000 in
theorem ggL_law_L_between_p5 : GoodIn wsL_law wsX40 := goodIn_r _ [897, 898, 899, 900, 901, 902] (by decide +kernel) (by decide +kernel)
set_option maxRecDepth 20000 in
theorem ggL_law_L_between_p6 : GoodIn wsL_law wsX20 := goodIn_r _ [903, 904, 905, 906, 907, 908] (by decide +kernel) (by decide +kernel)
set_option maxRecDepth 20000 in
theorem ggL_law_L_between_p7 : GoodIn wsL_law wsX00 := goodIn_r _ [915, 916, 917, 918, 919] (by decide +kernel) (by decide +kernel)
set_option maxRecDepth 20000 in
theorem ggL_law_L_between : GoodIn wsL_law wsL_between := goodIn_ca (goodIn_c2 ggL_law_L_between_p0 (goodIn_app (goodIn_app (goodIn_app (goodIn_app (goodIn_app ggL_law_L_between_p1 (goodIn_app ggL_law_L_between_p2 ggL_law_L_between_p3)) ggL_law_L_between_p4) ggL_law_L_between_p5) ggL_law_L_between_p6) ggL_law_L_between_p7)) (goodIn_sub (fun _ h => List.mem_append_right _ h) (by decide +kernel))
set_option maxRecDepth 20000 in
theorem gL_law_L_between : GoodIn wsL_law (va_wsS RL 155 yL_between wsL_between) := goodIn_app (goodIn_of _ (by decide +kernel)) ggL_law_L_between
set_option maxRecDepth 20000 in
theorem ggL_law_X7_between_p0 : GoodIn wsL_law [.code yX7_between cX7_between 3 (some .int)] := goodIn_r _ [736] (by decide +kernel) (by decide +kernel)
theorem ggL_law_X7_between_p1 : GoodIn wsL_law wsX7_between_r1 := goodIn_r _ [84, 281, 282, 5, 283, 122, 123, 124, 125, 126, 127, 128, 129, 287, 288, 289, 523, 524, 525, 526, 91, 92, 224, 225] (by decide +kernel) (by decide +kernel)
theorem ggL_law_X7_between_p2 : GoodIn wsL_law wsX7_between_r2 := goodIn_r _ [226, 227, 228, 229, 230, 231, 232, 233, 234, 235, 236, 237, 238, 527, 528, 529, 530, 93, 531, 532, 533, 534, 535, 536] (by decide +kernel) (by decide +kernel)
theorem ggL_law_X7_between_p3 : GoodIn wsL_law wsX7_between_r3 := goodIn_r _ [537, 538, 539] (by decide +kernel) (by decide +kernel)
theorem ggL_law_X7_between_p4 : GoodIn wsL_law wsX70 := goodIn_r _ [878, 879, 880, 881, 882, 883, 884, 885, 886, 887, 888, 889, 890, 891, 892, 893, 894, 895, 896] (by decide +kernel) (by decide +kernel)
theorem ggL_law_X7_between : GoodIn wsL_law wsX7_between := (goodIn_c2 ggL_law_X7_between_p0 (goodIn_app (goodIn_app ggL_law_X7_between_p1 (goodIn_app ggL_law_X7_between_p2 ggL_law_X7_between_p3)) ggL_law_X7_between_p4))
set_option maxRecDepth 20000 in
theorem gL_law_X7_between : GoodIn wsL_law (wsV RL 157 RX7 yX7_between wsX7_between) := goodIn_app (goodIn_of _ (by decide +kernel)) ggL_law_X7_between
set_option maxRecDepth 20000 in
theorem ggL_law_X6_closest_p0 : GoodIn wsL_law [.code yX6_closest cX6_closest 1 (some .int)] := goodIn_r _ [740] (by decide +kernel) (by decide +kernel)
theorem ggL_law_X6_closest_p1 : GoodIn wsL_law wsX6_closest_r1 := goodIn_r _ [22, 17, 741, 742, 743, 21, 744, 582, 583, 604, 273, 274, 16, 275, 43, 150, 2, 151, 585, 586, 587, 588, 57, 589] (by decide +kernel) (by decide +kernel)
theorem ggL_law_X6_closest_p2 : GoodIn wsL_law wsX6_closest_r2 := goodIn_r _ [367, 74, 368, 590, 205, 206, 40, 207, 52, 114, 115, 591, 250, 251, 252, 53, 592, 593, 594, 595, 596, 597, 598, 394] (by decide +kernel) (by decide +kernel)
theorem ggL_law_X6_closest_p3 : GoodIn wsL_law wsX6_closest_r3 := goodIn_r _ [395] (by decide +kernel) (by decide +kernel)
theorem ggL_law_X6_closest_p4 : GoodIn wsL_law wsX60 := goodIn_r _ [872, 873, 874, 875, 876, 877] (by decide +kernel) (by decide +kernel)
theorem ggL_law_X6_closest_p5 : GoodIn wsL_law wsX40 := goodIn_r _ [897, 898, 899, 900, 901, 902] (by decide +kernel) (by decide +kernel)
theorem ggL_law_X6_closest_p6 : GoodIn wsL_law wsX20 := goodIn_r _ [903, 904, 905, 906, 907, 908] (by decide +kernel) (by decide +kernel)
theorem ggL_law_X6_closest_p7 : GoodIn wsL_law wsX00 := goodIn_r _ [915, 916, 917, 918, 919] (by decide +kernel) (by decide +kernel)
theorem ggL_law_X6_closest : GoodIn wsL_law wsX6_closest := (goodIn_c2 ggL_law_X6_closest_p0 (goodIn_app (goodIn_app (goodIn_app (goodIn_app (goodIn_app ggL_law_X6_closest_p1 (goodIn_app ggL_law_X6_closest_p2 ggL_law_X6_closest_p3)) ggL_law_X6_closest_p4) ggL_law_X6_closest_p5) ggL_law_X6_closest_p6) ggL_law_X6_closest_p7))
set_option maxRecDepth 20000 in
theorem gL_law_X6_closest : GoodIn wsL_law (wsV RL 158 RX6 yX6_closest wsX6_closest) := goodIn_app (goodIn_of _ (by decide +kernel)) ggL_law_X6_closest
set_option maxRecDepth 20000 in
theorem ggL_law_X7_closest_p0 : GoodIn wsL_law [.code yX7_closest cX7_closest 1 (some .int)] := goodIn_r _ [748] (by decide +kernel) (by decide +kernel)
theorem ggL_law_X7_closest_p1 : GoodIn wsL_law wsX7_closest_r1 := goodIn_r _ [129, 84, 749, 750, 751, 752, 5, 753, 754, 284, 285, 286, 287, 288, 289, 523, 524, 525, 526, 91, 92, 224, 225, 226] (by decide +kernel) (by decide +kernel)
theorem ggL_law_X7_closest_p2 : GoodIn wsL_law wsX7_closest_r2 := goodIn_r _ [227, 228, 229, 230, 231, 232, 233, 234, 235, 236, 237, 238, 527, 528, 529, 530, 93, 531, 532, 533, 534, 535, 536, 537] (by decide +kernel) (by decide +kernel)
theorem ggL_law_X7_closest_p3 : GoodIn wsL_law wsX7_closest_r3 := goodIn_r _ [538, 539] (by decide +kernel) (by decide +kernel)
theorem ggL_law_X7_closest_p4 : GoodIn wsL_law wsX70 := goodIn_r _ [878, 879, 880, 881, 882, 883, 884, 885, 886, 887, 888, 889, 890, 891, 892, 893, 894, 895, 896] (by decide +kernel) (by decide +kernel)
theorem ggL_law_X7_closest : GoodIn wsL_law wsX7_closest := (goodIn_c2 ggL_law_X7_closest_p0 (goodIn_app (goodIn_app ggL_law_X7_closest_p1 (goodIn_app ggL_law_X7_closest_p2 ggL_law_X7_closest_p3)) ggL_law_X7_closest_p4))
set_option maxRecDepth 20000 in
theorem gL_law_X7_closest : GoodIn wsL_law (wsV RL 161 RX7 yX7_closest wsX7_closest) := goodIn_app (goodIn_of _ (by decide +kernel)) ggL_law_X7_closest
set_option maxRecDepth 20000 in
theorem ggL_law_X6_byOthers_p0 : GoodIn wsL_law [.code yX6_byOthers cX6_byOthers 3 (some .int)] := goodIn_r _ [758] (by decide +kernel) (by decide +kernel)
theorem ggL_law_X6_byOthers_p1 : GoodIn wsL_law wsX6_byOthers_r1 := goodIn_r _ [17, 190, 22, 574, 575, 576, 577, 21, 578, 579, 580, 581, 582, 583, 58, 584, 585, 586, 587, 588, 57, 589, 367, 74] (by decide +kernel) (by decide +kernel)
theorem ggL_law_X6_byOthers_p2 : GoodIn wsL_law wsX6_byOthers_r2 := goodIn_r _ [368, 590, 205, 206, 40, 207, 52, 150, 2, 151, 114, 115, 591, 250, 251, 252, 53, 592, 593, 594, 595, 596, 597, 598] (by decide +kernel) (by decide +kernel)
theorem ggL_law_X6_byOthers_p3 : GoodIn wsL_law wsX6_byOthers_r3 := goodIn_r _ [394, 395, 599, 329, 330, 16, 331, 44, 600, 601, 602, 603, 604, 273, 274, 275, 43, 272] (by decide +kernel) (by decide +kernel)
theorem ggL_law_X6_byOthers_p4 : GoodIn wsL_law wsX60 := goodIn_r _ [872, 873, 874, 875, 876, 877] (by decide +kernel) (by decide +kernel)
theorem ggL_law_X6_byOthers_p5 : GoodIn wsL_law wsX40 := goodIn_r _ [897, 898, 899, 900, 901, 902] (by decide +kernel) (by decide +kernel)
theorem ggL_law_X6_byOthers_p6 : GoodIn wsL_law wsX20 := goodIn_r _ [903, 904, 905, 906, 907, 908] (by decide +kernel) (by decide +kernel)
theorem ggL_law_X6_byOthers_p7 : GoodIn wsL_law wsX00 := goodIn_r _ [915, 916, 917, 918, 919] (by decide +kernel) (by decide +kernel)
theorem ggL_law_X6_byOthers : GoodIn wsL_law wsX6_byOthers := (goodIn_c2 ggL_law_X6_byOthers_p0 (goodIn_app (goodIn_app (goodIn_app (goodIn_app (goodIn_app ggL_law_X6_byOthers_p1 (goodIn_app ggL_law_X6_byOthers_p2 ggL_law_X6_byOthers_p3)) ggL_law_X6_byOthers_p4) ggL_law_X6_byOthers_p5) ggL_law_X6_byOthers_p6) ggL_law_X6_byOthers_p7))
set_option maxRecDepth 20000 in
theorem gL_law_X6_byOthers : GoodIn wsL_law (wsV RL 162 RX6 yX6_byOthers wsX6_byOthers) := goodIn_app (goodIn_of _ (by decide +kernel)) ggL_law_X6_byOthers
set_option maxRecDepth 20000 in
theorem ggL_law_X7_byOthers_p0 : GoodIn wsL_law [.code yX7_byOthers cX7_byOthers 3 (some .int)] := goodIn_r _ [762] (by decide +kernel) (by decide +kernel)
theorem ggL_law_X7_byOthers_p1 : GoodIn wsL_law wsX7_byOthers_r1 := goodIn_r _ [129, 84, 617, 618, 287, 288, 5, 289, 619, 620, 621, 622, 623, 523, 524, 525, 526, 91, 92, 224, 225, 226, 227, 228] (by decide +kernel) (by decide +kernel)
theorem ggL_law_X7_byOthers_p2 : GoodIn wsL_law wsX7_byOthers_r2 := goodIn_r _ [229, 230, 231, 232, 233, 234, 235, 236, 237, 238, 527, 528, 529, 530, 93, 531, 532, 533, 534, 535, 536, 537, 538, 539] (by decide +kernel) (by decide +kernel)
theorem ggL_law_X7_byOthers_p3 : GoodIn wsL_law wsX7_byOthers_r3 := goodIn_r _ [284, 285, 286] (by decide +kernel) (by decide +kernel)
theorem ggL_law_X7_byOthers_p4 : GoodIn wsL_law wsX70 := goodIn_r _ [878, 879, 880, 881, 882, 883, 884, 885, 886, 887, 888, 889, 890, 891, 892, 893, 894, 895, 896] (by decide +kernel) (by decide +kernel)
theorem ggL_law_X7_byOthers : GoodIn wsL_law wsX7_byOthers := (goodIn_c2 ggL_law_X7_byOthers_p0 (goodIn_app (goodIn_app ggL_law_X7_byOthers_p1 (goodIn_app ggL_law_X7_byOthers_p2 ggL_law_X7_byOthers_p3)) ggL_law_X7_byOthers_p4))
set_option maxRecDepth 20000 in
theorem gL_law_X7_byOthers : GoodIn wsL_law (wsV RL 165 RX7 yX7_byOthers wsX7_byOthers) := goodIn_app (goodIn_of _ (by decide +kernel)) ggL_law_X7_byOthers
set_option maxRecDepth 20000 in
theorem ggL_law_X6_bestRuling_p0 : GoodIn wsL_law [.code yX6_bestRuling cX6_bestRuling 5 (some .int)] := goodIn_r _ [766] (by decide +kernel) (by decide +kernel)
theorem ggL_law_X6_bestRuling_p1 : GoodIn wsL_law wsX6_bestRuling_r1 := goodIn_r _ [18, 17, 466, 356, 357, 16, 358, 41, 43, 44, 45, 271, 359, 360, 361, 362, 40, 363, 49, 50, 51, 52, 53, 364] (by decide +kernel) (by decide +kernel)
theorem ggL_law_X6_bestRuling_p2 : GoodIn wsL_law wsX6_bestRuling_r2 := goodIn_r _ [2, 365, 366, 367, 74, 368, 369, 370, 371, 372, 467, 468, 469, 470, 471, 472, 473, 474, 114, 115, 634, 635, 636, 637] (by decide +kernel) (by decide +kernel)
theorem ggL_law_X6_bestRuling_p3 : GoodIn wsL_law wsX6_bestRuling_r3 := goodIn_r _ [638, 639, 640, 641, 642, 643, 644, 645, 646, 73, 75, 199, 192, 193, 194, 150, 151, 200, 201, 202, 203, 382, 383, 384] (by decide +kernel) (by decide +kernel)
theorem ggL_law_X6_bestRuling_p4 : GoodIn wsL_law wsX6_bestRuling_r4 := goodIn_r _ [385, 387, 388, 389, 390, 391, 392, 393, 394, 395, 647, 648, 649, 650, 407, 408, 409, 410, 386, 205, 206, 207, 400, 401] (by decide +kernel) (by decide +kernel)
theorem ggL_law_X6_bestRuling_p5 : GoodIn wsL_law wsX6_bestRuling_r5 := goodIn_r _ [402, 403, 404, 405, 406, 767, 768, 769, 770, 22, 188, 741, 742, 743, 21, 744, 582, 583, 604, 273, 274, 275, 585, 586] (by decide +kernel) (by decide +kernel)
theorem ggL_law_X6_bestRuling_p6 : GoodIn wsL_law wsX6_bestRuling_r6 := goodIn_r _ [587, 588, 57, 589, 590, 591, 250, 251, 252, 592, 593, 594, 595, 596, 597, 598, 732] (by decide +kernel) (by decide +kernel)
theorem ggL_law_X6_bestRuling_p7 : GoodIn wsL_law wsX60 := goodIn_r _ [872, 873, 874, 875, 876, 877] (by decide +kernel) (by decide +kernel)
theorem ggL_law_X6_bestRuling_p8 : GoodIn wsL_law wsX40 := goodIn_r _ [897, 898, 899, 900, 901, 902] (by decide +kernel) (by decide +kernel)
theorem ggL_law_X6_bestRuling_p9 : GoodIn wsL_law wsX00 := goodIn_r _ [915, 916, 917, 918, 919] (by decide +kernel) (by decide +kernel)
theorem ggL_law_X6_bestRuling_p10 : GoodIn wsL_law wsX20 := goodIn_r _ [903, 904, 905, 906, 907, 908] (by decide +kernel) (by decide +kernel)
theorem ggL_law_X6_bestRuling : GoodIn wsL_law wsX6_bestRuling := (goodIn_c2 ggL_law_X6_bestRuling_p0 (goodIn_app (goodIn_app (goodIn_app (goodIn_app (goodIn_app ggL_law_X6_bestRuling_p1 (goodIn_app ggL_law_X6_bestRuling_p2 (goodIn_app ggL_law_X6_bestRuling_p3 (goodIn_app ggL_law_X6_bestRuling_p4 (goodIn_app ggL_law_X6_bestRuling_p5 ggL_law_X6_bestRuling_p6))))) ggL_law_X6_bestRuling_p7) ggL_law_X6_bestRuling_p8) ggL_law_X6_bestRuling_p9) ggL_law_X6_bestRuling_p10))
set_option maxRecDepth 20000 in
theorem gL_law_X6_bestRuling : GoodIn wsL_law (wsV RL 166 RX6 yX6_bestRuling wsX6_bestRuling) := goodIn_app (goodIn_of _ (by decide +kernel)) ggL_law_X6_bestRuling
set_option maxRecDepth 20000 in
theorem ggL_law_X7_bestRuling_p0 : GoodIn wsL_law [.code yX7_bestRuling cX7_bestRuling 4 (some .int)] := goodIn_r _ [774] (by decide +kernel) (by decide +kernel)
theorem ggL_law_X7_bestRuling_p1 : GoodIn wsL_law wsX7_bestRuling_r1 := goodIn_r _ [129, 84, 754, 665, 666, 667, 5, 668, 91, 287, 288, 289, 224, 225, 226, 227, 228, 229, 230, 231, 232, 233, 234, 235] (by decide +kernel) (by decide +kernel)
theorem ggL_law_X7_bestRuling_p2 : GoodIn wsL_law wsX7_bestRuling_r2 := goodIn_r _ [236, 237, 238, 750, 751, 752, 753, 749, 284, 285, 286, 523, 524, 525, 526, 92, 527, 528, 529, 530, 93, 531, 532, 533] (by decide +kernel) (by decide +kernel)
theorem ggL_law_X7_bestRuling_p3 : GoodIn wsL_law wsX7_bestRuling_r3 := goodIn_r _ [534, 535, 536, 537, 538, 539] (by decide +kernel) (by decide +kernel)
theorem ggL_law_X7_bestRuling_p4 : GoodIn wsL_law wsX70 := goodIn_r _ [878, 879, 880, 881, 882, 883, 884, 885, 886, 887, 888, 889, 890, 891, 892, 893, 894, 895, 896] (by decide +kernel) (by decide +kernel)
theorem ggL_law_X7_bestRuling : GoodIn wsL_law wsX7_bestRuling := (goodIn_c2 ggL_law_X7_bestRuling_p0 (goodIn_app (goodIn_app ggL_law_X7_bestRuling_p1 (goodIn_app ggL_law_X7_bestRuling_p2 ggL_law_X7_bestRuling_p3)) ggL_law_X7_bestRuling_p4))
set_option maxRecDepth 20000 in
theorem gL_law_X7_bestRuling : GoodIn wsL_law (wsV RL 169 RX7 yX7_bestRuling wsX7_bestRuling) := goodIn_app (goodIn_of _ (by decide +kernel)) ggL_law_X7_bestRuling
set_option maxRecDepth 20000 in
theorem ggL_law_X6_mirrored_p0 : GoodIn wsL_law [.code yX6_mirrored cX6_mirrored 1 (some .int)] := goodIn_r _ [778] (by decide +kernel) (by decide +kernel)
theorem ggL_law_X6_mirrored_p1 : GoodIn wsL_law wsX6_mirrored_r1 := goodIn_r _ [18, 17, 22, 574, 466, 356, 357, 16, 358, 41, 43, 44, 45, 271, 359, 360, 361, 362, 40, 363, 49, 50, 51, 52] (by decide +kernel) (by decide +kernel)
theorem ggL_law_X6_mirrored_p2 : GoodIn wsL_law wsX6_mirrored_r2 := goodIn_r _ [53, 364, 2, 365, 366, 367, 74, 368, 369, 370, 371, 372, 779, 780, 781, 782, 783, 784, 785, 786, 199, 192, 193, 194] (by decide +kernel) (by decide +kernel)
theorem ggL_law_X6_mirrored_p3 : GoodIn wsL_law wsX6_mirrored_r3 := goodIn_r _ [150, 151, 200, 201, 202, 203, 382, 383, 384, 385, 396, 397, 398, 399, 114, 115, 377, 329, 330, 331, 642, 643, 644, 645] (by decide +kernel) (by decide +kernel)
theorem ggL_law_X6_mirrored_p4 : GoodIn wsL_law wsX6_mirrored_r4 := goodIn_r _ [646, 73, 75, 387, 388, 389, 390, 391, 392, 393, 394, 395, 647, 648, 649, 650, 407, 408, 409, 410, 386, 205, 206, 207] (by decide +kernel) (by decide +kernel)
theorem ggL_law_X6_mirrored_p5 : GoodIn wsL_law wsX6_mirrored_r5 := goodIn_r _ [400, 401, 402, 403, 404, 405, 406, 575, 576, 577, 21, 578, 579, 580, 581, 582, 583, 58, 584, 585, 586, 587, 588, 57] (by decide +kernel) (by decide +kernel)
theorem ggL_law_X6_mirrored_p6 : GoodIn wsL_law wsX6_mirrored_r6 := goodIn_r _ [589, 590, 591, 250, 251, 252, 592, 593, 594, 595, 596, 597, 598, 599, 600, 601, 602, 603, 604, 273, 274, 275] (by decide +kernel) (by decide +kernel)
theorem ggL_law_X6_mirrored_p7 : GoodIn wsL_law wsX60 := goodIn_r _ [872, 873, 874, 875, 876, 877] (by decide +kernel) (by decide +kernel)
theorem ggL_law_X6_mirrored_p8 : GoodIn wsL_law wsX20 := goodIn_r _ [903, 904, 905, 906, 907, 908] (by decide +kernel) (by decide +kernel)
theorem ggL_law_X6_mirrored_p9 : GoodIn wsL_law wsX40 := goodIn_r _ [897, 898, 899, 900, 901, 902] (by decide +kernel) (by decide +kernel)
theorem ggL_law_X6_mirrored_p10 : GoodIn wsL_law wsX00 := goodIn_r _ [915, 916, 917, 918, 919] (by decide +kernel) (by decide +kernel)
theorem ggL_law_X6_mirrored : GoodIn wsL_law wsX6_mirrored := (goodIn_c2 ggL_law_X6_mirrored_p0 (goodIn_app (goodIn_app (goodIn_app (goodIn_app (goodIn_app ggL_law_X6_mirrored_p1 (goodIn_app ggL_law_X6_mirrored_p2 (goodIn_app ggL_law_X6_mirrored_p3 (goodIn_app ggL_law_X6_mirrored_p4 (goodIn_app ggL_law_X6_mirrored_p5 ggL_law_X6_mirrored_p6))))) ggL_law_X6_mirrored_p7) ggL_law_X6_mirrored_p8) ggL_law_X6_mirrored_p9) ggL_law_X6_mirrored_p10))
set_option maxRecDepth 20000 in
theorem gL_law_X6_mirrored : GoodIn wsL_law (wsV RL 170 RX6 yX6_mirrored wsX6_mirrored) := goodIn_app (goodIn_of _ (by decide +kernel)) ggL_law_X6_mirrored
set_option maxRecDepth 20000 in
theorem ggL_law_X7_mirrored_p0 : GoodIn wsL_law [.code yX7_mirrored cX7_mirrored 4 (some .int)] := goodIn_r _ [790] (by decide +kernel) (by decide +kernel)
theorem ggL_law_X7_mirrored_p1 : GoodIn wsL_law wsX7_mirrored_r1 := goodIn_r _ [129, 90, 84, 91, 617, 618, 224, 225, 5, 226, 227, 228, 229, 230, 231, 232, 233, 234, 235, 236, 237, 238, 619, 620] (by decide +kernel) (by decide +kernel)
theorem ggL_law_X7_mirrored_p2 : GoodIn wsL_law wsX7_mirrored_r2 := goodIn_r _ [621, 622, 623, 523, 524, 525, 526, 92, 287, 288, 289, 527, 528, 529, 530, 93, 531, 532, 533, 534, 535, 536, 537, 538] (by decide +kernel) (by decide +kernel)
theorem ggL_law_X7_mirrored_p3 : GoodIn wsL_law wsX7_mirrored_r3 := goodIn_r _ [539, 284, 285, 286] (by decide +kernel) (by decide +kernel)
theorem ggL_law_X7_mirrored_p4 : GoodIn wsL_law wsX70 := goodIn_r _ [878, 879, 880, 881, 882, 883, 884, 885, 886, 887, 888, 889, 890, 891, 892, 893, 894, 895, 896] (by decide +kernel) (by decide +kernel)
theorem ggL_law_X7_mirrored : GoodIn wsL_law wsX7_mirrored := (goodIn_c2 ggL_law_X7_mirrored_p0 (goodIn_app (goodIn_app ggL_law_X7_mirrored_p1 (goodIn_app ggL_law_X7_mirrored_p2 ggL_law_X7_mirrored_p3)) ggL_law_X7_mirrored_p4))
set_option maxRecDepth 20000 in
theorem gL_law_X7_mirrored : GoodIn wsL_law (wsV RL 173 RX7 yX7_mirrored wsX7_mirrored) := goodIn_app (goodIn_of _ (by decide +kernel)) ggL_law_X7_mirrored
set_option maxRecDepth 20000 in
theorem ggL_law_L_runScript_p0 : GoodIn wsL_law [.codeWith yL_runScript cL_runScript 6 (some .int) [(0, 11, 14, 13)]] := goodIn_r _ [793] (by decide +kernel) (by decide +kernel)
set_option maxRecDepth 20000 in
theorem ggL_law_L_runScript_p1 : GoodIn wsL_law wsL_runScript_r1 := goodIn_r _ [98, 794, 795, 796, 2, 797, 104, 105, 18, 17, 798, 799, 800, 801, 466, 356, 357, 16, 358, 41, 43, 44, 45, 271] (by decide +kernel) (by decide +kernel)
set_option maxRecDepth 20000 in
theorem ggL_law_L_runScript_p2 : GoodIn wsL_law wsL_runScript_r2 := goodIn_r _ [359, 360, 361, 362, 40, 363, 49, 50, 51, 52, 53, 364, 365, 366, 367, 74, 368, 369, 370, 371, 372, 802, 803, 804] (by decide +kernel) (by decide +kernel)
set_option maxRecDepth 20000 in
theorem ggL_law_L_runScript_p3 : GoodIn wsL_law wsL_runScript_r3 := goodIn_r _ [805, 22, 574, 190, 701, 700, 373, 374, 375, 376, 344, 345, 377, 329, 330, 331, 150, 151, 378, 379, 380, 381, 199, 192] (by decide +kernel) (by decide +kernel)
set_option maxRecDepth 20000 in
theorem ggL_law_L_runScript_p4 : GoodIn wsL_law wsL_runScript_r4 := goodIn_r _ [193, 194, 200, 201, 202, 203, 382, 383, 384, 385, 386, 205, 206, 207, 387, 388, 389, 390, 391, 392, 393, 394, 395, 114] (by decide +kernel) (by decide +kernel)
set_option maxRecDepth 20000 in
theorem ggL_law_L_runScript_p5 : GoodIn wsL_law wsL_runScript_r5 := goodIn_r _ [115, 396, 397, 398, 399, 400, 401, 402, 403, 404, 405, 406, 407, 408, 409, 410, 411, 412, 413, 414, 451, 452, 453, 454] (by decide +kernel) (by decide +kernel)
set_option maxRecDepth 20000 in
theorem ggL_law_L_runScript_p6 : GoodIn wsL_law wsL_runScript_r6 := goodIn_r _ [492, 493, 494, 495, 496, 497, 498, 499, 500, 501, 273, 274, 275, 502, 503, 504, 505, 506, 507, 250, 251, 252, 508, 509] (by decide +kernel) (by decide +kernel)
set_option maxRecDepth 20000 in
theorem ggL_law_L_runScript_p7 : GoodIn wsL_law wsL_runScript_r7 := goodIn_r _ [510, 511, 512, 513, 514, 468, 469, 470, 471, 472, 473, 474, 550, 551, 552, 553, 554, 268, 269, 270, 631, 632, 633, 634] (by decide +kernel) (by decide +kernel)
set_option maxRecDepth 20000 in
theorem ggL_law_L_runScript_p8 : GoodIn wsL_law wsL_runScript_r8 := goodIn_r _ [635, 636, 637, 638, 639, 640, 641, 642, 643, 644, 645, 646, 73, 75, 647, 648, 649, 650, 575, 576, 577, 21, 578, 579] (by decide +kernel) (by decide +kernel)
set_option maxRecDepth 20000 in
theorem ggL_law_L_runScript_p9 : GoodIn wsL_law wsL_runScript_r9 := goodIn_r _ [580, 581, 582, 583, 58, 584, 585, 586, 587, 588, 57, 589, 590, 591, 592, 593, 594, 595, 596, 597, 598, 599, 600, 601] (by decide +kernel) (by decide +kernel)
set_option maxRecDepth 20000 in
theorem ggL_law_L_runScript_p10 : GoodIn wsL_law wsL_runScript_r10 := goodIn_r _ [602, 603, 604, 569, 570, 571, 572, 188, 573, 191, 605, 606, 607, 608, 212, 213, 214, 215, 467] (by decide +kernel) (by decide +kernel)
set_option maxRecDepth 20000 in
theorem ggL_law_L_runScript_p11 : GoodIn wsL_law wsX60 := goodIn_r _ [872, 873, 874, 875, 876, 877] (by decide +kernel) (by decide +kernel)
set_option maxRecDepth 20000 in
theorem ggL_law_L_runScript_p12 : GoodIn wsL_law wsX40 := goodIn_r _ [897, 898, 899, 900, 901, 902] (by decide +kernel) (by decide +kernel)
set_option maxRecDepth 20000 in
theorem ggL_law_L_runScript_p13 : GoodIn wsL_law wsX00 := goodIn_r _ [915, 916, 917, 918, 919] (by decide +kernel) (by decide +kernel)
set_option maxRecDepth 20000 in
theorem ggL_law_L_runScript_p14 : GoodIn wsL_law wsX20 := goodIn_r _ [903, 904, 905, 906, 907, 908] (by decide +kernel) (by decide +kernel)
set_option maxRecDepth 20000 in
theorem ggL_law_L_runScript : GoodIn wsL_law wsL_runScript := goodIn_ca (goodIn_c2 ggL_law_L_runScript_p0 (goodIn_app (goodIn_app (goodIn_app (goodIn_app (goodIn_app ggL_law_L_runScript_p1 (goodIn_app ggL_law_L_runScript_p2 (goodIn_app ggL_law_L_runScript_p3 (goodIn_app ggL_law_L_runScript_p4 (goodIn_app ggL_law_L_runScript_p5 (goodIn_app ggL_law_L_runScript_p6 (goodIn_app ggL_law_L_runScript_p7 (goodIn_app ggL_law_L_runScript_p8 (goodIn_app ggL_law_L_runScript_p9 ggL_law_L_runScript_p10))))))))) ggL_law_L_runScript_p11) ggL_law_L_runScript_p12) ggL_law_L_runScript_p13) ggL_law_L_runScript_p14)) (goodIn_sub (fun _ h => List.mem_append_left _ (List.mem_append_left _ (List.mem_append_right _ h))) (by decide +kernel))
set_option maxRecDepth 20000 in
theorem gL_law_L_runScript : GoodIn wsL_law (va_wsS RL 176 yL_runScript wsL_runScript) := goodIn_app (goodIn_of _ (by decide +kernel)) ggL_law_L_runScript
set_option maxRecDepth 20000 in
theorem ggL_law_X7_runScript_p0 : GoodIn wsL_law [.code yX7_runScript cX7_runScript 8 (some .int)] := goodIn_r _ [809] (by decide +kernel) (by decide +kernel)
theorem ggL_law_X7_runScript_p1 : GoodIn wsL_law wsX7_runScript_r1 := goodIn_r _ [810, 280, 84, 85, 122, 123, 5, 124, 125, 126, 127, 128, 129, 429, 430, 431, 811, 812, 813, 814, 617, 618, 623, 425] (by decide +kernel) (by decide +kernel)
theorem ggL_law_X7_runScript_p2 : GoodIn wsL_law wsX7_runScript_r2 := goodIn_r _ [426, 427, 428, 432, 433, 434, 435, 91, 224, 225, 226, 227, 228, 229, 230, 231, 232, 233, 234, 235, 236, 237, 238, 519] (by decide +kernel) (by decide +kernel)
theorem ggL_law_X7_runScript_p3 : GoodIn wsL_law wsX7_runScript_r3 := goodIn_r _ [520, 521, 522, 284, 285, 286, 287, 288, 289, 523, 524, 525, 526, 92, 527, 528, 529, 530, 93, 531, 532, 533, 534, 535] (by decide +kernel) (by decide +kernel)
theorem ggL_law_X7_runScript_p4 : GoodIn wsL_law wsX7_runScript_r4 := goodIn_r _ [536, 537, 538, 539, 540, 541, 542, 164, 165, 166, 281, 282, 283, 559, 560, 561, 655, 656, 657, 658, 659, 660, 661, 662] (by decide +kernel) (by decide +kernel)
theorem ggL_law_X7_runScript_p5 : GoodIn wsL_law wsX7_runScript_r5 := goodIn_r _ [663, 664, 665, 666, 667, 668, 619, 620, 621, 622, 613, 614, 615, 616] (by decide +kernel) (by decide +kernel)
theorem ggL_law_X7_runScript_p6 : GoodIn wsL_law wsX70 := goodIn_r _ [878, 879, 880, 881, 882, 883, 884, 885, 886, 887, 888, 889, 890, 891, 892, 893, 894, 895, 896] (by decide +kernel) (by decide +kernel)
theorem ggL_law_X7_runScript : GoodIn wsL_law wsX7_runScript := (goodIn_c2 ggL_law_X7_runScript_p0 (goodIn_app (goodIn_app ggL_law_X7_runScript_p1 (goodIn_app ggL_law_X7_runScript_p2 (goodIn_app ggL_law_X7_runScript_p3 (goodIn_app ggL_law_X7_runScript_p4 ggL_law_X7_runScript_p5)))) ggL_law_X7_runScript_p6))
set_option maxRecDepth 20000 in
theorem gL_law_X7_runScript : GoodIn wsL_law (wsV RL 179 RX7 yX7_runScript wsX7_runScript) := goodIn_app (goodIn_of _ (by decide +kernel)) ggL_law_X7_runScript
set_option maxRecDepth 20000 in
theorem ggL_law_L_simulate_p0 : GoodIn wsL_law [.codeWith yL_simulate cL_simulate 6 (some .int) [(0, 11, 14, 13)]] := goodIn_r _ [817] (by decide +kernel) (by decide +kernel)
set_option maxRecDepth 20000 in
theorem ggL_law_L_simulate_p1 : GoodIn wsL_law wsL_simulate_r1 := goodIn_r _ [98, 818, 819, 820, 2, 821, 104, 105, 18, 17, 822, 823, 190, 466, 356, 357, 16, 358, 41, 43, 44, 45, 271, 359] (by decide +kernel) (by decide +kernel)
set_option maxRecDepth 20000 in
theorem ggL_law_L_simulate_p2 : GoodIn wsL_law wsL_simulate_r2 := goodIn_r _ [360, 361, 362, 40, 363, 49, 50, 51, 52, 53, 364, 365, 366, 367, 74, 368, 369, 370, 371, 372, 208, 209, 210, 211] (by decide +kernel) (by decide +kernel)
set_option maxRecDepth 20000 in
theorem ggL_law_L_simulate_p3 : GoodIn wsL_law wsL_simulate_r3 := goodIn_r _ [212, 213, 214, 215, 150, 151, 824, 825, 826, 827, 828, 492, 493, 494, 495, 496, 192, 193, 194, 497, 498, 499, 500, 501] (by decide +kernel) (by decide +kernel)
set_option maxRecDepth 20000 in
theorem ggL_law_L_simulate_p4 : GoodIn wsL_law wsL_simulate_r4 := goodIn_r _ [273, 274, 275, 502, 503, 504, 505, 506, 205, 206, 207, 507, 250, 251, 252, 508, 509, 510, 511, 512, 513, 114, 115, 514] (by decide +kernel) (by decide +kernel)
set_option maxRecDepth 20000 in
theorem ggL_law_L_simulate_p5 : GoodIn wsL_law wsL_simulate_r5 := goodIn_r _ [468, 469, 470, 471, 472, 473, 474, 569, 570, 571, 572, 188, 22, 573, 574, 191, 575, 576, 577, 21, 578, 579, 580, 581] (by decide +kernel) (by decide +kernel)
set_option maxRecDepth 20000 in
theorem ggL_law_L_simulate_p6 : GoodIn wsL_law wsL_simulate_r6 := goodIn_r _ [582, 583, 58, 584, 585, 586, 587, 588, 57, 589, 590, 591, 592, 593, 594, 595, 596, 597, 598, 394, 395, 599, 329, 330] (by decide +kernel) (by decide +kernel)
set_option maxRecDepth 20000 in
theorem ggL_law_L_simulate_p7 : GoodIn wsL_law wsL_simulate_r7 := goodIn_r _ [331, 600, 601, 602, 603, 604, 605, 606, 607, 608, 467, 451, 452, 453, 454, 373, 374, 375, 376, 344, 345, 377, 378, 379] (by decide +kernel) (by decide +kernel)
set_option maxRecDepth 20000 in
theorem ggL_law_L_simulate_p8 : GoodIn wsL_law wsL_simulate_r8 := goodIn_r _ [380, 381, 199, 200, 201, 202, 203, 382, 383, 384, 385, 386, 387, 388, 389, 390, 391, 392, 393, 396, 397, 398, 399, 400] (by decide +kernel) (by decide +kernel)
set_option maxRecDepth 20000 in
theorem ggL_law_L_simulate_p9 : GoodIn wsL_law wsL_simulate_r9 := goodIn_r _ [401, 402, 403, 404, 405, 406, 407, 408, 409, 410, 411, 412, 413, 414] (by decide +kernel) (by decide +kernel)
set_option maxRecDepth 20000 in
theorem ggL_law_L_simulate_p10 : GoodIn wsL_law wsX60 := goodIn_r _ [872, 873, 874, 875, 876, 877] (by decide +kernel) (by decide +kernel)
set_option maxRecDepth 20000 in
theorem ggL_law_L_simulate_p11 : GoodIn wsL_law wsX40 := goodIn_r _ [897, 898, 899, 900, 901, 902] (by decide +kernel) (by decide +kernel)
set_option maxRecDepth 20000 in
theorem ggL_law_L_simulate_p12 : GoodIn wsL_law wsX00 := goodIn_r _ [915, 916, 917, 918, 919] (by decide +kernel) (by decide +kernel)
set_option maxRecDepth 20000 in
theorem ggL_law_L_simulate_p13 : GoodIn wsL_law wsX20 := goodIn_r _ [903, 904, 905, 906, 907, 908] (by decide +kernel) (by decide +kernel)
set_option maxRecDepth 20000 in
theorem ggL_law_L_simulate : GoodIn wsL_law wsL_simulate := goodIn_ca (goodIn_c2 ggL_law_L_simulate_p0 (goodIn_app (goodIn_app (goodIn_app (goodIn_app (goodIn_app ggL_law_L_simulate_p1 (goodIn_app ggL_law_L_simulate_p2 (goodIn_app ggL_law_L_simulate_p3 (goodIn_app ggL_law_L_simulate_p4 (goodIn_app ggL_law_L_simulate_p5 (goodIn_app ggL_law_L_simulate_p6 (goodIn_app ggL_law_L_simulate_p7 (goodIn_app ggL_law_L_simulate_p8 ggL_law_L_simulate_p9)))))))) ggL_law_L_simulate_p10) ggL_law_L_simulate_p11) ggL_law_L_simulate_p12) ggL_law_L_simulate_p13)) (goodIn_sub (fun _ h => List.mem_append_left _ (List.mem_append_left _ (List.mem_append_right _ h))) (by decide +kernel))
set_option maxRecDepth 20000 in
theorem gL_law_L_simulate : GoodIn wsL_law (va_wsS RL 180 yL_simulate wsL_simulate) := goodIn_app (goodIn_of _ (by decide +kernel)) ggL_law_L_simulate
set_option maxRecDepth 20000 in
theorem ggL_law_X7_simulate_p0 : GoodIn wsL_law [.code yX7_simulate cX7_simulate 7 (some .int)] := goodIn_r _ [832] (by decide +kernel) (by decide +kernel)
theorem ggL_law_X7_simulate_p1 : GoodIn wsL_law wsX7_simulate_r1 := goodIn_r _ [660, 84, 85, 833, 834, 122, 123, 5, 124, 125, 126, 127, 128, 129, 429, 430, 431, 835, 836, 837, 838, 839, 840, 841] (by decide +kernel) (by decide +kernel)
theorem ggL_law_X7_simulate_p2 : GoodIn wsL_law wsX7_simulate_r2 := goodIn_r _ [842, 843, 519, 520, 521, 522, 284, 285, 286, 287, 288, 289, 523, 524, 525, 526, 91, 92, 224, 225, 226, 227, 228, 229] (by decide +kernel) (by decide +kernel)
theorem ggL_law_X7_simulate_p3 : GoodIn wsL_law wsX7_simulate_r3 := goodIn_r _ [230, 231, 232, 233, 234, 235, 236, 237, 238, 527, 528, 529, 530, 93, 531, 532, 533, 534, 535, 536, 537, 538, 539, 540] (by decide +kernel) (by decide +kernel)
theorem ggL_law_X7_simulate_p4 : GoodIn wsL_law wsX7_simulate_r4 := goodIn_r _ [541, 542, 164, 165, 166, 613, 614, 615, 616, 617, 618, 619, 620, 621, 622, 623, 432, 433, 434, 435, 239, 240, 241] (by decide +kernel) (by decide +kernel)
theorem ggL_law_X7_simulate_p5 : GoodIn wsL_law wsX70 := goodIn_r _ [878, 879, 880, 881, 882, 883, 884, 885, 886, 887, 888, 889, 890, 891, 892, 893, 894, 895, 896] (by decide +kernel) (by decide +kernel)
theorem ggL_law_X7_simulate : GoodIn wsL_law wsX7_simulate := (goodIn_c2 ggL_law_X7_simulate_p0 (goodIn_app (goodIn_app ggL_law_X7_simulate_p1 (goodIn_app ggL_law_X7_simulate_p2 (goodIn_app ggL_law_X7_simulate_p3 ggL_law_X7_simulate_p4))) ggL_law_X7_simulate_p5))
set_option maxRecDepth 20000 in
theorem gL_law_X7_simulate : GoodIn wsL_law (wsV RL 183 RX7 yX7_simulate wsX7_simulate) := goodIn_app (goodIn_of _ (by decide +kernel)) ggL_law_X7_simulate
set_option maxRecDepth 20000 in
theorem ggL_law_L_save_p0 : GoodIn wsL_law [.codeWith yL_save cL_save 4 (some .int) [(0, 9, 12, 27)]] := goodIn_r _ [846] (by decide +kernel) (by decide +kernel)
set_option maxRecDepth 20000 in
theorem ggL_law_L_save_p1 : GoodIn wsL_law wsL_save_r1 := goodIn_r _ [260, 847, 848, 849, 2, 850, 265, 266, 34, 17, 190, 851, 352, 353, 33, 354, 77, 76, 15, 16, 35, 36, 37, 12] (by decide +kernel) (by decide +kernel)
set_option maxRecDepth 20000 in
theorem ggL_law_L_save_p2 : GoodIn wsL_law wsL_save_r2 := goodIn_r _ [13, 38, 39, 40, 41, 42, 43, 44, 45, 46, 47, 48, 49, 50, 51, 52, 53, 355, 356, 357, 358, 271, 359, 360] (by decide +kernel) (by decide +kernel)
set_option maxRecDepth 20000 in
theorem ggL_law_L_save_p3 : GoodIn wsL_law wsL_save_r3 := goodIn_r _ [361, 362, 363, 364, 365, 366, 367, 74, 368, 369, 370, 371, 372] (by decide +kernel) (by decide +kernel)
set_option maxRecDepth 20000 in
theorem ggL_law_L_save_p4 : GoodIn wsL_law wsX60 := goodIn_r _ [872, 873, 874, 875, 876, 877] (by decide +kernel) (by decide +kernel)
set_option maxRecDepth 20000 in
theorem ggL_law_L_save_p5 : GoodIn wsL_law wsX40 := goodIn_r _ [897, 898, 899, 900, 901, 902] (by decide +kernel) (by decide +kernel)
set_option maxRecDepth 20000 in
theorem ggL_law_L_save_p6 : GoodIn wsL_law wsX30 := goodIn_r _ [914] (by decide +kernel) (by decide +kernel)
set_option maxRecDepth 20000 in
theorem ggL_law_L_save_p7 : GoodIn wsL_law wsX00 := goodIn_r _ [915, 916, 917, 918, 919] (by decide +kernel) (by decide +kernel)
set_option maxRecDepth 20000 in
theorem ggL_law_L_save : GoodIn wsL_law wsL_save := goodIn_ca (goodIn_c2 ggL_law_L_save_p0 (goodIn_app (goodIn_app (goodIn_app (goodIn_app (goodIn_app ggL_law_L_save_p1 (goodIn_app ggL_law_L_save_p2 ggL_law_L_save_p3)) ggL_law_L_save_p4) ggL_law_L_save_p5) ggL_law_L_save_p6) ggL_law_L_save_p7)) (goodIn_sub (fun _ h => List.mem_append_right _ h) (by decide +kernel))
set_option maxRecDepth 20000 in
theorem gL_law_L_save : GoodIn wsL_law (va_wsS RL 184 yL_save wsL_save) := goodIn_app (goodIn_of _ (by decide +kernel)) ggL_law_L_save
set_option maxRecDepth 20000 in
theorem ggL_law_X7_save_p0 : GoodIn wsL_law [.code yX7_save cX7_save 2 (some .int)] := goodIn_r _ [855] (by decide +kernel) (by decide +kernel)
theorem ggL_law_X7_save_p1 : GoodIn wsL_law [.fieldLink RX7 13 "RuledStrokesModel" "now" "[I", .fieldLink RX7 22 "RuledStrokesModel" "kept" "[I", .fieldLink RX7 25 "RuledStrokesModel" "isKept" "[Z", .methodLink RX7 45 yX7_in, .static yX7_in, .initialized RX7, .code yX7_in cX7_in 6 (some .boolean), .methodLink RX7 102 yX7_refused, .instanceMethod yX7_refused, .selects RX7 yX7_refused yX7_refused, .code yX7_refused cX7_refused 2 (some .boolean), .fieldLink RX7 41 "RuledStrokesModel" "refusal" "I", .methodLink RX7 159 yX7_copyState, .static yX7_copyState, .code yX7_copyState cX7_copyState 5 none] := goodIn_r _ [84, 87, 89, 122, 123, 5, 124, 125, 126, 127, 128, 129, 429, 430, 431] (by decide +kernel) (by decide +kernel)
theorem ggL_law_X7_save_p2 : GoodIn wsL_law wsX70 := goodIn_r _ [878, 879, 880, 881, 882, 883, 884, 885, 886, 887, 888, 889, 890, 891, 892, 893, 894, 895, 896] (by decide +kernel) (by decide +kernel)
theorem ggL_law_X7_save : GoodIn wsL_law wsX7_save := (goodIn_c2 ggL_law_X7_save_p0 (goodIn_app ggL_law_X7_save_p1 ggL_law_X7_save_p2))
set_option maxRecDepth 20000 in
theorem gL_law_X7_save : GoodIn wsL_law (wsV RL 186 RX7 yX7_save wsX7_save) := goodIn_app (goodIn_of _ (by decide +kernel)) ggL_law_X7_save
set_option maxRecDepth 20000 in
theorem ggL_law_L_restore_p0 : GoodIn wsL_law [.codeWith yL_restore cL_restore 4 (some .int) [(0, 9, 12, 27), (0, 9, 15, 15)]] := goodIn_r _ [858] (by decide +kernel) (by decide +kernel)
set_option maxRecDepth 20000 in
theorem ggL_law_L_restore_p1 : GoodIn wsL_law wsL_restore_r1 := goodIn_r _ [260, 99, 859, 860, 861, 2, 862, 265, 266, 106, 107, 34, 17, 30, 190, 863, 682, 683, 33, 684, 77, 466, 356, 357] (by decide +kernel) (by decide +kernel)
set_option maxRecDepth 20000 in
theorem ggL_law_L_restore_p2 : GoodIn wsL_law wsL_restore_r2 := goodIn_r _ [16, 358, 41, 43, 44, 45, 271, 359, 360, 361, 362, 40, 363, 49, 50, 51, 52, 53, 364, 365, 366, 367, 74, 368] (by decide +kernel) (by decide +kernel)
set_option maxRecDepth 20000 in
theorem ggL_law_L_restore_p3 : GoodIn wsL_law wsL_restore_r3 := goodIn_r _ [369, 370, 371, 372, 864, 865, 866, 29, 867, 419] (by decide +kernel) (by decide +kernel)
set_option maxRecDepth 20000 in
theorem ggL_law_L_restore_p4 : GoodIn wsL_law wsX60 := goodIn_r _ [872, 873, 874, 875, 876, 877] (by decide +kernel) (by decide +kernel)
set_option maxRecDepth 20000 in
theorem ggL_law_L_restore_p5 : GoodIn wsL_law wsX40 := goodIn_r _ [897, 898, 899, 900, 901, 902] (by decide +kernel) (by decide +kernel)
set_option maxRecDepth 20000 in
theorem ggL_law_L_restore_p6 : GoodIn wsL_law wsX30 := goodIn_r _ [914] (by decide +kernel) (by decide +kernel)
set_option maxRecDepth 20000 in
theorem ggL_law_L_restore_p7 : GoodIn wsL_law wsX00 := goodIn_r _ [915, 916, 917, 918, 919] (by decide +kernel) (by decide +kernel)
set_option maxRecDepth 20000 in
theorem ggL_law_L_restore_p8 : GoodIn wsL_law wsX10 := goodIn_r _ [911, 912, 913] (by decide +kernel) (by decide +kernel)
set_option maxRecDepth 20000 in
theorem ggL_law_L_restore : GoodIn wsL_law wsL_restore := goodIn_ca (goodIn_ca (goodIn_c2 ggL_law_L_restore_p0 (goodIn_app (goodIn_app (goodIn_app (goodIn_app (goodIn_app (goodIn_app ggL_law_L_restore_p1 (goodIn_app ggL_law_L_restore_p2 ggL_law_L_restore_p3)) ggL_law_L_restore_p4) ggL_law_L_restore_p5) ggL_law_L_restore_p6) ggL_law_L_restore_p7) ggL_law_L_restore_p8)) (goodIn_sub (fun _ h => List.mem_append_right _ h) (by decide +kernel))) (goodIn_sub (fun _ h => List.mem_append_left _ (List.mem_append_right _ h)) (by decide +kernel))
set_option maxRecDepth 20000 in
theorem gL_law_L_restore : GoodIn wsL_law (va_wsS RL 187 yL_restore wsL_restore) := goodIn_app (goodIn_of _ (by decide +kernel)) ggL_law_L_restore
set_option maxRecDepth 20000 in
theorem ggL_law_X7_restore_p0 : GoodIn wsL_law [.code yX7_restore cX7_restore 2 (some .int)] := goodIn_r _ [871] (by decide +kernel) (by decide +kernel)
theorem ggL_law_X7_restore_p1 : GoodIn wsL_law [.fieldLink RX7 25 "RuledStrokesModel" "isKept" "[Z", .fieldLink RX7 22 "RuledStrokesModel" "kept" "[I", .fieldLink RX7 13 "RuledStrokesModel" "now" "[I", .fieldLink RX7 156 "RuledStrokesModel" "acts" "I", .methodLink RX7 45 yX7_in, .static yX7_in, .initialized RX7, .code yX7_in cX7_in 6 (some .boolean), .methodLink RX7 102 yX7_refused, .instanceMethod yX7_refused, .selects RX7 yX7_refused yX7_refused, .code yX7_refused cX7_refused 2 (some .boolean), .fieldLink RX7 41 "RuledStrokesModel" "refusal" "I", .methodLink RX7 159 yX7_copyState, .static yX7_copyState, .code yX7_copyState cX7_copyState 5 none] := goodIn_r _ [89, 87, 84, 440, 122, 123, 5, 124, 125, 126, 127, 128, 129, 429, 430, 431] (by decide +kernel) (by decide +kernel)
theorem ggL_law_X7_restore_p2 : GoodIn wsL_law wsX70 := goodIn_r _ [878, 879, 880, 881, 882, 883, 884, 885, 886, 887, 888, 889, 890, 891, 892, 893, 894, 895, 896] (by decide +kernel) (by decide +kernel)
theorem ggL_law_X7_restore : GoodIn wsL_law wsX7_restore := (goodIn_c2 ggL_law_X7_restore_p0 (goodIn_app ggL_law_X7_restore_p1 ggL_law_X7_restore_p2))
set_option maxRecDepth 20000 in
theorem gL_law_X7_restore : GoodIn wsL_law (wsV RL 189 RX7 yX7_restore wsX7_restore) := goodIn_app (goodIn_of _ (by decide +kernel)) ggL_law_X7_restore
theorem dL_law_0 : decode cL_law 0 = .ok (.new 8, 3) := by decide +kernel
theorem dL_law_3 : decode cL_law 3 = .ok (.dup, 1) := by decide +kernel
theorem dL_law_4 : decode cL_law 4 = .ok (.invokespecial 83, 3) := by decide +kernel
theorem dL_law_7 : decode cL_law 7 = .ok (.astore_n 1, 1) := by decide +kernel
theorem dL_law_8 : decode cL_law 8 = .ok (.new 84, 3) := by decide +kernel
theorem dL_law_11 : decode cL_law 11 = .ok (.dup, 1) := by decide +kernel
theorem dL_law_12 : decode cL_law 12 = .ok (.invokespecial 86, 3) := by decide +kernel
theorem dL_law_15 : decode cL_law 15 = .ok (.astore_n 2, 1) := by decide +kernel
theorem dL_law_16 : decode cL_law 16 = .ok (.iconst 1, 1) := by decide +kernel
theorem dL_law_17 : decode cL_law 17 = .ok (.newarray .long, 2) := by decide +kernel
theorem dL_law_19 : decode cL_law 19 = .ok (.astore_n 3, 1) := by decide +kernel
theorem dL_law_20 : decode cL_law 20 = .ok (.iconst 0, 1) := by decide +kernel
theorem dL_law_21 : decode cL_law 21 = .ok (.istore 4, 2) := by decide +kernel
theorem dL_law_23 : decode cL_law 23 = .ok (.iload 4, 2) := by decide +kernel
theorem dL_law_25 : decode cL_law 25 = .ok (.aload_n 0, 1) := by decide +kernel
theorem dL_law_26 : decode cL_law 26 = .ok (.arraylength, 1) := by decide +kernel
theorem dL_law_27 : decode cL_law 27 = .ok (.iconst 4, 1) := by decide +kernel
theorem dL_law_28 : decode cL_law 28 = .ok (.isub, 1) := by decide +kernel
theorem dL_law_29 : decode cL_law 29 = .ok (.if_icmp .gt 1544, 3) := by decide +kernel
theorem dL_law_32 : decode cL_law 32 = .ok (.aload_n 0, 1) := by decide +kernel
theorem dL_law_33 : decode cL_law 33 = .ok (.iload 4, 2) := by decide +kernel
theorem dL_law_35 : decode cL_law 35 = .ok (.iaload, 1) := by decide +kernel
theorem dL_law_36 : decode cL_law 36 = .ok (.bipush 31, 2) := by decide +kernel
theorem dL_law_38 : decode cL_law 38 = .ok (.iand, 1) := by decide +kernel
theorem dL_law_39 : decode cL_law 39 = .ok (.tableswitch 1528 0 27 #[125, 181, 194, 207, 263, 319, 387, 455, 523, 579, 647, 660, 704, 760, 816, 872, 940, 984, 1040, 1096, 1164, 1177, 1190, 1203, 1216, 1316, 1416, 1472], 125) := by decide +kernel
theorem dL_law_164 : decode cL_law 164 = .ok (.aload_n 1, 1) := by decide +kernel
theorem dL_law_165 : decode cL_law 165 = .ok (.aload_n 0, 1) := by decide +kernel
theorem dL_law_166 : decode cL_law 166 = .ok (.iload 4, 2) := by decide +kernel
theorem dL_law_168 : decode cL_law 168 = .ok (.iconst 1, 1) := by decide +kernel
theorem dL_law_169 : decode cL_law 169 = .ok (.iadd, 1) := by decide +kernel
theorem dL_law_170 : decode cL_law 170 = .ok (.iaload, 1) := by decide +kernel
theorem dL_law_171 : decode cL_law 171 = .ok (.aload_n 3, 1) := by decide +kernel
theorem dL_law_172 : decode cL_law 172 = .ok (.invokestatic 87, 3) := by decide +kernel
theorem dL_law_175 : decode cL_law 175 = .ok (.istore 5, 2) := by decide +kernel
theorem dL_law_177 : decode cL_law 177 = .ok (.aload_n 2, 1) := by decide +kernel
theorem dL_law_178 : decode cL_law 178 = .ok (.aload_n 0, 1) := by decide +kernel
theorem dL_law_179 : decode cL_law 179 = .ok (.iload 4, 2) := by decide +kernel
theorem dL_law_181 : decode cL_law 181 = .ok (.iconst 1, 1) := by decide +kernel
theorem dL_law_182 : decode cL_law 182 = .ok (.iadd, 1) := by decide +kernel
theorem dL_law_183 : decode cL_law 183 = .ok (.iaload, 1) := by decide +kernel
theorem dL_law_184 : decode cL_law 184 = .ok (.invokevirtual 92, 3) := by decide +kernel
theorem dL_law_187 : decode cL_law 187 = .ok (.istore 6, 2) := by decide +kernel
theorem dL_law_189 : decode cL_law 189 = .ok (.aload_n 2, 1) := by decide +kernel
theorem dL_law_190 : decode cL_law 190 = .ok (.invokevirtual 93, 3) := by decide +kernel
theorem dL_law_193 : decode cL_law 193 = .ok (.iload 5, 2) := by decide +kernel
theorem dL_law_195 : decode cL_law 195 = .ok (.if_icmp .eq 5, 3) := by decide +kernel
theorem dL_law_198 : decode cL_law 198 = .ok (.iconst 0, 1) := by decide +kernel
theorem dL_law_199 : decode cL_law 199 = .ok (.ireturn, 1) := by decide +kernel
theorem dL_law_200 : decode cL_law 200 = .ok (.iload 5, 2) := by decide +kernel
theorem dL_law_202 : decode cL_law 202 = .ok (.ifCond .ne 15, 3) := by decide +kernel
theorem dL_law_205 : decode cL_law 205 = .ok (.aload_n 3, 1) := by decide +kernel
theorem dL_law_206 : decode cL_law 206 = .ok (.iconst 0, 1) := by decide +kernel
theorem dL_law_207 : decode cL_law 207 = .ok (.laload, 1) := by decide +kernel
theorem dL_law_208 : decode cL_law 208 = .ok (.iload 6, 2) := by decide +kernel
theorem dL_law_210 : decode cL_law 210 = .ok (.i2l, 1) := by decide +kernel
theorem dL_law_211 : decode cL_law 211 = .ok (.lcmp, 1) := by decide +kernel
theorem dL_law_212 : decode cL_law 212 = .ok (.ifCond .eq 5, 3) := by decide +kernel
theorem dL_law_215 : decode cL_law 215 = .ok (.iconst 0, 1) := by decide +kernel
theorem dL_law_216 : decode cL_law 216 = .ok (.ireturn, 1) := by decide +kernel
theorem dL_law_217 : decode cL_law 217 = .ok (.goto 1350, 3) := by decide +kernel
theorem dL_law_220 : decode cL_law 220 = .ok (.aload_n 1, 1) := by decide +kernel
theorem dL_law_221 : decode cL_law 221 = .ok (.invokevirtual 96, 3) := by decide +kernel
theorem dL_law_224 : decode cL_law 224 = .ok (.aload_n 2, 1) := by decide +kernel
theorem dL_law_225 : decode cL_law 225 = .ok (.invokevirtual 99, 3) := by decide +kernel
theorem dL_law_228 : decode cL_law 228 = .ok (.if_icmp .eq 1339, 3) := by decide +kernel
theorem dL_law_231 : decode cL_law 231 = .ok (.iconst 0, 1) := by decide +kernel
theorem dL_law_232 : decode cL_law 232 = .ok (.ireturn, 1) := by decide +kernel
theorem dL_law_233 : decode cL_law 233 = .ok (.aload_n 1, 1) := by decide +kernel
theorem dL_law_234 : decode cL_law 234 = .ok (.invokevirtual 100, 3) := by decide +kernel
theorem dL_law_237 : decode cL_law 237 = .ok (.aload_n 2, 1) := by decide +kernel
theorem dL_law_238 : decode cL_law 238 = .ok (.invokevirtual 103, 3) := by decide +kernel
theorem dL_law_241 : decode cL_law 241 = .ok (.if_icmp .eq 1326, 3) := by decide +kernel
theorem dL_law_244 : decode cL_law 244 = .ok (.iconst 0, 1) := by decide +kernel
theorem dL_law_245 : decode cL_law 245 = .ok (.ireturn, 1) := by decide +kernel
theorem dL_law_246 : decode cL_law 246 = .ok (.aload_n 1, 1) := by decide +kernel
theorem dL_law_247 : decode cL_law 247 = .ok (.aload_n 0, 1) := by decide +kernel
theorem dL_law_248 : decode cL_law 248 = .ok (.iload 4, 2) := by decide +kernel
theorem dL_law_250 : decode cL_law 250 = .ok (.iconst 1, 1) := by decide +kernel
theorem dL_law_251 : decode cL_law 251 = .ok (.iadd, 1) := by decide +kernel
theorem dL_law_252 : decode cL_law 252 = .ok (.iaload, 1) := by decide +kernel
theorem dL_law_253 : decode cL_law 253 = .ok (.aload_n 3, 1) := by decide +kernel
theorem dL_law_254 : decode cL_law 254 = .ok (.invokestatic 104, 3) := by decide +kernel
theorem dL_law_257 : decode cL_law 257 = .ok (.istore 5, 2) := by decide +kernel
theorem dL_law_259 : decode cL_law 259 = .ok (.aload_n 2, 1) := by decide +kernel
theorem dL_law_260 : decode cL_law 260 = .ok (.aload_n 0, 1) := by decide +kernel
theorem dL_law_261 : decode cL_law 261 = .ok (.iload 4, 2) := by decide +kernel
theorem dL_law_263 : decode cL_law 263 = .ok (.iconst 1, 1) := by decide +kernel
theorem dL_law_264 : decode cL_law 264 = .ok (.iadd, 1) := by decide +kernel
theorem dL_law_265 : decode cL_law 265 = .ok (.iaload, 1) := by decide +kernel
theorem dL_law_266 : decode cL_law 266 = .ok (.invokevirtual 106, 3) := by decide +kernel
theorem dL_law_269 : decode cL_law 269 = .ok (.istore 6, 2) := by decide +kernel
theorem dL_law_271 : decode cL_law 271 = .ok (.aload_n 2, 1) := by decide +kernel
theorem dL_law_272 : decode cL_law 272 = .ok (.invokevirtual 93, 3) := by decide +kernel
theorem dL_law_275 : decode cL_law 275 = .ok (.iload 5, 2) := by decide +kernel
theorem dL_law_277 : decode cL_law 277 = .ok (.if_icmp .eq 5, 3) := by decide +kernel
theorem dL_law_280 : decode cL_law 280 = .ok (.iconst 0, 1) := by decide +kernel
theorem dL_law_281 : decode cL_law 281 = .ok (.ireturn, 1) := by decide +kernel
theorem dL_law_282 : decode cL_law 282 = .ok (.iload 5, 2) := by decide +kernel
theorem dL_law_284 : decode cL_law 284 = .ok (.ifCond .ne 15, 3) := by decide +kernel
theorem dL_law_287 : decode cL_law 287 = .ok (.aload_n 3, 1) := by decide +kernel
theorem dL_law_288 : decode cL_law 288 = .ok (.iconst 0, 1) := by decide +kernel
theorem dL_law_289 : decode cL_law 289 = .ok (.laload, 1) := by decide +kernel
theorem dL_law_290 : decode cL_law 290 = .ok (.iload 6, 2) := by decide +kernel
theorem dL_law_292 : decode cL_law 292 = .ok (.i2l, 1) := by decide +kernel
theorem dL_law_293 : decode cL_law 293 = .ok (.lcmp, 1) := by decide +kernel
theorem dL_law_294 : decode cL_law 294 = .ok (.ifCond .eq 5, 3) := by decide +kernel
theorem dL_law_297 : decode cL_law 297 = .ok (.iconst 0, 1) := by decide +kernel
theorem dL_law_298 : decode cL_law 298 = .ok (.ireturn, 1) := by decide +kernel
theorem dL_law_299 : decode cL_law 299 = .ok (.goto 1268, 3) := by decide +kernel
theorem dL_law_302 : decode cL_law 302 = .ok (.aload_n 1, 1) := by decide +kernel
theorem dL_law_303 : decode cL_law 303 = .ok (.aload_n 0, 1) := by decide +kernel
theorem dL_law_304 : decode cL_law 304 = .ok (.iload 4, 2) := by decide +kernel
theorem dL_law_306 : decode cL_law 306 = .ok (.iconst 1, 1) := by decide +kernel
theorem dL_law_307 : decode cL_law 307 = .ok (.iadd, 1) := by decide +kernel
theorem dL_law_308 : decode cL_law 308 = .ok (.iaload, 1) := by decide +kernel
theorem dL_law_309 : decode cL_law 309 = .ok (.aload_n 3, 1) := by decide +kernel
