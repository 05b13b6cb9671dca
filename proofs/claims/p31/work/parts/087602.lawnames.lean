set_option maxRecDepth 20000 in
theorem ggL_call_L_tryPractise_p0 : GoodIn wsL_call [.codeWith yL_tryPractise cL_tryPractise 3 (some .int) [(0, 5, 6, 13), (0, 5, 10, 24)]] := goodIn_r _ [325] (by decide +kernel) (by decide +kernel)
set_option maxRecDepth 20000 in
theorem ggL_call_L_tryPractise_p1 : GoodIn wsL_call wsL_tryPractise_r1 := goodIn_r _ [5, 6, 7, 8, 326, 327, 328, 12, 329, 14, 15, 16, 17, 143, 36, 120, 121, 122, 147, 148, 149, 150, 151, 152] (by decide +kernel) (by decide +kernel)
set_option maxRecDepth 20000 in
theorem ggL_call_L_tryPractise_p2 : GoodIn wsL_call wsL_tryPractise_r2 := goodIn_r _ [153, 154, 155, 156, 157, 158, 159, 160, 161, 66, 162, 163, 164, 165, 166, 167, 168, 43, 169, 170, 105, 135, 72, 171] (by decide +kernel) (by decide +kernel)
set_option maxRecDepth 20000 in
theorem ggL_call_L_tryPractise_p3 : GoodIn wsL_call wsL_tryPractise_r3 := goodIn_r _ [172, 173, 45, 57, 174, 62, 84, 175, 176, 177, 178, 100, 179, 180, 181, 182, 183, 184, 185, 186, 187, 188, 189, 190] (by decide +kernel) (by decide +kernel)
set_option maxRecDepth 20000 in
theorem ggL_call_L_tryPractise_p4 : GoodIn wsL_call wsL_tryPractise_r4 := goodIn_r _ [191, 192, 193, 330, 331, 332, 333, 37, 334, 335, 336, 40, 41, 42, 44, 46, 47, 337, 338, 339, 340, 341, 342, 343] (by decide +kernel) (by decide +kernel)
set_option maxRecDepth 20000 in
theorem ggL_call_L_tryPractise_p5 : GoodIn wsL_call wsL_tryPractise_r5 := goodIn_r _ [344, 345, 346, 347, 348, 349, 350, 351, 352, 353, 354, 355, 59, 60, 61, 27, 28, 356, 81, 82, 83, 357, 358, 359] (by decide +kernel) (by decide +kernel)
set_option maxRecDepth 20000 in
theorem ggL_call_L_tryPractise_p6 : GoodIn wsL_call wsL_tryPractise_r6 := goodIn_r _ [360, 361, 362, 363, 215, 216, 364, 132, 133, 134, 365, 366, 367, 368, 369, 102, 103, 104, 370, 371, 372, 373, 68, 69] (by decide +kernel) (by decide +kernel)
set_option maxRecDepth 20000 in
theorem ggL_call_L_tryPractise_p7 : GoodIn wsL_call wsL_tryPractise_r7 := goodIn_r _ [70, 71, 258, 259, 260, 261, 262, 263, 264, 265, 236, 237, 238, 239, 240, 241] (by decide +kernel) (by decide +kernel)
set_option maxRecDepth 20000 in
theorem ggL_call_L_tryPractise_p8 : GoodIn wsL_call wsX60 := goodIn_r _ [476, 477, 478, 479, 480, 481] (by decide +kernel) (by decide +kernel)
set_option maxRecDepth 20000 in
theorem ggL_call_L_tryPractise_p9 : GoodIn wsL_call wsX10 := goodIn_r _ [495, 496, 497] (by decide +kernel) (by decide +kernel)
set_option maxRecDepth 20000 in
theorem ggL_call_L_tryPractise_p10 : GoodIn wsL_call wsX30 := goodIn_r _ [498] (by decide +kernel) (by decide +kernel)
set_option maxRecDepth 20000 in
theorem ggL_call_L_tryPractise_p11 : GoodIn wsL_call wsX40 := goodIn_r _ [484, 485, 486, 487, 488, 489] (by decide +kernel) (by decide +kernel)
set_option maxRecDepth 20000 in
theorem ggL_call_L_tryPractise_p12 : GoodIn wsL_call wsX00 := goodIn_r _ [490, 491, 492, 493, 494] (by decide +kernel) (by decide +kernel)
set_option maxRecDepth 20000 in
theorem ggL_call_L_tryPractise_p13 : GoodIn wsL_call wsX20 := goodIn_r _ [499, 500, 501, 502, 503, 504] (by decide +kernel) (by decide +kernel)
set_option maxRecDepth 20000 in
theorem ggL_call_L_tryPractise : GoodIn wsL_call wsL_tryPractise := goodIn_ca (goodIn_ca (goodIn_c2 ggL_call_L_tryPractise_p0 (goodIn_app (goodIn_app (goodIn_app (goodIn_app (goodIn_app (goodIn_app (goodIn_app ggL_call_L_tryPractise_p1 (goodIn_app ggL_call_L_tryPractise_p2 (goodIn_app ggL_call_L_tryPractise_p3 (goodIn_app ggL_call_L_tryPractise_p4 (goodIn_app ggL_call_L_tryPractise_p5 (goodIn_app ggL_call_L_tryPractise_p6 ggL_call_L_tryPractise_p7)))))) ggL_call_L_tryPractise_p8) ggL_call_L_tryPractise_p9) ggL_call_L_tryPractise_p10) ggL_call_L_tryPractise_p11) ggL_call_L_tryPractise_p12) ggL_call_L_tryPractise_p13)) (goodIn_sub (fun _ h => List.mem_cons_of_mem _ (List.mem_append_left _ (List.mem_append_left _ (List.mem_append_right _ h)))) (by decide +kernel))) (goodIn_sub (fun _ h => List.mem_cons_of_mem _ (List.mem_append_left _ (List.mem_append_right _ h))) (by decide +kernel))
set_option maxRecDepth 20000 in
theorem gL_call_L_tryPractise : GoodIn wsL_call (va_wsS RL 124 yL_tryPractise wsL_tryPractise) := goodIn_app (goodIn_of _ (by decide +kernel)) ggL_call_L_tryPractise
set_option maxRecDepth 20000 in
theorem ggL_call_L_trySet_p0 : GoodIn wsL_call [.codeWith yL_trySet cL_trySet 4 (some .int) [(0, 6, 7, 13), (0, 6, 11, 24)]] := goodIn_r _ [376] (by decide +kernel) (by decide +kernel)
set_option maxRecDepth 20000 in
theorem ggL_call_L_trySet_p1 : GoodIn wsL_call wsL_trySet_r1 := goodIn_r _ [5, 6, 7, 8, 377, 378, 379, 12, 380, 14, 15, 16, 17, 36, 143, 381, 382, 383, 131, 132, 133, 66, 134, 135] (by decide +kernel) (by decide +kernel)
set_option maxRecDepth 20000 in
theorem ggL_call_L_trySet_p2 : GoodIn wsL_call wsL_trySet_r2 := goodIn_r _ [46, 47, 147, 148, 149, 150, 151, 152, 153, 154, 155, 156, 157, 158, 159, 160, 161, 162, 163, 164, 165, 166, 167, 168] (by decide +kernel) (by decide +kernel)
set_option maxRecDepth 20000 in
theorem ggL_call_L_trySet_p3 : GoodIn wsL_call wsL_trySet_r3 := goodIn_r _ [43, 169, 170, 105, 72, 171, 172, 173, 45, 57, 174, 62, 84, 175, 176, 177, 178, 100, 179, 180, 181, 182, 183, 184] (by decide +kernel) (by decide +kernel)
set_option maxRecDepth 20000 in
theorem ggL_call_L_trySet_p4 : GoodIn wsL_call wsL_trySet_r4 := goodIn_r _ [185, 186, 187, 188, 189, 190, 191, 192, 193, 384, 385, 386, 387, 388, 389, 390, 391, 392, 393, 394, 395, 396, 397, 398] (by decide +kernel) (by decide +kernel)
set_option maxRecDepth 20000 in
theorem ggL_call_L_trySet_p5 : GoodIn wsL_call wsL_trySet_r5 := goodIn_r _ [52, 41, 42, 44, 53, 54, 55, 56, 203, 204, 205, 206, 208, 209, 210, 211, 212, 213, 214, 215, 216, 27, 28, 399] (by decide +kernel) (by decide +kernel)
set_option maxRecDepth 20000 in
theorem ggL_call_L_trySet_p6 : GoodIn wsL_call wsL_trySet_r6 := goodIn_r _ [400, 401, 402, 228, 229, 230, 231, 207, 59, 60, 61, 221, 222, 223, 224, 225, 226, 227, 236, 237, 238, 239, 240, 241] (by decide +kernel) (by decide +kernel)
set_option maxRecDepth 20000 in
theorem ggL_call_L_trySet_p7 : GoodIn wsL_call wsX60 := goodIn_r _ [476, 477, 478, 479, 480, 481] (by decide +kernel) (by decide +kernel)
set_option maxRecDepth 20000 in
theorem ggL_call_L_trySet_p8 : GoodIn wsL_call wsX40 := goodIn_r _ [484, 485, 486, 487, 488, 489] (by decide +kernel) (by decide +kernel)
set_option maxRecDepth 20000 in
theorem ggL_call_L_trySet_p9 : GoodIn wsL_call wsX10 := goodIn_r _ [495, 496, 497] (by decide +kernel) (by decide +kernel)
set_option maxRecDepth 20000 in
theorem ggL_call_L_trySet_p10 : GoodIn wsL_call wsX30 := goodIn_r _ [498] (by decide +kernel) (by decide +kernel)
set_option maxRecDepth 20000 in
theorem ggL_call_L_trySet_p11 : GoodIn wsL_call wsX00 := goodIn_r _ [490, 491, 492, 493, 494] (by decide +kernel) (by decide +kernel)
set_option maxRecDepth 20000 in
theorem ggL_call_L_trySet : GoodIn wsL_call wsL_trySet := goodIn_ca (goodIn_ca (goodIn_c2 ggL_call_L_trySet_p0 (goodIn_app (goodIn_app (goodIn_app (goodIn_app (goodIn_app (goodIn_app ggL_call_L_trySet_p1 (goodIn_app ggL_call_L_trySet_p2 (goodIn_app ggL_call_L_trySet_p3 (goodIn_app ggL_call_L_trySet_p4 (goodIn_app ggL_call_L_trySet_p5 ggL_call_L_trySet_p6))))) ggL_call_L_trySet_p7) ggL_call_L_trySet_p8) ggL_call_L_trySet_p9) ggL_call_L_trySet_p10) ggL_call_L_trySet_p11)) (goodIn_sub (fun _ h => List.mem_cons_of_mem _ (List.mem_append_left _ (List.mem_append_left _ (List.mem_append_right _ h)))) (by decide +kernel))) (goodIn_sub (fun _ h => List.mem_cons_of_mem _ (List.mem_append_left _ (List.mem_append_right _ h))) (by decide +kernel))
set_option maxRecDepth 20000 in
theorem gL_call_L_trySet : GoodIn wsL_call (va_wsS RL 127 yL_trySet wsL_trySet) := goodIn_app (goodIn_of _ (by decide +kernel)) ggL_call_L_trySet
set_option maxRecDepth 20000 in
theorem ggL_call_L_tryUndo_p0 : GoodIn wsL_call [.codeWith yL_tryUndo cL_tryUndo 2 (some .int) [(0, 4, 5, 24)]] := goodIn_r _ [405] (by decide +kernel) (by decide +kernel)
set_option maxRecDepth 20000 in
theorem ggL_call_L_tryUndo_p1 : GoodIn wsL_call wsL_tryUndo_r1 := goodIn_r _ [6, 8, 406, 407, 408, 12, 409, 16, 17, 143, 36, 410, 411, 412, 413, 150, 414, 240, 152, 153, 415, 416, 417, 157] (by decide +kernel) (by decide +kernel)
set_option maxRecDepth 20000 in
theorem ggL_call_L_tryUndo_p2 : GoodIn wsL_call wsL_tryUndo_r2 := goodIn_r _ [418, 159, 257, 176, 177, 66, 178, 169, 105, 135, 72, 100, 179, 180, 181, 182, 43, 183, 45, 57, 174, 62, 84, 184] (by decide +kernel) (by decide +kernel)
set_option maxRecDepth 20000 in
theorem ggL_call_L_tryUndo_p3 : GoodIn wsL_call wsL_tryUndo_r3 := goodIn_r _ [185, 186, 187, 188, 189, 190, 191, 192, 193, 419, 420, 421, 422] (by decide +kernel) (by decide +kernel)
set_option maxRecDepth 20000 in
theorem ggL_call_L_tryUndo_p4 : GoodIn wsL_call wsX60 := goodIn_r _ [476, 477, 478, 479, 480, 481] (by decide +kernel) (by decide +kernel)
set_option maxRecDepth 20000 in
theorem ggL_call_L_tryUndo_p5 : GoodIn wsL_call wsX10 := goodIn_r _ [495, 496, 497] (by decide +kernel) (by decide +kernel)
set_option maxRecDepth 20000 in
theorem ggL_call_L_tryUndo_p6 : GoodIn wsL_call wsX30 := goodIn_r _ [498] (by decide +kernel) (by decide +kernel)
set_option maxRecDepth 20000 in
theorem ggL_call_L_tryUndo_p7 : GoodIn wsL_call wsX40 := goodIn_r _ [484, 485, 486, 487, 488, 489] (by decide +kernel) (by decide +kernel)
set_option maxRecDepth 20000 in
theorem ggL_call_L_tryUndo_p8 : GoodIn wsL_call wsX00 := goodIn_r _ [490, 491, 492, 493, 494] (by decide +kernel) (by decide +kernel)
set_option maxRecDepth 20000 in
theorem ggL_call_L_tryUndo : GoodIn wsL_call wsL_tryUndo := goodIn_ca (goodIn_c2 ggL_call_L_tryUndo_p0 (goodIn_app (goodIn_app (goodIn_app (goodIn_app (goodIn_app (goodIn_app ggL_call_L_tryUndo_p1 (goodIn_app ggL_call_L_tryUndo_p2 ggL_call_L_tryUndo_p3)) ggL_call_L_tryUndo_p4) ggL_call_L_tryUndo_p5) ggL_call_L_tryUndo_p6) ggL_call_L_tryUndo_p7) ggL_call_L_tryUndo_p8)) (goodIn_sub (fun _ h => List.mem_cons_of_mem _ (List.mem_append_left _ (List.mem_append_right _ h))) (by decide +kernel))
set_option maxRecDepth 20000 in
theorem gL_call_L_tryUndo : GoodIn wsL_call (va_wsS RL 130 yL_tryUndo wsL_tryUndo) := goodIn_app (goodIn_of _ (by decide +kernel)) ggL_call_L_tryUndo
set_option maxRecDepth 20000 in
theorem ggL_call_L_tryRead_p0 : GoodIn wsL_call [.codeWith yL_tryRead cL_tryRead 3 (some .int) [(0, 5, 6, 13)]] := goodIn_r _ [425] (by decide +kernel) (by decide +kernel)
set_option maxRecDepth 20000 in
theorem ggL_call_L_tryRead_p1 : GoodIn wsL_call wsL_tryRead_r1 := goodIn_r _ [5, 7, 426, 427, 428, 12, 429, 14, 15, 334, 36, 335, 336, 430, 431, 337, 338, 339, 340, 341, 342, 343, 344, 345] (by decide +kernel) (by decide +kernel)
set_option maxRecDepth 20000 in
theorem ggL_call_L_tryRead_p2 : GoodIn wsL_call wsL_tryRead_r2 := goodIn_r _ [346, 347, 348, 349, 350, 351, 352, 353, 354, 187, 188, 189, 355, 59, 60, 43, 61, 62, 46, 47, 27, 28, 356, 81] (by decide +kernel) (by decide +kernel)
set_option maxRecDepth 20000 in
theorem ggL_call_L_tryRead_p3 : GoodIn wsL_call wsL_tryRead_r3 := goodIn_r _ [82, 83, 84, 357, 358, 359, 360, 361, 362, 363, 215, 216, 364, 132, 133, 66, 134, 135, 365, 366, 367, 368, 369, 102] (by decide +kernel) (by decide +kernel)
set_option maxRecDepth 20000 in
theorem ggL_call_L_tryRead_p4 : GoodIn wsL_call wsL_tryRead_r4 := goodIn_r _ [103, 104, 105] (by decide +kernel) (by decide +kernel)
set_option maxRecDepth 20000 in
theorem ggL_call_L_tryRead_p5 : GoodIn wsL_call wsX60 := goodIn_r _ [476, 477, 478, 479, 480, 481] (by decide +kernel) (by decide +kernel)
set_option maxRecDepth 20000 in
theorem ggL_call_L_tryRead_p6 : GoodIn wsL_call wsX20 := goodIn_r _ [499, 500, 501, 502, 503, 504] (by decide +kernel) (by decide +kernel)
set_option maxRecDepth 20000 in
theorem ggL_call_L_tryRead_p7 : GoodIn wsL_call wsX40 := goodIn_r _ [484, 485, 486, 487, 488, 489] (by decide +kernel) (by decide +kernel)
set_option maxRecDepth 20000 in
theorem ggL_call_L_tryRead_p8 : GoodIn wsL_call wsX00 := goodIn_r _ [490, 491, 492, 493, 494] (by decide +kernel) (by decide +kernel)
set_option maxRecDepth 20000 in
theorem ggL_call_L_tryRead : GoodIn wsL_call wsL_tryRead := goodIn_ca (goodIn_c2 ggL_call_L_tryRead_p0 (goodIn_app (goodIn_app (goodIn_app (goodIn_app (goodIn_app ggL_call_L_tryRead_p1 (goodIn_app ggL_call_L_tryRead_p2 (goodIn_app ggL_call_L_tryRead_p3 ggL_call_L_tryRead_p4))) ggL_call_L_tryRead_p5) ggL_call_L_tryRead_p6) ggL_call_L_tryRead_p7) ggL_call_L_tryRead_p8)) (goodIn_sub (fun _ h => List.mem_cons_of_mem _ (List.mem_append_left _ (List.mem_append_left _ (List.mem_append_right _ h)))) (by decide +kernel))
set_option maxRecDepth 20000 in
theorem gL_call_L_tryRead : GoodIn wsL_call (va_wsS RL 133 yL_tryRead wsL_tryRead) := goodIn_app (goodIn_of _ (by decide +kernel)) ggL_call_L_tryRead
set_option maxRecDepth 20000 in
theorem ggL_call_L_tryNearest_p0 : GoodIn wsL_call [.codeWith yL_tryNearest cL_tryNearest 3 (some .int) [(0, 5, 6, 37)]] := goodIn_r _ [434] (by decide +kernel) (by decide +kernel)
set_option maxRecDepth 20000 in
theorem ggL_call_L_tryNearest_p1 : GoodIn wsL_call wsL_tryNearest_r1 := goodIn_r _ [88, 89, 435, 436, 437, 12, 438, 94, 95, 36, 334, 96, 97, 98, 66, 99, 100, 439, 440, 441, 340, 442, 345, 347] (by decide +kernel) (by decide +kernel)
set_option maxRecDepth 20000 in
theorem ggL_call_L_tryNearest_p2 : GoodIn wsL_call wsL_tryNearest_r2 := goodIn_r _ [346, 349, 350, 351, 352, 353, 354, 187, 188, 189, 355, 59, 60, 43, 61, 62, 46, 47, 27, 28, 356, 81, 82, 83] (by decide +kernel) (by decide +kernel)
set_option maxRecDepth 20000 in
theorem ggL_call_L_tryNearest_p3 : GoodIn wsL_call wsL_tryNearest_r3 := goodIn_r _ [84, 357, 358, 359, 360, 361, 362, 363, 215, 216, 443, 444, 445, 446] (by decide +kernel) (by decide +kernel)
set_option maxRecDepth 20000 in
theorem ggL_call_L_tryNearest_p4 : GoodIn wsL_call wsX60 := goodIn_r _ [476, 477, 478, 479, 480, 481] (by decide +kernel) (by decide +kernel)
set_option maxRecDepth 20000 in
theorem ggL_call_L_tryNearest_p5 : GoodIn wsL_call wsX40 := goodIn_r _ [484, 485, 486, 487, 488, 489] (by decide +kernel) (by decide +kernel)
set_option maxRecDepth 20000 in
theorem ggL_call_L_tryNearest_p6 : GoodIn wsL_call wsX20 := goodIn_r _ [499, 500, 501, 502, 503, 504] (by decide +kernel) (by decide +kernel)
set_option maxRecDepth 20000 in
theorem ggL_call_L_tryNearest_p7 : GoodIn wsL_call wsX00 := goodIn_r _ [490, 491, 492, 493, 494] (by decide +kernel) (by decide +kernel)
set_option maxRecDepth 20000 in
theorem ggL_call_L_tryNearest : GoodIn wsL_call wsL_tryNearest := goodIn_ca (goodIn_c2 ggL_call_L_tryNearest_p0 (goodIn_app (goodIn_app (goodIn_app (goodIn_app (goodIn_app ggL_call_L_tryNearest_p1 (goodIn_app ggL_call_L_tryNearest_p2 ggL_call_L_tryNearest_p3)) ggL_call_L_tryNearest_p4) ggL_call_L_tryNearest_p5) ggL_call_L_tryNearest_p6) ggL_call_L_tryNearest_p7)) (goodIn_sub (fun _ h => List.mem_cons_of_mem _ (List.mem_append_right _ h)) (by decide +kernel))
set_option maxRecDepth 20000 in
theorem gL_call_L_tryNearest : GoodIn wsL_call (va_wsS RL 136 yL_tryNearest wsL_tryNearest) := goodIn_app (goodIn_of _ (by decide +kernel)) ggL_call_L_tryNearest
set_option maxRecDepth 20000 in
theorem ggL_call_L_tryBetween_p0 : GoodIn wsL_call [.codeWith yL_tryBetween cL_tryBetween 4 (some .int) [(0, 6, 7, 37)]] := goodIn_r _ [449] (by decide +kernel) (by decide +kernel)
set_option maxRecDepth 20000 in
theorem ggL_call_L_tryBetween_p1 : GoodIn wsL_call wsL_tryBetween_r1 := goodIn_r _ [88, 89, 450, 451, 452, 12, 453, 94, 95, 36, 334, 37, 96, 97, 98, 66, 99, 100, 454, 350, 351, 340, 352, 353] (by decide +kernel) (by decide +kernel)
set_option maxRecDepth 20000 in
theorem ggL_call_L_tryBetween_p2 : GoodIn wsL_call wsL_tryBetween_r2 := goodIn_r _ [354, 187, 188, 189, 355, 59, 60, 43, 61, 62, 46, 47, 27, 28, 356, 81, 82, 83, 84, 357, 358, 359, 360, 361] (by decide +kernel) (by decide +kernel)
set_option maxRecDepth 20000 in
theorem ggL_call_L_tryBetween_p3 : GoodIn wsL_call wsL_tryBetween_r3 := goodIn_r _ [362, 363, 215, 216] (by decide +kernel) (by decide +kernel)
set_option maxRecDepth 20000 in
theorem ggL_call_L_tryBetween_p4 : GoodIn wsL_call wsX60 := goodIn_r _ [476, 477, 478, 479, 480, 481] (by decide +kernel) (by decide +kernel)
set_option maxRecDepth 20000 in
theorem ggL_call_L_tryBetween_p5 : GoodIn wsL_call wsX40 := goodIn_r _ [484, 485, 486, 487, 488, 489] (by decide +kernel) (by decide +kernel)
set_option maxRecDepth 20000 in
theorem ggL_call_L_tryBetween_p6 : GoodIn wsL_call wsX20 := goodIn_r _ [499, 500, 501, 502, 503, 504] (by decide +kernel) (by decide +kernel)
set_option maxRecDepth 20000 in
theorem ggL_call_L_tryBetween_p7 : GoodIn wsL_call wsX00 := goodIn_r _ [490, 491, 492, 493, 494] (by decide +kernel) (by decide +kernel)
set_option maxRecDepth 20000 in
theorem ggL_call_L_tryBetween : GoodIn wsL_call wsL_tryBetween := goodIn_ca (goodIn_c2 ggL_call_L_tryBetween_p0 (goodIn_app (goodIn_app (goodIn_app (goodIn_app (goodIn_app ggL_call_L_tryBetween_p1 (goodIn_app ggL_call_L_tryBetween_p2 ggL_call_L_tryBetween_p3)) ggL_call_L_tryBetween_p4) ggL_call_L_tryBetween_p5) ggL_call_L_tryBetween_p6) ggL_call_L_tryBetween_p7)) (goodIn_sub (fun _ h => List.mem_cons_of_mem _ (List.mem_append_right _ h)) (by decide +kernel))
set_option maxRecDepth 20000 in
theorem gL_call_L_tryBetween : GoodIn wsL_call (va_wsS RL 139 yL_tryBetween wsL_tryBetween) := goodIn_app (goodIn_of _ (by decide +kernel)) ggL_call_L_tryBetween
set_option maxRecDepth 20000 in
theorem ggL_call_L_tryKeep_p0 : GoodIn wsL_call [.codeWith yL_tryKeep cL_tryKeep 3 (some .int) [(0, 5, 6, 37)]] := goodIn_r _ [457] (by decide +kernel) (by decide +kernel)
set_option maxRecDepth 20000 in
theorem ggL_call_L_tryKeep_p1 : GoodIn wsL_call wsL_tryKeep_r1 := goodIn_r _ [88, 89, 458, 459, 460, 12, 461, 94, 95, 462, 36, 39, 463, 155, 156, 157, 158, 159, 160, 161, 66, 162, 163, 164] (by decide +kernel) (by decide +kernel)
set_option maxRecDepth 20000 in
theorem ggL_call_L_tryKeep_p2 : GoodIn wsL_call wsL_tryKeep_r2 := goodIn_r _ [165, 166, 167, 168, 43, 169, 170, 105, 135, 72, 171, 172, 173, 45, 57, 174, 62, 84, 175, 176, 177, 178, 100, 179] (by decide +kernel) (by decide +kernel)
set_option maxRecDepth 20000 in
theorem ggL_call_L_tryKeep_p3 : GoodIn wsL_call wsL_tryKeep_r3 := goodIn_r _ [180, 181, 182, 183, 184, 185, 186, 187, 188, 189, 190, 191, 192, 193] (by decide +kernel) (by decide +kernel)
set_option maxRecDepth 20000 in
theorem ggL_call_L_tryKeep_p4 : GoodIn wsL_call wsX60 := goodIn_r _ [476, 477, 478, 479, 480, 481] (by decide +kernel) (by decide +kernel)
set_option maxRecDepth 20000 in
theorem ggL_call_L_tryKeep_p5 : GoodIn wsL_call wsX40 := goodIn_r _ [484, 485, 486, 487, 488, 489] (by decide +kernel) (by decide +kernel)
set_option maxRecDepth 20000 in
theorem ggL_call_L_tryKeep_p6 : GoodIn wsL_call wsX30 := goodIn_r _ [498] (by decide +kernel) (by decide +kernel)
set_option maxRecDepth 20000 in
theorem ggL_call_L_tryKeep_p7 : GoodIn wsL_call wsX00 := goodIn_r _ [490, 491, 492, 493, 494] (by decide +kernel) (by decide +kernel)
set_option maxRecDepth 20000 in
theorem ggL_call_L_tryKeep : GoodIn wsL_call wsL_tryKeep := goodIn_ca (goodIn_c2 ggL_call_L_tryKeep_p0 (goodIn_app (goodIn_app (goodIn_app (goodIn_app (goodIn_app ggL_call_L_tryKeep_p1 (goodIn_app ggL_call_L_tryKeep_p2 ggL_call_L_tryKeep_p3)) ggL_call_L_tryKeep_p4) ggL_call_L_tryKeep_p5) ggL_call_L_tryKeep_p6) ggL_call_L_tryKeep_p7)) (goodIn_sub (fun _ h => List.mem_cons_of_mem _ (List.mem_append_right _ h)) (by decide +kernel))
set_option maxRecDepth 20000 in
theorem gL_call_L_tryKeep : GoodIn wsL_call (va_wsS RL 142 yL_tryKeep wsL_tryKeep) := goodIn_app (goodIn_of _ (by decide +kernel)) ggL_call_L_tryKeep
set_option maxRecDepth 20000 in
theorem ggL_call_L_tryBack_p0 : GoodIn wsL_call [.codeWith yL_tryBack cL_tryBack 3 (some .int) [(0, 5, 6, 37), (0, 5, 10, 24)]] := goodIn_r _ [466] (by decide +kernel) (by decide +kernel)
set_option maxRecDepth 20000 in
theorem ggL_call_L_tryBack_p1 : GoodIn wsL_call wsL_tryBack_r1 := goodIn_r _ [88, 6, 89, 8, 467, 468, 469, 12, 470, 94, 95, 16, 17, 462, 36, 143, 39, 471, 416, 417, 157, 418, 159, 257] (by decide +kernel) (by decide +kernel)
set_option maxRecDepth 20000 in
theorem ggL_call_L_tryBack_p2 : GoodIn wsL_call wsL_tryBack_r2 := goodIn_r _ [176, 177, 66, 178, 169, 105, 135, 72, 100, 179, 180, 181, 182, 43, 183, 45, 57, 174, 62, 84, 184, 185, 186, 187] (by decide +kernel) (by decide +kernel)
set_option maxRecDepth 20000 in
theorem ggL_call_L_tryBack_p3 : GoodIn wsL_call wsL_tryBack_r3 := goodIn_r _ [188, 189, 190, 191, 192, 193, 472, 473, 474, 150, 475, 240] (by decide +kernel) (by decide +kernel)
set_option maxRecDepth 20000 in
theorem ggL_call_L_tryBack_p4 : GoodIn wsL_call wsX60 := goodIn_r _ [476, 477, 478, 479, 480, 481] (by decide +kernel) (by decide +kernel)
set_option maxRecDepth 20000 in
theorem ggL_call_L_tryBack_p5 : GoodIn wsL_call wsX40 := goodIn_r _ [484, 485, 486, 487, 488, 489] (by decide +kernel) (by decide +kernel)
set_option maxRecDepth 20000 in
theorem ggL_call_L_tryBack_p6 : GoodIn wsL_call wsX30 := goodIn_r _ [498] (by decide +kernel) (by decide +kernel)
set_option maxRecDepth 20000 in
theorem ggL_call_L_tryBack_p7 : GoodIn wsL_call wsX00 := goodIn_r _ [490, 491, 492, 493, 494] (by decide +kernel) (by decide +kernel)
set_option maxRecDepth 20000 in
theorem ggL_call_L_tryBack_p8 : GoodIn wsL_call wsX10 := goodIn_r _ [495, 496, 497] (by decide +kernel) (by decide +kernel)
set_option maxRecDepth 20000 in
theorem ggL_call_L_tryBack : GoodIn wsL_call wsL_tryBack := goodIn_ca (goodIn_ca (goodIn_c2 ggL_call_L_tryBack_p0 (goodIn_app (goodIn_app (goodIn_app (goodIn_app (goodIn_app (goodIn_app ggL_call_L_tryBack_p1 (goodIn_app ggL_call_L_tryBack_p2 ggL_call_L_tryBack_p3)) ggL_call_L_tryBack_p4) ggL_call_L_tryBack_p5) ggL_call_L_tryBack_p6) ggL_call_L_tryBack_p7) ggL_call_L_tryBack_p8)) (goodIn_sub (fun _ h => List.mem_cons_of_mem _ (List.mem_append_right _ h)) (by decide +kernel))) (goodIn_sub (fun _ h => List.mem_cons_of_mem _ (List.mem_append_left _ (List.mem_append_right _ h))) (by decide +kernel))
set_option maxRecDepth 20000 in
theorem gL_call_L_tryBack : GoodIn wsL_call (va_wsS RL 145 yL_tryBack wsL_tryBack) := goodIn_app (goodIn_of _ (by decide +kernel)) ggL_call_L_tryBack
theorem dL_call_0 : decode cL_call 0 = .ok (.iload_n 1, 1) := by decide +kernel
theorem dL_call_1 : decode cL_call 1 = .ok (.tableswitch 199 0 17 #[87, 93, 99, 105, 112, 119, 126, 132, 139, 144, 150, 156, 162, 169, 174, 180, 186, 193], 87) := by decide +kernel
theorem dL_call_88 : decode cL_call 88 = .ok (.aload_n 0, 1) := by decide +kernel
theorem dL_call_89 : decode cL_call 89 = .ok (.iload_n 2, 1) := by decide +kernel
theorem dL_call_90 : decode cL_call 90 = .ok (.invokestatic 86, 3) := by decide +kernel
theorem dL_call_93 : decode cL_call 93 = .ok (.ireturn, 1) := by decide +kernel
theorem dL_call_94 : decode cL_call 94 = .ok (.aload_n 0, 1) := by decide +kernel
theorem dL_call_95 : decode cL_call 95 = .ok (.iload_n 2, 1) := by decide +kernel
theorem dL_call_96 : decode cL_call 96 = .ok (.invokestatic 92, 3) := by decide +kernel
theorem dL_call_99 : decode cL_call 99 = .ok (.ireturn, 1) := by decide +kernel
theorem dL_call_100 : decode cL_call 100 = .ok (.aload_n 0, 1) := by decide +kernel
theorem dL_call_101 : decode cL_call 101 = .ok (.iload_n 2, 1) := by decide +kernel
theorem dL_call_102 : decode cL_call 102 = .ok (.invokestatic 95, 3) := by decide +kernel
theorem dL_call_105 : decode cL_call 105 = .ok (.ireturn, 1) := by decide +kernel
theorem dL_call_106 : decode cL_call 106 = .ok (.aload_n 0, 1) := by decide +kernel
theorem dL_call_107 : decode cL_call 107 = .ok (.iload_n 2, 1) := by decide +kernel
theorem dL_call_108 : decode cL_call 108 = .ok (.iload_n 3, 1) := by decide +kernel
theorem dL_call_109 : decode cL_call 109 = .ok (.invokestatic 98, 3) := by decide +kernel
theorem dL_call_112 : decode cL_call 112 = .ok (.ireturn, 1) := by decide +kernel
theorem dL_call_113 : decode cL_call 113 = .ok (.aload_n 0, 1) := by decide +kernel
theorem dL_call_114 : decode cL_call 114 = .ok (.iload_n 2, 1) := by decide +kernel
theorem dL_call_115 : decode cL_call 115 = .ok (.iload_n 3, 1) := by decide +kernel
theorem dL_call_116 : decode cL_call 116 = .ok (.invokestatic 102, 3) := by decide +kernel
theorem dL_call_119 : decode cL_call 119 = .ok (.ireturn, 1) := by decide +kernel
theorem dL_call_120 : decode cL_call 120 = .ok (.aload_n 0, 1) := by decide +kernel
theorem dL_call_121 : decode cL_call 121 = .ok (.iload_n 2, 1) := by decide +kernel
theorem dL_call_122 : decode cL_call 122 = .ok (.iload_n 3, 1) := by decide +kernel
theorem dL_call_123 : decode cL_call 123 = .ok (.invokestatic 105, 3) := by decide +kernel
theorem dL_call_126 : decode cL_call 126 = .ok (.ireturn, 1) := by decide +kernel
theorem dL_call_127 : decode cL_call 127 = .ok (.aload_n 0, 1) := by decide +kernel
theorem dL_call_128 : decode cL_call 128 = .ok (.iload_n 2, 1) := by decide +kernel
theorem dL_call_129 : decode cL_call 129 = .ok (.invokestatic 108, 3) := by decide +kernel
theorem dL_call_132 : decode cL_call 132 = .ok (.ireturn, 1) := by decide +kernel
theorem dL_call_133 : decode cL_call 133 = .ok (.aload_n 0, 1) := by decide +kernel
theorem dL_call_134 : decode cL_call 134 = .ok (.iload_n 2, 1) := by decide +kernel
theorem dL_call_135 : decode cL_call 135 = .ok (.iload_n 3, 1) := by decide +kernel
theorem dL_call_136 : decode cL_call 136 = .ok (.invokestatic 111, 3) := by decide +kernel
theorem dL_call_139 : decode cL_call 139 = .ok (.ireturn, 1) := by decide +kernel
theorem dL_call_140 : decode cL_call 140 = .ok (.aload_n 0, 1) := by decide +kernel
theorem dL_call_141 : decode cL_call 141 = .ok (.invokestatic 114, 3) := by decide +kernel
theorem dL_call_144 : decode cL_call 144 = .ok (.ireturn, 1) := by decide +kernel
theorem dL_call_145 : decode cL_call 145 = .ok (.aload_n 0, 1) := by decide +kernel
theorem dL_call_146 : decode cL_call 146 = .ok (.iload_n 2, 1) := by decide +kernel
theorem dL_call_147 : decode cL_call 147 = .ok (.invokestatic 118, 3) := by decide +kernel
theorem dL_call_150 : decode cL_call 150 = .ok (.ireturn, 1) := by decide +kernel
theorem dL_call_151 : decode cL_call 151 = .ok (.aload_n 0, 1) := by decide +kernel
theorem dL_call_152 : decode cL_call 152 = .ok (.iload_n 2, 1) := by decide +kernel
theorem dL_call_153 : decode cL_call 153 = .ok (.invokestatic 121, 3) := by decide +kernel
theorem dL_call_156 : decode cL_call 156 = .ok (.ireturn, 1) := by decide +kernel
theorem dL_call_157 : decode cL_call 157 = .ok (.aload_n 0, 1) := by decide +kernel
theorem dL_call_158 : decode cL_call 158 = .ok (.iload_n 2, 1) := by decide +kernel
theorem dL_call_159 : decode cL_call 159 = .ok (.invokestatic 124, 3) := by decide +kernel
theorem dL_call_162 : decode cL_call 162 = .ok (.ireturn, 1) := by decide +kernel
theorem dL_call_163 : decode cL_call 163 = .ok (.aload_n 0, 1) := by decide +kernel
theorem dL_call_164 : decode cL_call 164 = .ok (.iload_n 2, 1) := by decide +kernel
theorem dL_call_165 : decode cL_call 165 = .ok (.iload_n 3, 1) := by decide +kernel
theorem dL_call_166 : decode cL_call 166 = .ok (.invokestatic 127, 3) := by decide +kernel
theorem dL_call_169 : decode cL_call 169 = .ok (.ireturn, 1) := by decide +kernel
theorem dL_call_170 : decode cL_call 170 = .ok (.aload_n 0, 1) := by decide +kernel
theorem dL_call_171 : decode cL_call 171 = .ok (.invokestatic 130, 3) := by decide +kernel
theorem dL_call_174 : decode cL_call 174 = .ok (.ireturn, 1) := by decide +kernel
theorem dL_call_175 : decode cL_call 175 = .ok (.aload_n 0, 1) := by decide +kernel
theorem dL_call_176 : decode cL_call 176 = .ok (.iload_n 2, 1) := by decide +kernel
theorem dL_call_177 : decode cL_call 177 = .ok (.invokestatic 133, 3) := by decide +kernel
theorem dL_call_180 : decode cL_call 180 = .ok (.ireturn, 1) := by decide +kernel
theorem dL_call_181 : decode cL_call 181 = .ok (.aload_n 0, 1) := by decide +kernel
theorem dL_call_182 : decode cL_call 182 = .ok (.iload_n 2, 1) := by decide +kernel
theorem dL_call_183 : decode cL_call 183 = .ok (.invokestatic 136, 3) := by decide +kernel
theorem dL_call_186 : decode cL_call 186 = .ok (.ireturn, 1) := by decide +kernel
theorem dL_call_187 : decode cL_call 187 = .ok (.aload_n 0, 1) := by decide +kernel
theorem dL_call_188 : decode cL_call 188 = .ok (.iload_n 2, 1) := by decide +kernel
theorem dL_call_189 : decode cL_call 189 = .ok (.iload_n 3, 1) := by decide +kernel
theorem dL_call_190 : decode cL_call 190 = .ok (.invokestatic 139, 3) := by decide +kernel
theorem dL_call_193 : decode cL_call 193 = .ok (.ireturn, 1) := by decide +kernel
theorem dL_call_194 : decode cL_call 194 = .ok (.aload_n 0, 1) := by decide +kernel
theorem dL_call_195 : decode cL_call 195 = .ok (.iload_n 2, 1) := by decide +kernel
theorem dL_call_196 : decode cL_call 196 = .ok (.invokestatic 142, 3) := by decide +kernel
theorem dL_call_199 : decode cL_call 199 = .ok (.ireturn, 1) := by decide +kernel
theorem dL_call_200 : decode cL_call 200 = .ok (.aload_n 0, 1) := by decide +kernel
theorem dL_call_201 : decode cL_call 201 = .ok (.iload_n 2, 1) := by decide +kernel
theorem dL_call_202 : decode cL_call 202 = .ok (.invokestatic 145, 3) := by decide +kernel
theorem dL_call_205 : decode cL_call 205 = .ok (.ireturn, 1) := by decide +kernel
