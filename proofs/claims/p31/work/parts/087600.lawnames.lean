set_option maxRecDepth 20000 in
theorem ggL_tryScript_X6_runScript_p0 : GoodIn wsL_tryScript [.code yX6_runScript cX6_runScript 5 (some .int)] := goodIn_r _ [7] (by decide +kernel) (by decide +kernel)
set_option maxRecDepth 20000 in
theorem ggL_tryScript_X6_runScript_p1 : GoodIn wsL_tryScript wsX6_runScript_r1 := goodIn_r _ [8, 9, 10, 11, 12, 13, 14, 6, 15, 16, 17, 18, 19, 20, 21, 22, 23, 24, 25, 26, 27, 28, 29, 30] (by decide +kernel) (by decide +kernel)
set_option maxRecDepth 20000 in
theorem ggL_tryScript_X6_runScript_p2 : GoodIn wsL_tryScript wsX6_runScript_r2 := goodIn_r _ [31, 32, 33, 34, 35, 36, 37, 38, 39, 40, 41, 42, 43, 44, 45, 46, 47, 48, 49, 50, 51, 52, 53, 54] (by decide +kernel) (by decide +kernel)
set_option maxRecDepth 20000 in
theorem ggL_tryScript_X6_runScript_p3 : GoodIn wsL_tryScript wsX6_runScript_r3 := goodIn_r _ [55, 56, 57, 58, 59, 60, 61, 62, 63, 64, 65, 66, 67, 68, 69, 70, 71, 72, 73, 74, 75, 76, 77, 78] (by decide +kernel) (by decide +kernel)
set_option maxRecDepth 20000 in
theorem ggL_tryScript_X6_runScript_p4 : GoodIn wsL_tryScript wsX6_runScript_r4 := goodIn_r _ [79, 80, 81, 82, 83, 84, 85, 86, 87, 88, 89, 90, 91, 92, 93, 94, 95, 96, 97, 98, 99, 100, 101, 102] (by decide +kernel) (by decide +kernel)
set_option maxRecDepth 20000 in
theorem ggL_tryScript_X6_runScript_p5 : GoodIn wsL_tryScript wsX6_runScript_r5 := goodIn_r _ [103, 104, 105, 106, 107, 108, 109, 110, 111, 112, 113, 114, 115, 116, 117, 118, 119, 120, 121, 122, 123, 124, 125, 126] (by decide +kernel) (by decide +kernel)
set_option maxRecDepth 20000 in
theorem ggL_tryScript_X6_runScript_p6 : GoodIn wsL_tryScript wsX6_runScript_r6 := goodIn_r _ [127, 128, 129, 130, 131, 132, 133, 134, 135, 136, 137, 138, 139, 140, 141, 142, 143, 144, 145, 146, 147, 148, 149, 150] (by decide +kernel) (by decide +kernel)
set_option maxRecDepth 20000 in
theorem ggL_tryScript_X6_runScript_p7 : GoodIn wsL_tryScript wsX6_runScript_r7 := goodIn_r _ [151, 152, 153, 154, 155, 156, 157, 158, 159, 160, 161, 162, 163, 164, 165, 166, 167, 168, 169, 170, 171, 172, 173, 174] (by decide +kernel) (by decide +kernel)
set_option maxRecDepth 20000 in
theorem ggL_tryScript_X6_runScript_p8 : GoodIn wsL_tryScript wsX6_runScript_r8 := goodIn_r _ [175, 176, 177, 178, 179, 180, 181, 182, 183, 184, 185, 186, 187, 188, 189, 190, 191, 192, 193, 194, 195, 196, 197, 198] (by decide +kernel) (by decide +kernel)
set_option maxRecDepth 20000 in
theorem ggL_tryScript_X6_runScript_p9 : GoodIn wsL_tryScript wsX6_runScript_r9 := goodIn_r _ [199, 200, 201, 202, 203, 204, 205, 206, 207, 208, 209, 210, 211, 212, 213, 214, 215, 216, 217, 218, 219, 220, 221, 222] (by decide +kernel) (by decide +kernel)
set_option maxRecDepth 20000 in
theorem ggL_tryScript_X6_runScript_p10 : GoodIn wsL_tryScript wsX6_runScript_r10 := goodIn_r _ [223, 224, 225, 226, 227, 228, 229, 230, 231, 232, 233, 234, 235, 236] (by decide +kernel) (by decide +kernel)
set_option maxRecDepth 20000 in
theorem ggL_tryScript_X6_runScript_p11 : GoodIn wsL_tryScript wsX60 := goodIn_r _ [237, 238, 239, 240, 241, 242] (by decide +kernel) (by decide +kernel)
set_option maxRecDepth 20000 in
theorem ggL_tryScript_X6_runScript_p12 : GoodIn wsL_tryScript wsX40 := goodIn_r _ [243, 244, 245, 246, 247, 248] (by decide +kernel) (by decide +kernel)
set_option maxRecDepth 20000 in
theorem ggL_tryScript_X6_runScript_p13 : GoodIn wsL_tryScript wsX00 := goodIn_r _ [249, 250, 251, 252, 253] (by decide +kernel) (by decide +kernel)
set_option maxRecDepth 20000 in
theorem ggL_tryScript_X6_runScript_p14 : GoodIn wsL_tryScript wsX20 := goodIn_r _ [254, 255, 256, 257, 258, 259] (by decide +kernel) (by decide +kernel)
set_option maxRecDepth 20000 in
theorem ggL_tryScript_X6_runScript : GoodIn wsL_tryScript wsX6_runScript := goodIn_ca (goodIn_c2 ggL_tryScript_X6_runScript_p0 (goodIn_app (goodIn_app (goodIn_app (goodIn_app (goodIn_app ggL_tryScript_X6_runScript_p1 (goodIn_app ggL_tryScript_X6_runScript_p2 (goodIn_app ggL_tryScript_X6_runScript_p3 (goodIn_app ggL_tryScript_X6_runScript_p4 (goodIn_app ggL_tryScript_X6_runScript_p5 (goodIn_app ggL_tryScript_X6_runScript_p6 (goodIn_app ggL_tryScript_X6_runScript_p7 (goodIn_app ggL_tryScript_X6_runScript_p8 (goodIn_app ggL_tryScript_X6_runScript_p9 ggL_tryScript_X6_runScript_p10))))))))) ggL_tryScript_X6_runScript_p11) ggL_tryScript_X6_runScript_p12) ggL_tryScript_X6_runScript_p13) ggL_tryScript_X6_runScript_p14)) (goodIn_sub (fun _ h => List.mem_cons_of_mem _ (List.mem_append_right _ h)) (by decide +kernel))
set_option maxRecDepth 20000 in
theorem gL_tryScript_X6_runScript : GoodIn wsL_tryScript (wsV RL 7 RX6 yX6_runScript wsX6_runScript) := goodIn_app (goodIn_of _ (by decide +kernel)) ggL_tryScript_X6_runScript
theorem dL_tryScript_0 : decode cL_tryScript 0 = .ok (.aload_n 0, 1) := by decide +kernel
theorem dL_tryScript_1 : decode cL_tryScript 1 = .ok (.iload_n 1, 1) := by decide +kernel
theorem dL_tryScript_2 : decode cL_tryScript 2 = .ok (.lload_n 2, 1) := by decide +kernel
theorem dL_tryScript_3 : decode cL_tryScript 3 = .ok (.invokevirtual 7, 3) := by decide +kernel
theorem dL_tryScript_6 : decode cL_tryScript 6 = .ok (.ireturn, 1) := by decide +kernel
theorem dL_tryScript_7 : decode cL_tryScript 7 = .ok (.astore 4, 2) := by decide +kernel
theorem dL_tryScript_9 : decode cL_tryScript 9 = .ok (.ldc 15, 2) := by decide +kernel
theorem dL_tryScript_11 : decode cL_tryScript 11 = .ok (.ireturn, 1) := by decide +kernel
set_option maxRecDepth 20000 in
theorem ggL_trySimulate_X6_simulate_p0 : GoodIn wsL_trySimulate [.code yX6_simulate cX6_simulate 8 (some .int)] := goodIn_r _ [7] (by decide +kernel) (by decide +kernel)
set_option maxRecDepth 20000 in
theorem ggL_trySimulate_X6_simulate_p1 : GoodIn wsL_trySimulate wsX6_simulate_r1 := goodIn_r _ [8, 9, 10, 11, 12, 13, 14, 15, 16, 17, 18, 19, 20, 21, 22, 23, 24, 25, 26, 27, 28, 29, 30, 31] (by decide +kernel) (by decide +kernel)
set_option maxRecDepth 20000 in
theorem ggL_trySimulate_X6_simulate_p2 : GoodIn wsL_trySimulate wsX6_simulate_r2 := goodIn_r _ [32, 33, 34, 35, 36, 6, 37, 38, 39, 40, 41, 42, 43, 44, 45, 46, 47, 48, 49, 50, 51, 52, 53, 54] (by decide +kernel) (by decide +kernel)
set_option maxRecDepth 20000 in
theorem ggL_trySimulate_X6_simulate_p3 : GoodIn wsL_trySimulate wsX6_simulate_r3 := goodIn_r _ [55, 56, 57, 58, 59, 60, 61, 62, 63, 64, 65, 66, 67, 68, 69, 70, 71, 72, 73, 74, 75, 76, 77, 78] (by decide +kernel) (by decide +kernel)
set_option maxRecDepth 20000 in
theorem ggL_trySimulate_X6_simulate_p4 : GoodIn wsL_trySimulate wsX6_simulate_r4 := goodIn_r _ [79, 80, 81, 82, 83, 84, 85, 86, 87, 88, 89, 90, 91, 92, 93, 94, 95, 96, 97, 98, 99, 100, 101, 102] (by decide +kernel) (by decide +kernel)
set_option maxRecDepth 20000 in
theorem ggL_trySimulate_X6_simulate_p5 : GoodIn wsL_trySimulate wsX6_simulate_r5 := goodIn_r _ [103, 104, 105, 106, 107, 108, 109, 110, 111, 112, 113, 114, 115, 116, 117, 118, 119, 120, 121, 122, 123, 124, 125, 126] (by decide +kernel) (by decide +kernel)
set_option maxRecDepth 20000 in
theorem ggL_trySimulate_X6_simulate_p6 : GoodIn wsL_trySimulate wsX6_simulate_r6 := goodIn_r _ [127, 128, 129, 130, 131, 132, 133, 134, 135, 136, 137, 138, 139, 140, 141, 142, 143, 144, 145, 146, 147, 148, 149, 150] (by decide +kernel) (by decide +kernel)
set_option maxRecDepth 20000 in
theorem ggL_trySimulate_X6_simulate_p7 : GoodIn wsL_trySimulate wsX6_simulate_r7 := goodIn_r _ [151, 152, 153, 154, 155, 156, 157, 158, 159, 160, 161, 162, 163, 164, 165, 166, 167, 168, 169, 170, 171, 172, 173, 174] (by decide +kernel) (by decide +kernel)
set_option maxRecDepth 20000 in
theorem ggL_trySimulate_X6_simulate_p8 : GoodIn wsL_trySimulate wsX6_simulate_r8 := goodIn_r _ [175, 176, 177, 178, 179, 180, 181, 182, 183, 184, 185, 186, 187, 188, 189, 190, 191, 192, 193, 194, 195, 196, 197, 198] (by decide +kernel) (by decide +kernel)
set_option maxRecDepth 20000 in
theorem ggL_trySimulate_X6_simulate_p9 : GoodIn wsL_trySimulate wsX6_simulate_r9 := goodIn_r _ [199, 200, 201, 202, 203, 204, 205, 206, 207] (by decide +kernel) (by decide +kernel)
set_option maxRecDepth 20000 in
theorem ggL_trySimulate_X6_simulate_p10 : GoodIn wsL_trySimulate wsX60 := goodIn_r _ [208, 209, 210, 211, 212, 213] (by decide +kernel) (by decide +kernel)
set_option maxRecDepth 20000 in
theorem ggL_trySimulate_X6_simulate_p11 : GoodIn wsL_trySimulate wsX40 := goodIn_r _ [214, 215, 216, 217, 218, 219] (by decide +kernel) (by decide +kernel)
set_option maxRecDepth 20000 in
theorem ggL_trySimulate_X6_simulate_p12 : GoodIn wsL_trySimulate wsX00 := goodIn_r _ [220, 221, 222, 223, 224] (by decide +kernel) (by decide +kernel)
set_option maxRecDepth 20000 in
theorem ggL_trySimulate_X6_simulate_p13 : GoodIn wsL_trySimulate wsX20 := goodIn_r _ [225, 226, 227, 228, 229, 230] (by decide +kernel) (by decide +kernel)
set_option maxRecDepth 20000 in
theorem ggL_trySimulate_X6_simulate : GoodIn wsL_trySimulate wsX6_simulate := goodIn_ca (goodIn_c2 ggL_trySimulate_X6_simulate_p0 (goodIn_app (goodIn_app (goodIn_app (goodIn_app (goodIn_app ggL_trySimulate_X6_simulate_p1 (goodIn_app ggL_trySimulate_X6_simulate_p2 (goodIn_app ggL_trySimulate_X6_simulate_p3 (goodIn_app ggL_trySimulate_X6_simulate_p4 (goodIn_app ggL_trySimulate_X6_simulate_p5 (goodIn_app ggL_trySimulate_X6_simulate_p6 (goodIn_app ggL_trySimulate_X6_simulate_p7 (goodIn_app ggL_trySimulate_X6_simulate_p8 ggL_trySimulate_X6_simulate_p9)))))))) ggL_trySimulate_X6_simulate_p10) ggL_trySimulate_X6_simulate_p11) ggL_trySimulate_X6_simulate_p12) ggL_trySimulate_X6_simulate_p13)) (goodIn_sub (fun _ h => List.mem_cons_of_mem _ (List.mem_append_right _ h)) (by decide +kernel))
set_option maxRecDepth 20000 in
theorem gL_trySimulate_X6_simulate : GoodIn wsL_trySimulate (wsV RL 16 RX6 yX6_simulate wsX6_simulate) := goodIn_app (goodIn_of _ (by decide +kernel)) ggL_trySimulate_X6_simulate
theorem dL_trySimulate_0 : decode cL_trySimulate 0 = .ok (.aload_n 0, 1) := by decide +kernel
theorem dL_trySimulate_1 : decode cL_trySimulate 1 = .ok (.lload_n 1, 1) := by decide +kernel
theorem dL_trySimulate_2 : decode cL_trySimulate 2 = .ok (.iload_n 3, 1) := by decide +kernel
theorem dL_trySimulate_3 : decode cL_trySimulate 3 = .ok (.invokevirtual 16, 3) := by decide +kernel
theorem dL_trySimulate_6 : decode cL_trySimulate 6 = .ok (.ireturn, 1) := by decide +kernel
theorem dL_trySimulate_7 : decode cL_trySimulate 7 = .ok (.astore 4, 2) := by decide +kernel
theorem dL_trySimulate_9 : decode cL_trySimulate 9 = .ok (.ldc 15, 2) := by decide +kernel
theorem dL_trySimulate_11 : decode cL_trySimulate 11 = .ok (.ireturn, 1) := by decide +kernel
set_option maxRecDepth 20000 in
theorem ggL_tryAppend_X6_append : GoodIn wsL_tryAppend wsX6_append := goodIn_ca (goodIn_ca (goodIn_r _ [9, 10, 11, 12, 13, 14, 15, 16, 17, 18, 19, 20, 21, 22, 23, 8, 24, 25, 26, 27, 28, 29, 30, 31, 32] (by decide +kernel) (by decide +kernel)) (goodIn_sub (fun _ h => List.mem_cons_of_mem _ (List.mem_append_left _ (List.mem_append_right _ h))) (by decide +kernel))) (goodIn_sub (fun _ h => List.mem_cons_of_mem _ (List.mem_append_right _ h)) (by decide +kernel))
set_option maxRecDepth 20000 in
theorem gL_tryAppend_X6_append : GoodIn wsL_tryAppend (wsV RL 20 RX6 yX6_append wsX6_append) := goodIn_app (goodIn_of _ (by decide +kernel)) ggL_tryAppend_X6_append
theorem dL_tryAppend_0 : decode cL_tryAppend 0 = .ok (.aload_n 0, 1) := by decide +kernel
theorem dL_tryAppend_1 : decode cL_tryAppend 1 = .ok (.iload_n 1, 1) := by decide +kernel
theorem dL_tryAppend_2 : decode cL_tryAppend 2 = .ok (.invokevirtual 20, 3) := by decide +kernel
theorem dL_tryAppend_5 : decode cL_tryAppend 5 = .ok (.ireturn, 1) := by decide +kernel
theorem dL_tryAppend_6 : decode cL_tryAppend 6 = .ok (.astore_n 2, 1) := by decide +kernel
theorem dL_tryAppend_7 : decode cL_tryAppend 7 = .ok (.ldc 15, 2) := by decide +kernel
theorem dL_tryAppend_9 : decode cL_tryAppend 9 = .ok (.ireturn, 1) := by decide +kernel
theorem dL_tryAppend_10 : decode cL_tryAppend 10 = .ok (.astore_n 2, 1) := by decide +kernel
theorem dL_tryAppend_11 : decode cL_tryAppend 11 = .ok (.ldc 26, 2) := by decide +kernel
theorem dL_tryAppend_13 : decode cL_tryAppend 13 = .ok (.ireturn, 1) := by decide +kernel
set_option maxRecDepth 20000 in
theorem ggL_tryAbout_X6_about_p0 : GoodIn wsL_tryAbout [.code yX6_about cX6_about 2 (some .int)] := goodIn_r _ [7] (by decide +kernel) (by decide +kernel)
set_option maxRecDepth 20000 in
theorem ggL_tryAbout_X6_about_p1 : GoodIn wsL_tryAbout wsX6_about_r1 := goodIn_r _ [8, 9, 10, 11, 12, 13, 14, 15, 16, 17, 18, 19, 20, 6, 21, 22, 23, 24, 25, 26, 27, 28, 29, 30] (by decide +kernel) (by decide +kernel)
set_option maxRecDepth 20000 in
theorem ggL_tryAbout_X6_about_p2 : GoodIn wsL_tryAbout wsX6_about_r2 := goodIn_r _ [31, 32, 33, 34, 35, 36, 37, 38, 39, 40, 41, 42, 43, 44, 45, 46] (by decide +kernel) (by decide +kernel)
set_option maxRecDepth 20000 in
theorem ggL_tryAbout_X6_about_p3 : GoodIn wsL_tryAbout wsX60 := goodIn_r _ [47, 48, 49, 50, 51, 52] (by decide +kernel) (by decide +kernel)
set_option maxRecDepth 20000 in
theorem ggL_tryAbout_X6_about_p4 : GoodIn wsL_tryAbout wsX40 := goodIn_r _ [53, 54, 55, 56, 57, 58] (by decide +kernel) (by decide +kernel)
set_option maxRecDepth 20000 in
theorem ggL_tryAbout_X6_about_p5 : GoodIn wsL_tryAbout wsX00 := goodIn_r _ [59, 60, 61, 62, 63] (by decide +kernel) (by decide +kernel)
set_option maxRecDepth 20000 in
theorem ggL_tryAbout_X6_about : GoodIn wsL_tryAbout wsX6_about := goodIn_ca (goodIn_c2 ggL_tryAbout_X6_about_p0 (goodIn_app (goodIn_app (goodIn_app (goodIn_app ggL_tryAbout_X6_about_p1 ggL_tryAbout_X6_about_p2) ggL_tryAbout_X6_about_p3) ggL_tryAbout_X6_about_p4) ggL_tryAbout_X6_about_p5)) (goodIn_sub (fun _ h => List.mem_cons_of_mem _ (List.mem_append_right _ h)) (by decide +kernel))
set_option maxRecDepth 20000 in
theorem gL_tryAbout_X6_about : GoodIn wsL_tryAbout (wsV RL 27 RX6 yX6_about wsX6_about) := goodIn_app (goodIn_of _ (by decide +kernel)) ggL_tryAbout_X6_about
theorem dL_tryAbout_0 : decode cL_tryAbout 0 = .ok (.aload_n 0, 1) := by decide +kernel
theorem dL_tryAbout_1 : decode cL_tryAbout 1 = .ok (.iload_n 1, 1) := by decide +kernel
theorem dL_tryAbout_2 : decode cL_tryAbout 2 = .ok (.invokevirtual 27, 3) := by decide +kernel
theorem dL_tryAbout_5 : decode cL_tryAbout 5 = .ok (.ireturn, 1) := by decide +kernel
theorem dL_tryAbout_6 : decode cL_tryAbout 6 = .ok (.astore_n 2, 1) := by decide +kernel
theorem dL_tryAbout_7 : decode cL_tryAbout 7 = .ok (.ldc 15, 2) := by decide +kernel
theorem dL_tryAbout_9 : decode cL_tryAbout 9 = .ok (.ireturn, 1) := by decide +kernel
set_option maxRecDepth 20000 in
theorem ggL_trySign_X6_sign_p0 : GoodIn wsL_trySign [.code yX6_sign cX6_sign 2 (some .int)] := goodIn_r _ [7] (by decide +kernel) (by decide +kernel)
set_option maxRecDepth 20000 in
theorem ggL_trySign_X6_sign_p1 : GoodIn wsL_trySign [.classLink RX6 49 "java/lang/IllegalArgumentException", .initialized "java/lang/IllegalArgumentException", .fieldLink RX6 12 "RuledStrokes" "state" "LRuledStrokes$State;", .fieldLink RX6 72 "RuledStrokes$State" "figures" "LRuledStrokes$Figures;", .methodLink RX6 102 yX0_signAt, .instanceMethod yX0_signAt, .selects RX0 yX0_signAt yX0_signAt, .initialized RX0, .code yX0_signAt cX0_signAt 4 (some .int), .fieldLink RX0 21 "RuledStrokes$Figures" "signCounts" "[I", .fieldLink RX0 24 "RuledStrokes$Figures" "signs" "[I", .static yX6_cell, .initialized RX6, .code yX6_cell cX6_cell 2 (some .int)] := goodIn_r _ [8, 9, 10, 11, 12, 13, 14, 15, 16, 17, 18, 19, 6, 20] (by decide +kernel) (by decide +kernel)
set_option maxRecDepth 20000 in
theorem ggL_trySign_X6_sign_p2 : GoodIn wsL_trySign wsX60 := goodIn_r _ [21, 22, 23, 24, 25, 26] (by decide +kernel) (by decide +kernel)
set_option maxRecDepth 20000 in
theorem ggL_trySign_X6_sign_p3 : GoodIn wsL_trySign wsX40 := goodIn_r _ [27, 28, 29, 30, 31, 32] (by decide +kernel) (by decide +kernel)
set_option maxRecDepth 20000 in
theorem ggL_trySign_X6_sign_p4 : GoodIn wsL_trySign wsX00 := goodIn_r _ [33, 34, 35, 36, 37] (by decide +kernel) (by decide +kernel)
set_option maxRecDepth 20000 in
theorem ggL_trySign_X6_sign : GoodIn wsL_trySign wsX6_sign := goodIn_ca (goodIn_c2 ggL_trySign_X6_sign_p0 (goodIn_app (goodIn_app (goodIn_app ggL_trySign_X6_sign_p1 ggL_trySign_X6_sign_p2) ggL_trySign_X6_sign_p3) ggL_trySign_X6_sign_p4)) (goodIn_sub (fun _ h => List.mem_cons_of_mem _ (List.mem_append_right _ h)) (by decide +kernel))
set_option maxRecDepth 20000 in
theorem gL_trySign_X6_sign : GoodIn wsL_trySign (wsV RL 30 RX6 yX6_sign wsX6_sign) := goodIn_app (goodIn_of _ (by decide +kernel)) ggL_trySign_X6_sign
theorem dL_trySign_0 : decode cL_trySign 0 = .ok (.aload_n 0, 1) := by decide +kernel
theorem dL_trySign_1 : decode cL_trySign 1 = .ok (.iload_n 1, 1) := by decide +kernel
theorem dL_trySign_2 : decode cL_trySign 2 = .ok (.invokevirtual 30, 3) := by decide +kernel
theorem dL_trySign_5 : decode cL_trySign 5 = .ok (.ireturn, 1) := by decide +kernel
theorem dL_trySign_6 : decode cL_trySign 6 = .ok (.astore_n 2, 1) := by decide +kernel
theorem dL_trySign_7 : decode cL_trySign 7 = .ok (.ldc 15, 2) := by decide +kernel
theorem dL_trySign_9 : decode cL_trySign 9 = .ok (.ireturn, 1) := by decide +kernel
set_option maxRecDepth 20000 in
theorem ggL_trySample_X6_sample_p0 : GoodIn wsL_trySample [.code yX6_sample cX6_sample 3 (some .int)] := goodIn_r _ [9] (by decide +kernel) (by decide +kernel)
set_option maxRecDepth 20000 in
theorem ggL_trySample_X6_sample_p1 : GoodIn wsL_trySample wsX6_sample_r1 := goodIn_r _ [10, 11, 12, 13, 14, 15, 16, 17, 18, 19, 20, 21, 22, 23, 24, 25, 26, 27, 8, 28, 29, 30, 31, 32] (by decide +kernel) (by decide +kernel)
set_option maxRecDepth 20000 in
theorem ggL_trySample_X6_sample_p2 : GoodIn wsL_trySample wsX6_sample_r2 := goodIn_r _ [33, 34, 35, 36, 37, 38, 39, 40, 41, 42, 43, 44, 45, 46, 47, 48, 49] (by decide +kernel) (by decide +kernel)
set_option maxRecDepth 20000 in
theorem ggL_trySample_X6_sample_p3 : GoodIn wsL_trySample wsX60 := goodIn_r _ [50, 51, 52, 53, 54, 55] (by decide +kernel) (by decide +kernel)
set_option maxRecDepth 20000 in
theorem ggL_trySample_X6_sample_p4 : GoodIn wsL_trySample wsX40 := goodIn_r _ [56, 57, 58, 59, 60, 61] (by decide +kernel) (by decide +kernel)
set_option maxRecDepth 20000 in
theorem ggL_trySample_X6_sample_p5 : GoodIn wsL_trySample wsX00 := goodIn_r _ [62, 63, 64, 65, 66] (by decide +kernel) (by decide +kernel)
set_option maxRecDepth 20000 in
theorem ggL_trySample_X6_sample : GoodIn wsL_trySample wsX6_sample := goodIn_ca (goodIn_ca (goodIn_c2 ggL_trySample_X6_sample_p0 (goodIn_app (goodIn_app (goodIn_app (goodIn_app ggL_trySample_X6_sample_p1 ggL_trySample_X6_sample_p2) ggL_trySample_X6_sample_p3) ggL_trySample_X6_sample_p4) ggL_trySample_X6_sample_p5)) (goodIn_sub (fun _ h => List.mem_cons_of_mem _ (List.mem_append_left _ (List.mem_append_right _ h))) (by decide +kernel))) (goodIn_sub (fun _ h => List.mem_cons_of_mem _ (List.mem_append_right _ h)) (by decide +kernel))
set_option maxRecDepth 20000 in
theorem gL_trySample_X6_sample : GoodIn wsL_trySample (wsV RL 33 RX6 yX6_sample wsX6_sample) := goodIn_app (goodIn_of _ (by decide +kernel)) ggL_trySample_X6_sample
theorem dL_trySample_0 : decode cL_trySample 0 = .ok (.aload_n 0, 1) := by decide +kernel
theorem dL_trySample_1 : decode cL_trySample 1 = .ok (.iload_n 1, 1) := by decide +kernel
theorem dL_trySample_2 : decode cL_trySample 2 = .ok (.iload_n 2, 1) := by decide +kernel
theorem dL_trySample_3 : decode cL_trySample 3 = .ok (.invokevirtual 33, 3) := by decide +kernel
theorem dL_trySample_6 : decode cL_trySample 6 = .ok (.ireturn, 1) := by decide +kernel
theorem dL_trySample_7 : decode cL_trySample 7 = .ok (.astore_n 3, 1) := by decide +kernel
theorem dL_trySample_8 : decode cL_trySample 8 = .ok (.ldc 39, 2) := by decide +kernel
theorem dL_trySample_10 : decode cL_trySample 10 = .ok (.ireturn, 1) := by decide +kernel
theorem dL_trySample_11 : decode cL_trySample 11 = .ok (.astore_n 3, 1) := by decide +kernel
theorem dL_trySample_12 : decode cL_trySample 12 = .ok (.ldc 15, 2) := by decide +kernel
theorem dL_trySample_14 : decode cL_trySample 14 = .ok (.ireturn, 1) := by decide +kernel
set_option maxRecDepth 20000 in
theorem ggL_trySignOf_X6_signOf_p0 : GoodIn wsL_trySignOf [.code yX6_signOf cX6_signOf 3 (some .int)] := goodIn_r _ [9] (by decide +kernel) (by decide +kernel)
set_option maxRecDepth 20000 in
theorem ggL_trySignOf_X6_signOf_p1 : GoodIn wsL_trySignOf [.classLink RX6 110 "java/lang/IndexOutOfBoundsException", .initialized "java/lang/IndexOutOfBoundsException", .classLink RX6 49 "java/lang/IllegalArgumentException", .initialized "java/lang/IllegalArgumentException", .fieldLink RX6 12 "RuledStrokes" "state" "LRuledStrokes$State;", .fieldLink RX6 72 "RuledStrokes$State" "figures" "LRuledStrokes$Figures;", .methodLink RX6 106 yX4_hasSample, .instanceMethod yX4_hasSample, .selects RX4 yX4_hasSample yX4_hasSample, .initialized RX4, .code yX4_hasSample cX4_hasSample 2 (some .boolean), .fieldLink RX4 36 "RuledStrokes$State" "samples" "I", .methodLink RX6 102 yX0_signAt, .instanceMethod yX0_signAt, .selects RX0 yX0_signAt yX0_signAt, .initialized RX0, .code yX0_signAt cX0_signAt 4 (some .int), .fieldLink RX0 21 "RuledStrokes$Figures" "signCounts" "[I", .fieldLink RX0 24 "RuledStrokes$Figures" "signs" "[I", .static yX6_cell, .initialized RX6, .code yX6_cell cX6_cell 2 (some .int)] := goodIn_r _ [10, 11, 12, 13, 14, 15, 16, 17, 18, 19, 20, 21, 22, 23, 24, 25, 26, 27, 28, 29, 8, 30] (by decide +kernel) (by decide +kernel)
set_option maxRecDepth 20000 in
theorem ggL_trySignOf_X6_signOf_p2 : GoodIn wsL_trySignOf wsX60 := goodIn_r _ [31, 32, 33, 34, 35, 36] (by decide +kernel) (by decide +kernel)
set_option maxRecDepth 20000 in
theorem ggL_trySignOf_X6_signOf_p3 : GoodIn wsL_trySignOf wsX40 := goodIn_r _ [37, 38, 39, 40, 41, 42] (by decide +kernel) (by decide +kernel)
set_option maxRecDepth 20000 in
theorem ggL_trySignOf_X6_signOf_p4 : GoodIn wsL_trySignOf wsX00 := goodIn_r _ [43, 44, 45, 46, 47] (by decide +kernel) (by decide +kernel)
set_option maxRecDepth 20000 in
theorem ggL_trySignOf_X6_signOf : GoodIn wsL_trySignOf wsX6_signOf := goodIn_ca (goodIn_ca (goodIn_c2 ggL_trySignOf_X6_signOf_p0 (goodIn_app (goodIn_app (goodIn_app ggL_trySignOf_X6_signOf_p1 ggL_trySignOf_X6_signOf_p2) ggL_trySignOf_X6_signOf_p3) ggL_trySignOf_X6_signOf_p4)) (goodIn_sub (fun _ h => List.mem_cons_of_mem _ (List.mem_append_left _ (List.mem_append_right _ h))) (by decide +kernel))) (goodIn_sub (fun _ h => List.mem_cons_of_mem _ (List.mem_append_right _ h)) (by decide +kernel))
set_option maxRecDepth 20000 in
theorem gL_trySignOf_X6_signOf : GoodIn wsL_trySignOf (wsV RL 40 RX6 yX6_signOf wsX6_signOf) := goodIn_app (goodIn_of _ (by decide +kernel)) ggL_trySignOf_X6_signOf
theorem dL_trySignOf_0 : decode cL_trySignOf 0 = .ok (.aload_n 0, 1) := by decide +kernel
theorem dL_trySignOf_1 : decode cL_trySignOf 1 = .ok (.iload_n 1, 1) := by decide +kernel
theorem dL_trySignOf_2 : decode cL_trySignOf 2 = .ok (.iload_n 2, 1) := by decide +kernel
theorem dL_trySignOf_3 : decode cL_trySignOf 3 = .ok (.invokevirtual 40, 3) := by decide +kernel
theorem dL_trySignOf_6 : decode cL_trySignOf 6 = .ok (.ireturn, 1) := by decide +kernel
theorem dL_trySignOf_7 : decode cL_trySignOf 7 = .ok (.astore_n 3, 1) := by decide +kernel
theorem dL_trySignOf_8 : decode cL_trySignOf 8 = .ok (.ldc 39, 2) := by decide +kernel
theorem dL_trySignOf_10 : decode cL_trySignOf 10 = .ok (.ireturn, 1) := by decide +kernel
theorem dL_trySignOf_11 : decode cL_trySignOf 11 = .ok (.astore_n 3, 1) := by decide +kernel
theorem dL_trySignOf_12 : decode cL_trySignOf 12 = .ok (.ldc 15, 2) := by decide +kernel
theorem dL_trySignOf_14 : decode cL_trySignOf 14 = .ok (.ireturn, 1) := by decide +kernel
set_option maxRecDepth 20000 in
theorem ggL_tryPractised_X6_practised : GoodIn wsL_tryPractised wsX6_practised := goodIn_ca (goodIn_r _ [7, 8, 9, 10, 11, 12, 6, 13, 14, 15, 16, 17, 18, 19, 20, 21, 22, 23, 24, 25, 26, 27, 28, 29, 30, 31, 32, 33] (by decide +kernel) (by decide +kernel)) (goodIn_sub (fun _ h => List.mem_cons_of_mem _ (List.mem_append_right _ h)) (by decide +kernel))
set_option maxRecDepth 20000 in
theorem gL_tryPractised_X6_practised : GoodIn wsL_tryPractised (wsV RL 43 RX6 yX6_practised wsX6_practised) := goodIn_app (goodIn_of _ (by decide +kernel)) ggL_tryPractised_X6_practised
theorem dL_tryPractised_0 : decode cL_tryPractised 0 = .ok (.aload_n 0, 1) := by decide +kernel
theorem dL_tryPractised_1 : decode cL_tryPractised 1 = .ok (.iload_n 1, 1) := by decide +kernel
theorem dL_tryPractised_2 : decode cL_tryPractised 2 = .ok (.iload_n 2, 1) := by decide +kernel
theorem dL_tryPractised_3 : decode cL_tryPractised 3 = .ok (.invokevirtual 43, 3) := by decide +kernel
theorem dL_tryPractised_6 : decode cL_tryPractised 6 = .ok (.ireturn, 1) := by decide +kernel
theorem dL_tryPractised_7 : decode cL_tryPractised 7 = .ok (.astore_n 3, 1) := by decide +kernel
theorem dL_tryPractised_8 : decode cL_tryPractised 8 = .ok (.ldc 15, 2) := by decide +kernel
theorem dL_tryPractised_10 : decode cL_tryPractised 10 = .ok (.ireturn, 1) := by decide +kernel
set_option maxRecDepth 20000 in
theorem ggL_trySetting_X6_setting : GoodIn wsL_trySetting wsX6_setting := goodIn_ca (goodIn_r _ [7, 8, 9, 10, 11, 12, 13, 14, 15, 16, 17, 6, 18, 19, 20, 21, 22, 23, 24, 25, 26, 27, 28, 29, 30] (by decide +kernel) (by decide +kernel)) (goodIn_sub (fun _ h => List.mem_cons_of_mem _ (List.mem_append_right _ h)) (by decide +kernel))
set_option maxRecDepth 20000 in
theorem gL_trySetting_X6_setting : GoodIn wsL_trySetting (wsV RL 46 RX6 yX6_setting wsX6_setting) := goodIn_app (goodIn_of _ (by decide +kernel)) ggL_trySetting_X6_setting
theorem dL_trySetting_0 : decode cL_trySetting 0 = .ok (.aload_n 0, 1) := by decide +kernel
theorem dL_trySetting_1 : decode cL_trySetting 1 = .ok (.iload_n 1, 1) := by decide +kernel
theorem dL_trySetting_2 : decode cL_trySetting 2 = .ok (.invokevirtual 46, 3) := by decide +kernel
theorem dL_trySetting_5 : decode cL_trySetting 5 = .ok (.ireturn, 1) := by decide +kernel
theorem dL_trySetting_6 : decode cL_trySetting 6 = .ok (.astore_n 2, 1) := by decide +kernel
theorem dL_trySetting_7 : decode cL_trySetting 7 = .ok (.ldc 15, 2) := by decide +kernel
theorem dL_trySetting_9 : decode cL_trySetting 9 = .ok (.ireturn, 1) := by decide +kernel
set_option maxRecDepth 20000 in
theorem ggL_tryPoint_X6_point_p0 : GoodIn wsL_tryPoint [.code yX6_point cX6_point 3 (some .int)] := goodIn_r _ [9] (by decide +kernel) (by decide +kernel)
set_option maxRecDepth 20000 in
theorem ggL_tryPoint_X6_point_p1 : GoodIn wsL_tryPoint wsX6_point_r1 := goodIn_r _ [10, 11, 12, 13, 14, 15, 16, 17, 18, 8, 19, 20, 21, 22, 23, 24, 25, 26, 27, 28, 29, 30, 31, 32] (by decide +kernel) (by decide +kernel)
set_option maxRecDepth 20000 in
theorem ggL_tryPoint_X6_point_p2 : GoodIn wsL_tryPoint wsX6_point_r2 := goodIn_r _ [33, 34, 35, 36, 37, 38, 39, 40, 41, 42, 43, 44, 45, 46, 47, 48, 49, 50, 51, 52, 53, 54, 55, 56] (by decide +kernel) (by decide +kernel)
set_option maxRecDepth 20000 in
theorem ggL_tryPoint_X6_point_p3 : GoodIn wsL_tryPoint wsX6_point_r3 := goodIn_r _ [57, 58, 59, 60, 61, 62, 63, 64, 65, 66, 67, 68, 69, 70, 71, 72, 73, 74, 75, 76, 77, 78, 79, 80] (by decide +kernel) (by decide +kernel)
set_option maxRecDepth 20000 in
theorem ggL_tryPoint_X6_point_p4 : GoodIn wsL_tryPoint wsX6_point_r4 := goodIn_r _ [81, 82, 83, 84, 85, 86, 87, 88, 89, 90, 91, 92, 93, 94, 95, 96, 97, 98, 99, 100, 101, 102, 103, 104] (by decide +kernel) (by decide +kernel)
set_option maxRecDepth 20000 in
theorem ggL_tryPoint_X6_point_p5 : GoodIn wsL_tryPoint wsX6_point_r5 := goodIn_r _ [105, 106, 107, 108, 109, 110, 111, 112, 113, 114, 115, 116, 117, 118, 119, 120, 121, 122, 123, 124, 125, 126, 127, 128] (by decide +kernel) (by decide +kernel)
set_option maxRecDepth 20000 in
theorem ggL_tryPoint_X6_point_p6 : GoodIn wsL_tryPoint wsX6_point_r6 := goodIn_r _ [129, 130, 131, 132, 133, 134, 135, 136, 137, 138, 139, 140, 141, 142, 143] (by decide +kernel) (by decide +kernel)
set_option maxRecDepth 20000 in
theorem ggL_tryPoint_X6_point_p7 : GoodIn wsL_tryPoint wsX60 := goodIn_r _ [144, 145, 146, 147, 148, 149] (by decide +kernel) (by decide +kernel)
set_option maxRecDepth 20000 in
theorem ggL_tryPoint_X6_point_p8 : GoodIn wsL_tryPoint wsX40 := goodIn_r _ [150, 151, 152, 153, 154, 155] (by decide +kernel) (by decide +kernel)
set_option maxRecDepth 20000 in
theorem ggL_tryPoint_X6_point_p9 : GoodIn wsL_tryPoint wsX10 := goodIn_r _ [156, 157, 158] (by decide +kernel) (by decide +kernel)
set_option maxRecDepth 20000 in
theorem ggL_tryPoint_X6_point_p10 : GoodIn wsL_tryPoint wsX30 := goodIn_r _ [159] (by decide +kernel) (by decide +kernel)
set_option maxRecDepth 20000 in
theorem ggL_tryPoint_X6_point_p11 : GoodIn wsL_tryPoint wsX00 := goodIn_r _ [160, 161, 162, 163, 164] (by decide +kernel) (by decide +kernel)
set_option maxRecDepth 20000 in
theorem ggL_tryPoint_X6_point : GoodIn wsL_tryPoint wsX6_point := goodIn_ca (goodIn_ca (goodIn_c2 ggL_tryPoint_X6_point_p0 (goodIn_app (goodIn_app (goodIn_app (goodIn_app (goodIn_app (goodIn_app ggL_tryPoint_X6_point_p1 (goodIn_app ggL_tryPoint_X6_point_p2 (goodIn_app ggL_tryPoint_X6_point_p3 (goodIn_app ggL_tryPoint_X6_point_p4 (goodIn_app ggL_tryPoint_X6_point_p5 ggL_tryPoint_X6_point_p6))))) ggL_tryPoint_X6_point_p7) ggL_tryPoint_X6_point_p8) ggL_tryPoint_X6_point_p9) ggL_tryPoint_X6_point_p10) ggL_tryPoint_X6_point_p11)) (goodIn_sub (fun _ h => List.mem_cons_of_mem _ (List.mem_append_left _ (List.mem_append_right _ h))) (by decide +kernel))) (goodIn_sub (fun _ h => List.mem_cons_of_mem _ (List.mem_append_right _ h)) (by decide +kernel))
set_option maxRecDepth 20000 in
theorem gL_tryPoint_X6_point : GoodIn wsL_tryPoint (wsV RL 49 RX6 yX6_point wsX6_point) := goodIn_app (goodIn_of _ (by decide +kernel)) ggL_tryPoint_X6_point
theorem dL_tryPoint_0 : decode cL_tryPoint 0 = .ok (.aload_n 0, 1) := by decide +kernel
theorem dL_tryPoint_1 : decode cL_tryPoint 1 = .ok (.iload_n 1, 1) := by decide +kernel
theorem dL_tryPoint_2 : decode cL_tryPoint 2 = .ok (.iload_n 2, 1) := by decide +kernel
theorem dL_tryPoint_3 : decode cL_tryPoint 3 = .ok (.invokevirtual 49, 3) := by decide +kernel
theorem dL_tryPoint_6 : decode cL_tryPoint 6 = .ok (.ireturn, 1) := by decide +kernel
theorem dL_tryPoint_7 : decode cL_tryPoint 7 = .ok (.astore_n 3, 1) := by decide +kernel
theorem dL_tryPoint_8 : decode cL_tryPoint 8 = .ok (.ldc 15, 2) := by decide +kernel
theorem dL_tryPoint_10 : decode cL_tryPoint 10 = .ok (.ireturn, 1) := by decide +kernel
theorem dL_tryPoint_11 : decode cL_tryPoint 11 = .ok (.astore_n 3, 1) := by decide +kernel
theorem dL_tryPoint_12 : decode cL_tryPoint 12 = .ok (.ldc 26, 2) := by decide +kernel
theorem dL_tryPoint_14 : decode cL_tryPoint 14 = .ok (.ireturn, 1) := by decide +kernel
set_option maxRecDepth 20000 in
theorem ggL_tryDraw_X6_draw_p0 : GoodIn wsL_tryDraw [.code yX6_draw cX6_draw 1 (some .int)] := goodIn_r _ [7] (by decide +kernel) (by decide +kernel)
set_option maxRecDepth 20000 in
theorem ggL_tryDraw_X6_draw_p1 : GoodIn wsL_tryDraw wsX6_draw_r1 := goodIn_r _ [8, 9, 10, 11, 12, 13, 14, 15, 16, 17, 18, 19, 20, 21, 22, 6, 23, 24, 25, 26, 27, 28, 29, 30] (by decide +kernel) (by decide +kernel)
set_option maxRecDepth 20000 in
theorem ggL_tryDraw_X6_draw_p2 : GoodIn wsL_tryDraw wsX6_draw_r2 := goodIn_r _ [31, 32, 33, 34, 35, 36, 37, 38, 39, 40, 41, 42, 43, 44, 45, 46, 47, 48, 49, 50, 51, 52, 53, 54] (by decide +kernel) (by decide +kernel)
set_option maxRecDepth 20000 in
theorem ggL_tryDraw_X6_draw_p3 : GoodIn wsL_tryDraw wsX6_draw_r3 := goodIn_r _ [55, 56, 57, 58, 59, 60, 61, 62, 63, 64, 65, 66, 67, 68, 69, 70, 71, 72, 73, 74, 75, 76, 77, 78] (by decide +kernel) (by decide +kernel)
set_option maxRecDepth 20000 in
theorem ggL_tryDraw_X6_draw_p4 : GoodIn wsL_tryDraw wsX6_draw_r4 := goodIn_r _ [79, 80, 81, 82, 83, 84, 85, 86, 87, 88, 89, 90, 91, 92, 93, 94, 95, 96, 97, 98, 99, 100, 101, 102] (by decide +kernel) (by decide +kernel)
set_option maxRecDepth 20000 in
theorem ggL_tryDraw_X6_draw_p5 : GoodIn wsL_tryDraw wsX6_draw_r5 := goodIn_r _ [103, 104, 105, 106, 107, 108, 109, 110, 111, 112, 113, 114, 115, 116, 117, 118, 119, 120, 121, 122, 123, 124, 125, 126] (by decide +kernel) (by decide +kernel)
set_option maxRecDepth 20000 in
theorem ggL_tryDraw_X6_draw_p6 : GoodIn wsL_tryDraw wsX6_draw_r6 := goodIn_r _ [127, 128, 129, 130, 131, 132, 133, 134, 135, 136, 137, 138, 139, 140, 141, 142, 143, 144, 145, 146, 147, 148, 149, 150] (by decide +kernel) (by decide +kernel)
set_option maxRecDepth 20000 in
theorem ggL_tryDraw_X6_draw_p7 : GoodIn wsL_tryDraw wsX6_draw_r7 := goodIn_r _ [151, 152, 153, 154, 155, 156, 157, 158, 159, 160, 161, 162, 163, 164, 165, 166, 167, 168, 169, 170, 171] (by decide +kernel) (by decide +kernel)
set_option maxRecDepth 20000 in
theorem ggL_tryDraw_X6_draw_p8 : GoodIn wsL_tryDraw wsX60 := goodIn_r _ [172, 173, 174, 175, 176, 177] (by decide +kernel) (by decide +kernel)
set_option maxRecDepth 20000 in
theorem ggL_tryDraw_X6_draw_p9 : GoodIn wsL_tryDraw wsX40 := goodIn_r _ [178, 179, 180, 181, 182, 183] (by decide +kernel) (by decide +kernel)
set_option maxRecDepth 20000 in
theorem ggL_tryDraw_X6_draw_p10 : GoodIn wsL_tryDraw wsX50 := goodIn_r _ [184, 185] (by decide +kernel) (by decide +kernel)
set_option maxRecDepth 20000 in
theorem ggL_tryDraw_X6_draw_p11 : GoodIn wsL_tryDraw wsX00 := goodIn_r _ [186, 187, 188, 189, 190] (by decide +kernel) (by decide +kernel)
set_option maxRecDepth 20000 in
theorem ggL_tryDraw_X6_draw_p12 : GoodIn wsL_tryDraw wsX10 := goodIn_r _ [191, 192, 193] (by decide +kernel) (by decide +kernel)
set_option maxRecDepth 20000 in
theorem ggL_tryDraw_X6_draw_p13 : GoodIn wsL_tryDraw wsX30 := goodIn_r _ [194] (by decide +kernel) (by decide +kernel)
set_option maxRecDepth 20000 in
theorem ggL_tryDraw_X6_draw : GoodIn wsL_tryDraw wsX6_draw := goodIn_ca (goodIn_c2 ggL_tryDraw_X6_draw_p0 (goodIn_app (goodIn_app (goodIn_app (goodIn_app (goodIn_app (goodIn_app (goodIn_app ggL_tryDraw_X6_draw_p1 (goodIn_app ggL_tryDraw_X6_draw_p2 (goodIn_app ggL_tryDraw_X6_draw_p3 (goodIn_app ggL_tryDraw_X6_draw_p4 (goodIn_app ggL_tryDraw_X6_draw_p5 (goodIn_app ggL_tryDraw_X6_draw_p6 ggL_tryDraw_X6_draw_p7)))))) ggL_tryDraw_X6_draw_p8) ggL_tryDraw_X6_draw_p9) ggL_tryDraw_X6_draw_p10) ggL_tryDraw_X6_draw_p11) ggL_tryDraw_X6_draw_p12) ggL_tryDraw_X6_draw_p13)) (goodIn_sub (fun _ h => List.mem_cons_of_mem _ (List.mem_append_right _ h)) (by decide +kernel))
set_option maxRecDepth 20000 in
theorem gL_tryDraw_X6_draw : GoodIn wsL_tryDraw (wsV RL 52 RX6 yX6_draw wsX6_draw) := goodIn_app (goodIn_of _ (by decide +kernel)) ggL_tryDraw_X6_draw
theorem dL_tryDraw_0 : decode cL_tryDraw 0 = .ok (.aload_n 0, 1) := by decide +kernel
theorem dL_tryDraw_1 : decode cL_tryDraw 1 = .ok (.invokevirtual 52, 3) := by decide +kernel
theorem dL_tryDraw_4 : decode cL_tryDraw 4 = .ok (.ireturn, 1) := by decide +kernel
theorem dL_tryDraw_5 : decode cL_tryDraw 5 = .ok (.astore_n 1, 1) := by decide +kernel
theorem dL_tryDraw_6 : decode cL_tryDraw 6 = .ok (.ldc 26, 2) := by decide +kernel
theorem dL_tryDraw_8 : decode cL_tryDraw 8 = .ok (.ireturn, 1) := by decide +kernel
set_option maxRecDepth 20000 in
theorem ggL_tryLearn_X6_learn_p0 : GoodIn wsL_tryLearn [.code yX6_learn cX6_learn 2 (some .int)] := goodIn_r _ [9] (by decide +kernel) (by decide +kernel)
set_option maxRecDepth 20000 in
theorem ggL_tryLearn_X6_learn_p1 : GoodIn wsL_tryLearn wsX6_learn_r1 := goodIn_r _ [10, 11, 12, 13, 14, 15, 16, 17, 18, 8, 19, 20, 21, 22, 23, 24, 25, 26, 27, 28, 29, 30, 31, 32] (by decide +kernel) (by decide +kernel)
set_option maxRecDepth 20000 in
theorem ggL_tryLearn_X6_learn_p2 : GoodIn wsL_tryLearn wsX6_learn_r2 := goodIn_r _ [33, 34, 35, 36, 37, 38, 39, 40, 41, 42, 43, 44, 45, 46, 47, 48, 49, 50, 51, 52, 53, 54, 55, 56] (by decide +kernel) (by decide +kernel)
set_option maxRecDepth 20000 in
theorem ggL_tryLearn_X6_learn_p3 : GoodIn wsL_tryLearn wsX6_learn_r3 := goodIn_r _ [57, 58, 59, 60, 61, 62, 63, 64, 65, 66, 67, 68, 69, 70, 71, 72, 73, 74, 75, 76, 77, 78, 79, 80] (by decide +kernel) (by decide +kernel)
set_option maxRecDepth 20000 in
theorem ggL_tryLearn_X6_learn_p4 : GoodIn wsL_tryLearn wsX6_learn_r4 := goodIn_r _ [81, 82, 83, 84, 85, 86, 87, 88, 89, 90, 91, 92, 93, 94, 95, 96, 97, 98, 99, 100, 101, 102, 103, 104] (by decide +kernel) (by decide +kernel)
set_option maxRecDepth 20000 in
theorem ggL_tryLearn_X6_learn_p5 : GoodIn wsL_tryLearn wsX6_learn_r5 := goodIn_r _ [105, 106, 107, 108, 109, 110, 111, 112, 113, 114, 115, 116, 117, 118, 119, 120, 121, 122, 123, 124, 125, 126, 127, 128] (by decide +kernel) (by decide +kernel)
set_option maxRecDepth 20000 in
theorem ggL_tryLearn_X6_learn_p6 : GoodIn wsL_tryLearn wsX60 := goodIn_r _ [129, 130, 131, 132, 133, 134] (by decide +kernel) (by decide +kernel)
set_option maxRecDepth 20000 in
theorem ggL_tryLearn_X6_learn_p7 : GoodIn wsL_tryLearn wsX40 := goodIn_r _ [135, 136, 137, 138, 139, 140] (by decide +kernel) (by decide +kernel)
set_option maxRecDepth 20000 in
theorem ggL_tryLearn_X6_learn_p8 : GoodIn wsL_tryLearn wsX10 := goodIn_r _ [141, 142, 143] (by decide +kernel) (by decide +kernel)
set_option maxRecDepth 20000 in
theorem ggL_tryLearn_X6_learn_p9 : GoodIn wsL_tryLearn wsX30 := goodIn_r _ [144] (by decide +kernel) (by decide +kernel)
set_option maxRecDepth 20000 in
theorem ggL_tryLearn_X6_learn_p10 : GoodIn wsL_tryLearn wsX00 := goodIn_r _ [145, 146, 147, 148, 149] (by decide +kernel) (by decide +kernel)
set_option maxRecDepth 20000 in
theorem ggL_tryLearn_X6_learn : GoodIn wsL_tryLearn wsX6_learn := goodIn_ca (goodIn_ca (goodIn_c2 ggL_tryLearn_X6_learn_p0 (goodIn_app (goodIn_app (goodIn_app (goodIn_app (goodIn_app (goodIn_app ggL_tryLearn_X6_learn_p1 (goodIn_app ggL_tryLearn_X6_learn_p2 (goodIn_app ggL_tryLearn_X6_learn_p3 (goodIn_app ggL_tryLearn_X6_learn_p4 ggL_tryLearn_X6_learn_p5)))) ggL_tryLearn_X6_learn_p6) ggL_tryLearn_X6_learn_p7) ggL_tryLearn_X6_learn_p8) ggL_tryLearn_X6_learn_p9) ggL_tryLearn_X6_learn_p10)) (goodIn_sub (fun _ h => List.mem_cons_of_mem _ (List.mem_append_left _ (List.mem_append_right _ h))) (by decide +kernel))) (goodIn_sub (fun _ h => List.mem_cons_of_mem _ (List.mem_append_right _ h)) (by decide +kernel))
set_option maxRecDepth 20000 in
theorem gL_tryLearn_X6_learn : GoodIn wsL_tryLearn (wsV RL 56 RX6 yX6_learn wsX6_learn) := goodIn_app (goodIn_of _ (by decide +kernel)) ggL_tryLearn_X6_learn
theorem dL_tryLearn_0 : decode cL_tryLearn 0 = .ok (.aload_n 0, 1) := by decide +kernel
theorem dL_tryLearn_1 : decode cL_tryLearn 1 = .ok (.iload_n 1, 1) := by decide +kernel
theorem dL_tryLearn_2 : decode cL_tryLearn 2 = .ok (.invokevirtual 56, 3) := by decide +kernel
theorem dL_tryLearn_5 : decode cL_tryLearn 5 = .ok (.ireturn, 1) := by decide +kernel
theorem dL_tryLearn_6 : decode cL_tryLearn 6 = .ok (.astore_n 2, 1) := by decide +kernel
theorem dL_tryLearn_7 : decode cL_tryLearn 7 = .ok (.ldc 15, 2) := by decide +kernel
theorem dL_tryLearn_9 : decode cL_tryLearn 9 = .ok (.ireturn, 1) := by decide +kernel
theorem dL_tryLearn_10 : decode cL_tryLearn 10 = .ok (.astore_n 2, 1) := by decide +kernel
theorem dL_tryLearn_11 : decode cL_tryLearn 11 = .ok (.ldc 26, 2) := by decide +kernel
theorem dL_tryLearn_13 : decode cL_tryLearn 13 = .ok (.ireturn, 1) := by decide +kernel
set_option maxRecDepth 20000 in
theorem ggL_tryForget_X6_forget_p0 : GoodIn wsL_tryForget [.code yX6_forget cX6_forget 2 (some .int)] := goodIn_r _ [7] (by decide +kernel) (by decide +kernel)
set_option maxRecDepth 20000 in
theorem ggL_tryForget_X6_forget_p1 : GoodIn wsL_tryForget wsX6_forget_r1 := goodIn_r _ [8, 9, 10, 11, 12, 13, 14, 15, 16, 17, 18, 19, 20, 21, 22, 23, 24, 25, 26, 27, 28, 29, 30, 31] (by decide +kernel) (by decide +kernel)
set_option maxRecDepth 20000 in
theorem ggL_tryForget_X6_forget_p2 : GoodIn wsL_tryForget wsX6_forget_r2 := goodIn_r _ [32, 33, 34, 35, 36, 37, 38, 39, 40, 41, 42, 43, 44, 45, 46, 47, 48, 49, 50, 51, 52, 53, 54, 55] (by decide +kernel) (by decide +kernel)
set_option maxRecDepth 20000 in
theorem ggL_tryForget_X6_forget_p3 : GoodIn wsL_tryForget wsX6_forget_r3 := goodIn_r _ [56, 57, 58, 59, 60, 6, 61, 62, 63, 64, 65, 66, 67, 68, 69, 70, 71, 72, 73, 74, 75, 76, 77, 78] (by decide +kernel) (by decide +kernel)
set_option maxRecDepth 20000 in
theorem ggL_tryForget_X6_forget_p4 : GoodIn wsL_tryForget wsX6_forget_r4 := goodIn_r _ [79, 80, 81, 82, 83, 84, 85, 86, 87, 88, 89, 90, 91, 92, 93, 94, 95, 96, 97] (by decide +kernel) (by decide +kernel)
set_option maxRecDepth 20000 in
theorem ggL_tryForget_X6_forget_p5 : GoodIn wsL_tryForget wsX60 := goodIn_r _ [98, 99, 100, 101, 102, 103] (by decide +kernel) (by decide +kernel)
set_option maxRecDepth 20000 in
theorem ggL_tryForget_X6_forget_p6 : GoodIn wsL_tryForget wsX40 := goodIn_r _ [104, 105, 106, 107, 108, 109] (by decide +kernel) (by decide +kernel)
set_option maxRecDepth 20000 in
theorem ggL_tryForget_X6_forget_p7 : GoodIn wsL_tryForget wsX10 := goodIn_r _ [110, 111, 112] (by decide +kernel) (by decide +kernel)
set_option maxRecDepth 20000 in
theorem ggL_tryForget_X6_forget_p8 : GoodIn wsL_tryForget wsX30 := goodIn_r _ [113] (by decide +kernel) (by decide +kernel)
set_option maxRecDepth 20000 in
theorem ggL_tryForget_X6_forget_p9 : GoodIn wsL_tryForget wsX00 := goodIn_r _ [114, 115, 116, 117, 118] (by decide +kernel) (by decide +kernel)
set_option maxRecDepth 20000 in
theorem ggL_tryForget_X6_forget : GoodIn wsL_tryForget wsX6_forget := goodIn_ca (goodIn_c2 ggL_tryForget_X6_forget_p0 (goodIn_app (goodIn_app (goodIn_app (goodIn_app (goodIn_app (goodIn_app ggL_tryForget_X6_forget_p1 (goodIn_app ggL_tryForget_X6_forget_p2 (goodIn_app ggL_tryForget_X6_forget_p3 ggL_tryForget_X6_forget_p4))) ggL_tryForget_X6_forget_p5) ggL_tryForget_X6_forget_p6) ggL_tryForget_X6_forget_p7) ggL_tryForget_X6_forget_p8) ggL_tryForget_X6_forget_p9)) (goodIn_sub (fun _ h => List.mem_cons_of_mem _ (List.mem_append_right _ h)) (by decide +kernel))
set_option maxRecDepth 20000 in
theorem gL_tryForget_X6_forget : GoodIn wsL_tryForget (wsV RL 59 RX6 yX6_forget wsX6_forget) := goodIn_app (goodIn_of _ (by decide +kernel)) ggL_tryForget_X6_forget
theorem dL_tryForget_0 : decode cL_tryForget 0 = .ok (.aload_n 0, 1) := by decide +kernel
theorem dL_tryForget_1 : decode cL_tryForget 1 = .ok (.iload_n 1, 1) := by decide +kernel
theorem dL_tryForget_2 : decode cL_tryForget 2 = .ok (.invokevirtual 59, 3) := by decide +kernel
theorem dL_tryForget_5 : decode cL_tryForget 5 = .ok (.ireturn, 1) := by decide +kernel
theorem dL_tryForget_6 : decode cL_tryForget 6 = .ok (.astore_n 2, 1) := by decide +kernel
theorem dL_tryForget_7 : decode cL_tryForget 7 = .ok (.ldc 39, 2) := by decide +kernel
theorem dL_tryForget_9 : decode cL_tryForget 9 = .ok (.ireturn, 1) := by decide +kernel
set_option maxRecDepth 20000 in
theorem ggL_tryPractise_X6_practise_p0 : GoodIn wsL_tryPractise [.code yX6_practise cX6_practise 3 (some .int)] := goodIn_r _ [9] (by decide +kernel) (by decide +kernel)
set_option maxRecDepth 20000 in
theorem ggL_tryPractise_X6_practise_p1 : GoodIn wsL_tryPractise wsX6_practise_r1 := goodIn_r _ [10, 11, 12, 13, 14, 15, 16, 17, 8, 18, 19, 20, 21, 22, 23, 24, 25, 26, 27, 28, 29, 30, 31, 32] (by decide +kernel) (by decide +kernel)
set_option maxRecDepth 20000 in
theorem ggL_tryPractise_X6_practise_p2 : GoodIn wsL_tryPractise wsX6_practise_r2 := goodIn_r _ [33, 34, 35, 36, 37, 38, 39, 40, 41, 42, 43, 44, 45, 46, 47, 48, 49, 50, 51, 52, 53, 54, 55, 56] (by decide +kernel) (by decide +kernel)
set_option maxRecDepth 20000 in
theorem ggL_tryPractise_X6_practise_p3 : GoodIn wsL_tryPractise wsX6_practise_r3 := goodIn_r _ [57, 58, 59, 60, 61, 62, 63, 64, 65, 66, 67, 68, 69, 70, 71, 72, 73, 74, 75, 76, 77, 78, 79, 80] (by decide +kernel) (by decide +kernel)
set_option maxRecDepth 20000 in
theorem ggL_tryPractise_X6_practise_p4 : GoodIn wsL_tryPractise wsX6_practise_r4 := goodIn_r _ [81, 82, 83, 84, 85, 86, 87, 88, 89, 90, 91, 92, 93, 94, 95, 96, 97, 98, 99, 100, 101, 102, 103, 104] (by decide +kernel) (by decide +kernel)
set_option maxRecDepth 20000 in
theorem ggL_tryPractise_X6_practise_p5 : GoodIn wsL_tryPractise wsX6_practise_r5 := goodIn_r _ [105, 106, 107, 108, 109, 110, 111, 112, 113, 114, 115, 116, 117, 118, 119, 120, 121, 122, 123, 124, 125, 126, 127, 128] (by decide +kernel) (by decide +kernel)
set_option maxRecDepth 20000 in
theorem ggL_tryPractise_X6_practise_p6 : GoodIn wsL_tryPractise wsX6_practise_r6 := goodIn_r _ [129, 130, 131, 132, 133, 134, 135, 136, 137, 138, 139, 140, 141, 142, 143, 144, 145, 146, 147, 148, 149, 150, 151, 152] (by decide +kernel) (by decide +kernel)
set_option maxRecDepth 20000 in
theorem ggL_tryPractise_X6_practise_p7 : GoodIn wsL_tryPractise wsX6_practise_r7 := goodIn_r _ [153, 154, 155, 156, 157, 158, 159, 160] (by decide +kernel) (by decide +kernel)
set_option maxRecDepth 20000 in
theorem ggL_tryPractise_X6_practise_p8 : GoodIn wsL_tryPractise wsX60 := goodIn_r _ [161, 162, 163, 164, 165, 166] (by decide +kernel) (by decide +kernel)
set_option maxRecDepth 20000 in
theorem ggL_tryPractise_X6_practise_p9 : GoodIn wsL_tryPractise wsX10 := goodIn_r _ [167, 168, 169] (by decide +kernel) (by decide +kernel)
set_option maxRecDepth 20000 in
theorem ggL_tryPractise_X6_practise_p10 : GoodIn wsL_tryPractise wsX30 := goodIn_r _ [170] (by decide +kernel) (by decide +kernel)
set_option maxRecDepth 20000 in
theorem ggL_tryPractise_X6_practise_p11 : GoodIn wsL_tryPractise wsX40 := goodIn_r _ [171, 172, 173, 174, 175, 176] (by decide +kernel) (by decide +kernel)
set_option maxRecDepth 20000 in
theorem ggL_tryPractise_X6_practise_p12 : GoodIn wsL_tryPractise wsX00 := goodIn_r _ [177, 178, 179, 180, 181] (by decide +kernel) (by decide +kernel)
set_option maxRecDepth 20000 in
theorem ggL_tryPractise_X6_practise_p13 : GoodIn wsL_tryPractise wsX20 := goodIn_r _ [182, 183, 184, 185, 186, 187] (by decide +kernel) (by decide +kernel)
set_option maxRecDepth 20000 in
theorem ggL_tryPractise_X6_practise : GoodIn wsL_tryPractise wsX6_practise := goodIn_ca (goodIn_ca (goodIn_c2 ggL_tryPractise_X6_practise_p0 (goodIn_app (goodIn_app (goodIn_app (goodIn_app (goodIn_app (goodIn_app (goodIn_app ggL_tryPractise_X6_practise_p1 (goodIn_app ggL_tryPractise_X6_practise_p2 (goodIn_app ggL_tryPractise_X6_practise_p3 (goodIn_app ggL_tryPractise_X6_practise_p4 (goodIn_app ggL_tryPractise_X6_practise_p5 (goodIn_app ggL_tryPractise_X6_practise_p6 ggL_tryPractise_X6_practise_p7)))))) ggL_tryPractise_X6_practise_p8) ggL_tryPractise_X6_practise_p9) ggL_tryPractise_X6_practise_p10) ggL_tryPractise_X6_practise_p11) ggL_tryPractise_X6_practise_p12) ggL_tryPractise_X6_practise_p13)) (goodIn_sub (fun _ h => List.mem_cons_of_mem _ (List.mem_append_left _ (List.mem_append_right _ h))) (by decide +kernel))) (goodIn_sub (fun _ h => List.mem_cons_of_mem _ (List.mem_append_right _ h)) (by decide +kernel))
