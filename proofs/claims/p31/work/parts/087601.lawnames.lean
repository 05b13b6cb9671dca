set_option maxRecDepth 20000 in
theorem gL_tryPractise_X6_practise : GoodIn wsL_tryPractise (wsV RL 62 RX6 yX6_practise wsX6_practise) := goodIn_app (goodIn_of _ (by decide +kernel)) ggL_tryPractise_X6_practise
theorem dL_tryPractise_0 : decode cL_tryPractise 0 = .ok (.aload_n 0, 1) := by decide +kernel
theorem dL_tryPractise_1 : decode cL_tryPractise 1 = .ok (.iload_n 1, 1) := by decide +kernel
theorem dL_tryPractise_2 : decode cL_tryPractise 2 = .ok (.invokevirtual 62, 3) := by decide +kernel
theorem dL_tryPractise_5 : decode cL_tryPractise 5 = .ok (.ireturn, 1) := by decide +kernel
theorem dL_tryPractise_6 : decode cL_tryPractise 6 = .ok (.astore_n 2, 1) := by decide +kernel
theorem dL_tryPractise_7 : decode cL_tryPractise 7 = .ok (.ldc 15, 2) := by decide +kernel
theorem dL_tryPractise_9 : decode cL_tryPractise 9 = .ok (.ireturn, 1) := by decide +kernel
theorem dL_tryPractise_10 : decode cL_tryPractise 10 = .ok (.astore_n 2, 1) := by decide +kernel
theorem dL_tryPractise_11 : decode cL_tryPractise 11 = .ok (.ldc 26, 2) := by decide +kernel
theorem dL_tryPractise_13 : decode cL_tryPractise 13 = .ok (.ireturn, 1) := by decide +kernel
set_option maxRecDepth 20000 in
theorem ggL_trySet_X6_set_p0 : GoodIn wsL_trySet [.code yX6_set cX6_set 4 (some .int)] := goodIn_r _ [9] (by decide +kernel) (by decide +kernel)
set_option maxRecDepth 20000 in
theorem ggL_trySet_X6_set_p1 : GoodIn wsL_trySet wsX6_set_r1 := goodIn_r _ [10, 11, 12, 13, 14, 15, 16, 17, 8, 18, 19, 20, 21, 22, 23, 24, 25, 26, 27, 28, 29, 30, 31, 32] (by decide +kernel) (by decide +kernel)
set_option maxRecDepth 20000 in
theorem ggL_trySet_X6_set_p2 : GoodIn wsL_trySet wsX6_set_r2 := goodIn_r _ [33, 34, 35, 36, 37, 38, 39, 40, 41, 42, 43, 44, 45, 46, 47, 48, 49, 50, 51, 52, 53, 54, 55, 56] (by decide +kernel) (by decide +kernel)
set_option maxRecDepth 20000 in
theorem ggL_trySet_X6_set_p3 : GoodIn wsL_trySet wsX6_set_r3 := goodIn_r _ [57, 58, 59, 60, 61, 62, 63, 64, 65, 66, 67, 68, 69, 70, 71, 72, 73, 74, 75, 76, 77, 78, 79, 80] (by decide +kernel) (by decide +kernel)
set_option maxRecDepth 20000 in
theorem ggL_trySet_X6_set_p4 : GoodIn wsL_trySet wsX6_set_r4 := goodIn_r _ [81, 82, 83, 84, 85, 86, 87, 88, 89, 90, 91, 92, 93, 94, 95, 96, 97, 98, 99, 100, 101, 102, 103, 104] (by decide +kernel) (by decide +kernel)
set_option maxRecDepth 20000 in
theorem ggL_trySet_X6_set_p5 : GoodIn wsL_trySet wsX6_set_r5 := goodIn_r _ [105, 106, 107, 108, 109, 110, 111, 112, 113, 114, 115, 116, 117, 118, 119, 120, 121, 122, 123, 124, 125, 126, 127, 128] (by decide +kernel) (by decide +kernel)
set_option maxRecDepth 20000 in
theorem ggL_trySet_X6_set_p6 : GoodIn wsL_trySet wsX6_set_r6 := goodIn_r _ [129, 130, 131, 132, 133, 134, 135, 136, 137, 138, 139, 140, 141, 142, 143, 144] (by decide +kernel) (by decide +kernel)
set_option maxRecDepth 20000 in
theorem ggL_trySet_X6_set_p7 : GoodIn wsL_trySet wsX60 := goodIn_r _ [145, 146, 147, 148, 149, 150] (by decide +kernel) (by decide +kernel)
set_option maxRecDepth 20000 in
theorem ggL_trySet_X6_set_p8 : GoodIn wsL_trySet wsX40 := goodIn_r _ [151, 152, 153, 154, 155, 156] (by decide +kernel) (by decide +kernel)
set_option maxRecDepth 20000 in
theorem ggL_trySet_X6_set_p9 : GoodIn wsL_trySet wsX10 := goodIn_r _ [157, 158, 159] (by decide +kernel) (by decide +kernel)
set_option maxRecDepth 20000 in
theorem ggL_trySet_X6_set_p10 : GoodIn wsL_trySet wsX30 := goodIn_r _ [160] (by decide +kernel) (by decide +kernel)
set_option maxRecDepth 20000 in
theorem ggL_trySet_X6_set_p11 : GoodIn wsL_trySet wsX00 := goodIn_r _ [161, 162, 163, 164, 165] (by decide +kernel) (by decide +kernel)
set_option maxRecDepth 20000 in
theorem ggL_trySet_X6_set : GoodIn wsL_trySet wsX6_set := goodIn_ca (goodIn_ca (goodIn_c2 ggL_trySet_X6_set_p0 (goodIn_app (goodIn_app (goodIn_app (goodIn_app (goodIn_app (goodIn_app ggL_trySet_X6_set_p1 (goodIn_app ggL_trySet_X6_set_p2 (goodIn_app ggL_trySet_X6_set_p3 (goodIn_app ggL_trySet_X6_set_p4 (goodIn_app ggL_trySet_X6_set_p5 ggL_trySet_X6_set_p6))))) ggL_trySet_X6_set_p7) ggL_trySet_X6_set_p8) ggL_trySet_X6_set_p9) ggL_trySet_X6_set_p10) ggL_trySet_X6_set_p11)) (goodIn_sub (fun _ h => List.mem_cons_of_mem _ (List.mem_append_left _ (List.mem_append_right _ h))) (by decide +kernel))) (goodIn_sub (fun _ h => List.mem_cons_of_mem _ (List.mem_append_right _ h)) (by decide +kernel))
set_option maxRecDepth 20000 in
theorem gL_trySet_X6_set : GoodIn wsL_trySet (wsV RL 65 RX6 yX6_set wsX6_set) := goodIn_app (goodIn_of _ (by decide +kernel)) ggL_trySet_X6_set
theorem dL_trySet_0 : decode cL_trySet 0 = .ok (.aload_n 0, 1) := by decide +kernel
theorem dL_trySet_1 : decode cL_trySet 1 = .ok (.iload_n 1, 1) := by decide +kernel
theorem dL_trySet_2 : decode cL_trySet 2 = .ok (.iload_n 2, 1) := by decide +kernel
theorem dL_trySet_3 : decode cL_trySet 3 = .ok (.invokevirtual 65, 3) := by decide +kernel
theorem dL_trySet_6 : decode cL_trySet 6 = .ok (.ireturn, 1) := by decide +kernel
theorem dL_trySet_7 : decode cL_trySet 7 = .ok (.astore_n 3, 1) := by decide +kernel
theorem dL_trySet_8 : decode cL_trySet 8 = .ok (.ldc 15, 2) := by decide +kernel
theorem dL_trySet_10 : decode cL_trySet 10 = .ok (.ireturn, 1) := by decide +kernel
theorem dL_trySet_11 : decode cL_trySet 11 = .ok (.astore_n 3, 1) := by decide +kernel
theorem dL_trySet_12 : decode cL_trySet 12 = .ok (.ldc 26, 2) := by decide +kernel
theorem dL_trySet_14 : decode cL_trySet 14 = .ok (.ireturn, 1) := by decide +kernel
set_option maxRecDepth 20000 in
theorem ggL_tryUndo_X6_undo_p0 : GoodIn wsL_tryUndo [.code yX6_undo cX6_undo 2 (some .int)] := goodIn_r _ [7] (by decide +kernel) (by decide +kernel)
set_option maxRecDepth 20000 in
theorem ggL_tryUndo_X6_undo_p1 : GoodIn wsL_tryUndo wsX6_undo_r1 := goodIn_r _ [8, 9, 10, 11, 12, 13, 14, 15, 16, 17, 18, 19, 20, 21, 22, 23, 24, 25, 26, 27, 28, 29, 30, 31] (by decide +kernel) (by decide +kernel)
set_option maxRecDepth 20000 in
theorem ggL_tryUndo_X6_undo_p2 : GoodIn wsL_tryUndo wsX6_undo_r2 := goodIn_r _ [32, 33, 34, 35, 36, 37, 38, 39, 40, 41, 42, 43, 44, 45, 46, 47, 48, 6, 49, 50, 51, 52, 53, 54] (by decide +kernel) (by decide +kernel)
set_option maxRecDepth 20000 in
theorem ggL_tryUndo_X6_undo_p3 : GoodIn wsL_tryUndo wsX6_undo_r3 := goodIn_r _ [55, 56, 57, 58, 59, 60, 61] (by decide +kernel) (by decide +kernel)
set_option maxRecDepth 20000 in
theorem ggL_tryUndo_X6_undo_p4 : GoodIn wsL_tryUndo wsX60 := goodIn_r _ [62, 63, 64, 65, 66, 67] (by decide +kernel) (by decide +kernel)
set_option maxRecDepth 20000 in
theorem ggL_tryUndo_X6_undo_p5 : GoodIn wsL_tryUndo wsX10 := goodIn_r _ [68, 69, 70] (by decide +kernel) (by decide +kernel)
set_option maxRecDepth 20000 in
theorem ggL_tryUndo_X6_undo_p6 : GoodIn wsL_tryUndo wsX30 := goodIn_r _ [71] (by decide +kernel) (by decide +kernel)
set_option maxRecDepth 20000 in
theorem ggL_tryUndo_X6_undo_p7 : GoodIn wsL_tryUndo wsX40 := goodIn_r _ [72, 73, 74, 75, 76, 77] (by decide +kernel) (by decide +kernel)
set_option maxRecDepth 20000 in
theorem ggL_tryUndo_X6_undo_p8 : GoodIn wsL_tryUndo wsX00 := goodIn_r _ [78, 79, 80, 81, 82] (by decide +kernel) (by decide +kernel)
set_option maxRecDepth 20000 in
theorem ggL_tryUndo_X6_undo : GoodIn wsL_tryUndo wsX6_undo := goodIn_ca (goodIn_c2 ggL_tryUndo_X6_undo_p0 (goodIn_app (goodIn_app (goodIn_app (goodIn_app (goodIn_app (goodIn_app ggL_tryUndo_X6_undo_p1 (goodIn_app ggL_tryUndo_X6_undo_p2 ggL_tryUndo_X6_undo_p3)) ggL_tryUndo_X6_undo_p4) ggL_tryUndo_X6_undo_p5) ggL_tryUndo_X6_undo_p6) ggL_tryUndo_X6_undo_p7) ggL_tryUndo_X6_undo_p8)) (goodIn_sub (fun _ h => List.mem_cons_of_mem _ (List.mem_append_right _ h)) (by decide +kernel))
set_option maxRecDepth 20000 in
theorem gL_tryUndo_X6_undo : GoodIn wsL_tryUndo (wsV RL 68 RX6 yX6_undo wsX6_undo) := goodIn_app (goodIn_of _ (by decide +kernel)) ggL_tryUndo_X6_undo
theorem dL_tryUndo_0 : decode cL_tryUndo 0 = .ok (.aload_n 0, 1) := by decide +kernel
theorem dL_tryUndo_1 : decode cL_tryUndo 1 = .ok (.invokevirtual 68, 3) := by decide +kernel
theorem dL_tryUndo_4 : decode cL_tryUndo 4 = .ok (.ireturn, 1) := by decide +kernel
theorem dL_tryUndo_5 : decode cL_tryUndo 5 = .ok (.astore_n 1, 1) := by decide +kernel
theorem dL_tryUndo_6 : decode cL_tryUndo 6 = .ok (.ldc 26, 2) := by decide +kernel
theorem dL_tryUndo_8 : decode cL_tryUndo 8 = .ok (.ireturn, 1) := by decide +kernel
set_option maxRecDepth 20000 in
theorem ggL_tryRead_X6_read_p0 : GoodIn wsL_tryRead [.code yX6_read cX6_read 2 (some .int)] := goodIn_r _ [7] (by decide +kernel) (by decide +kernel)
set_option maxRecDepth 20000 in
theorem ggL_tryRead_X6_read_p1 : GoodIn wsL_tryRead wsX6_read_r1 := goodIn_r _ [8, 9, 10, 11, 12, 13, 14, 15, 16, 17, 18, 19, 20, 21, 22, 23, 24, 25, 26, 27, 28, 29, 30, 31] (by decide +kernel) (by decide +kernel)
set_option maxRecDepth 20000 in
theorem ggL_tryRead_X6_read_p2 : GoodIn wsL_tryRead wsX6_read_r2 := goodIn_r _ [32, 33, 34, 35, 36, 37, 38, 39, 40, 41, 42, 43, 6, 44, 45, 46, 47, 48, 49, 50, 51, 52, 53, 54] (by decide +kernel) (by decide +kernel)
set_option maxRecDepth 20000 in
theorem ggL_tryRead_X6_read_p3 : GoodIn wsL_tryRead wsX6_read_r3 := goodIn_r _ [55, 56, 57, 58, 59, 60, 61, 62, 63, 64, 65, 66, 67, 68, 69, 70, 71, 72, 73, 74, 75] (by decide +kernel) (by decide +kernel)
set_option maxRecDepth 20000 in
theorem ggL_tryRead_X6_read_p4 : GoodIn wsL_tryRead wsX60 := goodIn_r _ [76, 77, 78, 79, 80, 81] (by decide +kernel) (by decide +kernel)
set_option maxRecDepth 20000 in
theorem ggL_tryRead_X6_read_p5 : GoodIn wsL_tryRead wsX20 := goodIn_r _ [82, 83, 84, 85, 86, 87] (by decide +kernel) (by decide +kernel)
set_option maxRecDepth 20000 in
theorem ggL_tryRead_X6_read_p6 : GoodIn wsL_tryRead wsX40 := goodIn_r _ [88, 89, 90, 91, 92, 93] (by decide +kernel) (by decide +kernel)
set_option maxRecDepth 20000 in
theorem ggL_tryRead_X6_read_p7 : GoodIn wsL_tryRead wsX00 := goodIn_r _ [94, 95, 96, 97, 98] (by decide +kernel) (by decide +kernel)
set_option maxRecDepth 20000 in
theorem ggL_tryRead_X6_read : GoodIn wsL_tryRead wsX6_read := goodIn_ca (goodIn_c2 ggL_tryRead_X6_read_p0 (goodIn_app (goodIn_app (goodIn_app (goodIn_app (goodIn_app ggL_tryRead_X6_read_p1 (goodIn_app ggL_tryRead_X6_read_p2 ggL_tryRead_X6_read_p3)) ggL_tryRead_X6_read_p4) ggL_tryRead_X6_read_p5) ggL_tryRead_X6_read_p6) ggL_tryRead_X6_read_p7)) (goodIn_sub (fun _ h => List.mem_cons_of_mem _ (List.mem_append_right _ h)) (by decide +kernel))
set_option maxRecDepth 20000 in
theorem gL_tryRead_X6_read : GoodIn wsL_tryRead (wsV RL 71 RX6 yX6_read wsX6_read) := goodIn_app (goodIn_of _ (by decide +kernel)) ggL_tryRead_X6_read
theorem dL_tryRead_0 : decode cL_tryRead 0 = .ok (.aload_n 0, 1) := by decide +kernel
theorem dL_tryRead_1 : decode cL_tryRead 1 = .ok (.iload_n 1, 1) := by decide +kernel
theorem dL_tryRead_2 : decode cL_tryRead 2 = .ok (.invokevirtual 71, 3) := by decide +kernel
theorem dL_tryRead_5 : decode cL_tryRead 5 = .ok (.ireturn, 1) := by decide +kernel
theorem dL_tryRead_6 : decode cL_tryRead 6 = .ok (.astore_n 2, 1) := by decide +kernel
theorem dL_tryRead_7 : decode cL_tryRead 7 = .ok (.ldc 15, 2) := by decide +kernel
theorem dL_tryRead_9 : decode cL_tryRead 9 = .ok (.ireturn, 1) := by decide +kernel
set_option maxRecDepth 20000 in
theorem ggL_tryNearest_X6_nearest_p0 : GoodIn wsL_tryNearest [.code yX6_nearest cX6_nearest 2 (some .int)] := goodIn_r _ [7] (by decide +kernel) (by decide +kernel)
set_option maxRecDepth 20000 in
theorem ggL_tryNearest_X6_nearest_p1 : GoodIn wsL_tryNearest wsX6_nearest_r1 := goodIn_r _ [8, 9, 10, 11, 12, 13, 14, 15, 16, 17, 18, 19, 20, 21, 22, 23, 24, 25, 26, 27, 28, 29, 30, 31] (by decide +kernel) (by decide +kernel)
set_option maxRecDepth 20000 in
theorem ggL_tryNearest_X6_nearest_p2 : GoodIn wsL_tryNearest wsX6_nearest_r2 := goodIn_r _ [32, 33, 34, 35, 36, 37, 38, 39, 40, 41, 6, 42, 43, 44, 45, 46, 47, 48, 49, 50, 51, 52, 53, 54] (by decide +kernel) (by decide +kernel)
set_option maxRecDepth 20000 in
theorem ggL_tryNearest_X6_nearest_p3 : GoodIn wsL_tryNearest wsX6_nearest_r3 := goodIn_r _ [55, 56, 57, 58, 59, 60, 61, 62] (by decide +kernel) (by decide +kernel)
set_option maxRecDepth 20000 in
theorem ggL_tryNearest_X6_nearest_p4 : GoodIn wsL_tryNearest wsX60 := goodIn_r _ [63, 64, 65, 66, 67, 68] (by decide +kernel) (by decide +kernel)
set_option maxRecDepth 20000 in
theorem ggL_tryNearest_X6_nearest_p5 : GoodIn wsL_tryNearest wsX40 := goodIn_r _ [69, 70, 71, 72, 73, 74] (by decide +kernel) (by decide +kernel)
set_option maxRecDepth 20000 in
theorem ggL_tryNearest_X6_nearest_p6 : GoodIn wsL_tryNearest wsX20 := goodIn_r _ [75, 76, 77, 78, 79, 80] (by decide +kernel) (by decide +kernel)
set_option maxRecDepth 20000 in
theorem ggL_tryNearest_X6_nearest_p7 : GoodIn wsL_tryNearest wsX00 := goodIn_r _ [81, 82, 83, 84, 85] (by decide +kernel) (by decide +kernel)
set_option maxRecDepth 20000 in
theorem ggL_tryNearest_X6_nearest : GoodIn wsL_tryNearest wsX6_nearest := goodIn_ca (goodIn_c2 ggL_tryNearest_X6_nearest_p0 (goodIn_app (goodIn_app (goodIn_app (goodIn_app (goodIn_app ggL_tryNearest_X6_nearest_p1 (goodIn_app ggL_tryNearest_X6_nearest_p2 ggL_tryNearest_X6_nearest_p3)) ggL_tryNearest_X6_nearest_p4) ggL_tryNearest_X6_nearest_p5) ggL_tryNearest_X6_nearest_p6) ggL_tryNearest_X6_nearest_p7)) (goodIn_sub (fun _ h => List.mem_cons_of_mem _ (List.mem_append_right _ h)) (by decide +kernel))
set_option maxRecDepth 20000 in
theorem gL_tryNearest_X6_nearest : GoodIn wsL_tryNearest (wsV RL 74 RX6 yX6_nearest wsX6_nearest) := goodIn_app (goodIn_of _ (by decide +kernel)) ggL_tryNearest_X6_nearest
theorem dL_tryNearest_0 : decode cL_tryNearest 0 = .ok (.aload_n 0, 1) := by decide +kernel
theorem dL_tryNearest_1 : decode cL_tryNearest 1 = .ok (.iload_n 1, 1) := by decide +kernel
theorem dL_tryNearest_2 : decode cL_tryNearest 2 = .ok (.invokevirtual 74, 3) := by decide +kernel
theorem dL_tryNearest_5 : decode cL_tryNearest 5 = .ok (.ireturn, 1) := by decide +kernel
theorem dL_tryNearest_6 : decode cL_tryNearest 6 = .ok (.astore_n 2, 1) := by decide +kernel
theorem dL_tryNearest_7 : decode cL_tryNearest 7 = .ok (.ldc 39, 2) := by decide +kernel
theorem dL_tryNearest_9 : decode cL_tryNearest 9 = .ok (.ireturn, 1) := by decide +kernel
set_option maxRecDepth 20000 in
theorem ggL_tryBetween_X6_between_p0 : GoodIn wsL_tryBetween [.code yX6_between cX6_between 3 (some .int)] := goodIn_r _ [7] (by decide +kernel) (by decide +kernel)
set_option maxRecDepth 20000 in
theorem ggL_tryBetween_X6_between_p1 : GoodIn wsL_tryBetween wsX6_between_r1 := goodIn_r _ [8, 9, 10, 11, 12, 13, 14, 15, 16, 17, 18, 19, 20, 21, 22, 23, 24, 25, 26, 27, 28, 29, 30, 31] (by decide +kernel) (by decide +kernel)
set_option maxRecDepth 20000 in
theorem ggL_tryBetween_X6_between_p2 : GoodIn wsL_tryBetween wsX6_between_r2 := goodIn_r _ [32, 33, 34, 35, 6, 36, 37, 38, 39, 40, 41, 42, 43, 44, 45, 46, 47, 48, 49, 50, 51, 52] (by decide +kernel) (by decide +kernel)
set_option maxRecDepth 20000 in
theorem ggL_tryBetween_X6_between_p3 : GoodIn wsL_tryBetween wsX60 := goodIn_r _ [53, 54, 55, 56, 57, 58] (by decide +kernel) (by decide +kernel)
set_option maxRecDepth 20000 in
theorem ggL_tryBetween_X6_between_p4 : GoodIn wsL_tryBetween wsX40 := goodIn_r _ [59, 60, 61, 62, 63, 64] (by decide +kernel) (by decide +kernel)
set_option maxRecDepth 20000 in
theorem ggL_tryBetween_X6_between_p5 : GoodIn wsL_tryBetween wsX20 := goodIn_r _ [65, 66, 67, 68, 69, 70] (by decide +kernel) (by decide +kernel)
set_option maxRecDepth 20000 in
theorem ggL_tryBetween_X6_between_p6 : GoodIn wsL_tryBetween wsX00 := goodIn_r _ [71, 72, 73, 74, 75] (by decide +kernel) (by decide +kernel)
set_option maxRecDepth 20000 in
theorem ggL_tryBetween_X6_between : GoodIn wsL_tryBetween wsX6_between := goodIn_ca (goodIn_c2 ggL_tryBetween_X6_between_p0 (goodIn_app (goodIn_app (goodIn_app (goodIn_app (goodIn_app ggL_tryBetween_X6_between_p1 ggL_tryBetween_X6_between_p2) ggL_tryBetween_X6_between_p3) ggL_tryBetween_X6_between_p4) ggL_tryBetween_X6_between_p5) ggL_tryBetween_X6_between_p6)) (goodIn_sub (fun _ h => List.mem_cons_of_mem _ (List.mem_append_right _ h)) (by decide +kernel))
set_option maxRecDepth 20000 in
theorem gL_tryBetween_X6_between : GoodIn wsL_tryBetween (wsV RL 77 RX6 yX6_between wsX6_between) := goodIn_app (goodIn_of _ (by decide +kernel)) ggL_tryBetween_X6_between
theorem dL_tryBetween_0 : decode cL_tryBetween 0 = .ok (.aload_n 0, 1) := by decide +kernel
theorem dL_tryBetween_1 : decode cL_tryBetween 1 = .ok (.iload_n 1, 1) := by decide +kernel
theorem dL_tryBetween_2 : decode cL_tryBetween 2 = .ok (.iload_n 2, 1) := by decide +kernel
theorem dL_tryBetween_3 : decode cL_tryBetween 3 = .ok (.invokevirtual 77, 3) := by decide +kernel
theorem dL_tryBetween_6 : decode cL_tryBetween 6 = .ok (.ireturn, 1) := by decide +kernel
theorem dL_tryBetween_7 : decode cL_tryBetween 7 = .ok (.astore_n 3, 1) := by decide +kernel
theorem dL_tryBetween_8 : decode cL_tryBetween 8 = .ok (.ldc 39, 2) := by decide +kernel
theorem dL_tryBetween_10 : decode cL_tryBetween 10 = .ok (.ireturn, 1) := by decide +kernel
set_option maxRecDepth 20000 in
theorem ggL_tryKeep_X6_save_p0 : GoodIn wsL_tryKeep [.code yX6_save cX6_save 2 (some .int)] := goodIn_r _ [7] (by decide +kernel) (by decide +kernel)
set_option maxRecDepth 20000 in
theorem ggL_tryKeep_X6_save_p1 : GoodIn wsL_tryKeep wsX6_save_r1 := goodIn_r _ [8, 9, 10, 11, 12, 13, 14, 15, 16, 17, 18, 19, 20, 21, 22, 23, 24, 25, 26, 27, 28, 29, 30, 31] (by decide +kernel) (by decide +kernel)
set_option maxRecDepth 20000 in
theorem ggL_tryKeep_X6_save_p2 : GoodIn wsL_tryKeep wsX6_save_r2 := goodIn_r _ [32, 33, 34, 35, 36, 37, 38, 39, 40, 41, 42, 43, 44, 45, 46, 47, 48, 49, 50, 51, 52, 53, 6, 54] (by decide +kernel) (by decide +kernel)
set_option maxRecDepth 20000 in
theorem ggL_tryKeep_X6_save_p3 : GoodIn wsL_tryKeep wsX6_save_r3 := goodIn_r _ [55, 56, 57, 58, 59, 60, 61, 62] (by decide +kernel) (by decide +kernel)
set_option maxRecDepth 20000 in
theorem ggL_tryKeep_X6_save_p4 : GoodIn wsL_tryKeep wsX60 := goodIn_r _ [63, 64, 65, 66, 67, 68] (by decide +kernel) (by decide +kernel)
set_option maxRecDepth 20000 in
theorem ggL_tryKeep_X6_save_p5 : GoodIn wsL_tryKeep wsX40 := goodIn_r _ [69, 70, 71, 72, 73, 74] (by decide +kernel) (by decide +kernel)
set_option maxRecDepth 20000 in
theorem ggL_tryKeep_X6_save_p6 : GoodIn wsL_tryKeep wsX30 := goodIn_r _ [75] (by decide +kernel) (by decide +kernel)
set_option maxRecDepth 20000 in
theorem ggL_tryKeep_X6_save_p7 : GoodIn wsL_tryKeep wsX00 := goodIn_r _ [76, 77, 78, 79, 80] (by decide +kernel) (by decide +kernel)
set_option maxRecDepth 20000 in
theorem ggL_tryKeep_X6_save : GoodIn wsL_tryKeep wsX6_save := goodIn_ca (goodIn_c2 ggL_tryKeep_X6_save_p0 (goodIn_app (goodIn_app (goodIn_app (goodIn_app (goodIn_app ggL_tryKeep_X6_save_p1 (goodIn_app ggL_tryKeep_X6_save_p2 ggL_tryKeep_X6_save_p3)) ggL_tryKeep_X6_save_p4) ggL_tryKeep_X6_save_p5) ggL_tryKeep_X6_save_p6) ggL_tryKeep_X6_save_p7)) (goodIn_sub (fun _ h => List.mem_cons_of_mem _ (List.mem_append_right _ h)) (by decide +kernel))
set_option maxRecDepth 20000 in
theorem gL_tryKeep_X6_save : GoodIn wsL_tryKeep (wsV RL 80 RX6 yX6_save wsX6_save) := goodIn_app (goodIn_of _ (by decide +kernel)) ggL_tryKeep_X6_save
theorem dL_tryKeep_0 : decode cL_tryKeep 0 = .ok (.aload_n 0, 1) := by decide +kernel
theorem dL_tryKeep_1 : decode cL_tryKeep 1 = .ok (.iload_n 1, 1) := by decide +kernel
theorem dL_tryKeep_2 : decode cL_tryKeep 2 = .ok (.invokevirtual 80, 3) := by decide +kernel
theorem dL_tryKeep_5 : decode cL_tryKeep 5 = .ok (.ireturn, 1) := by decide +kernel
theorem dL_tryKeep_6 : decode cL_tryKeep 6 = .ok (.astore_n 2, 1) := by decide +kernel
theorem dL_tryKeep_7 : decode cL_tryKeep 7 = .ok (.ldc 39, 2) := by decide +kernel
theorem dL_tryKeep_9 : decode cL_tryKeep 9 = .ok (.ireturn, 1) := by decide +kernel
set_option maxRecDepth 20000 in
theorem ggL_tryBack_X6_restore_p0 : GoodIn wsL_tryBack [.code yX6_restore cX6_restore 3 (some .int)] := goodIn_r _ [9] (by decide +kernel) (by decide +kernel)
set_option maxRecDepth 20000 in
theorem ggL_tryBack_X6_restore_p1 : GoodIn wsL_tryBack wsX6_restore_r1 := goodIn_r _ [10, 11, 12, 13, 14, 15, 16, 17, 18, 19, 20, 21, 22, 23, 24, 25, 26, 27, 28, 29, 30, 31, 32, 33] (by decide +kernel) (by decide +kernel)
set_option maxRecDepth 20000 in
theorem ggL_tryBack_X6_restore_p2 : GoodIn wsL_tryBack wsX6_restore_r2 := goodIn_r _ [34, 35, 36, 37, 38, 39, 40, 41, 42, 43, 44, 45, 8, 46, 47, 48, 49, 50, 51, 52, 53, 54, 55, 56] (by decide +kernel) (by decide +kernel)
set_option maxRecDepth 20000 in
theorem ggL_tryBack_X6_restore_p3 : GoodIn wsL_tryBack wsX6_restore_r3 := goodIn_r _ [57, 58, 59, 60] (by decide +kernel) (by decide +kernel)
set_option maxRecDepth 20000 in
theorem ggL_tryBack_X6_restore_p4 : GoodIn wsL_tryBack wsX60 := goodIn_r _ [61, 62, 63, 64, 65, 66] (by decide +kernel) (by decide +kernel)
set_option maxRecDepth 20000 in
theorem ggL_tryBack_X6_restore_p5 : GoodIn wsL_tryBack wsX40 := goodIn_r _ [67, 68, 69, 70, 71, 72] (by decide +kernel) (by decide +kernel)
set_option maxRecDepth 20000 in
theorem ggL_tryBack_X6_restore_p6 : GoodIn wsL_tryBack wsX30 := goodIn_r _ [73] (by decide +kernel) (by decide +kernel)
set_option maxRecDepth 20000 in
theorem ggL_tryBack_X6_restore_p7 : GoodIn wsL_tryBack wsX00 := goodIn_r _ [74, 75, 76, 77, 78] (by decide +kernel) (by decide +kernel)
set_option maxRecDepth 20000 in
theorem ggL_tryBack_X6_restore_p8 : GoodIn wsL_tryBack wsX10 := goodIn_r _ [79, 80, 81] (by decide +kernel) (by decide +kernel)
set_option maxRecDepth 20000 in
theorem ggL_tryBack_X6_restore : GoodIn wsL_tryBack wsX6_restore := goodIn_ca (goodIn_ca (goodIn_c2 ggL_tryBack_X6_restore_p0 (goodIn_app (goodIn_app (goodIn_app (goodIn_app (goodIn_app (goodIn_app ggL_tryBack_X6_restore_p1 (goodIn_app ggL_tryBack_X6_restore_p2 ggL_tryBack_X6_restore_p3)) ggL_tryBack_X6_restore_p4) ggL_tryBack_X6_restore_p5) ggL_tryBack_X6_restore_p6) ggL_tryBack_X6_restore_p7) ggL_tryBack_X6_restore_p8)) (goodIn_sub (fun _ h => List.mem_cons_of_mem _ (List.mem_append_left _ (List.mem_append_right _ h))) (by decide +kernel))) (goodIn_sub (fun _ h => List.mem_cons_of_mem _ (List.mem_append_right _ h)) (by decide +kernel))
set_option maxRecDepth 20000 in
theorem gL_tryBack_X6_restore : GoodIn wsL_tryBack (wsV RL 83 RX6 yX6_restore wsX6_restore) := goodIn_app (goodIn_of _ (by decide +kernel)) ggL_tryBack_X6_restore
theorem dL_tryBack_0 : decode cL_tryBack 0 = .ok (.aload_n 0, 1) := by decide +kernel
theorem dL_tryBack_1 : decode cL_tryBack 1 = .ok (.iload_n 1, 1) := by decide +kernel
theorem dL_tryBack_2 : decode cL_tryBack 2 = .ok (.invokevirtual 83, 3) := by decide +kernel
theorem dL_tryBack_5 : decode cL_tryBack 5 = .ok (.ireturn, 1) := by decide +kernel
theorem dL_tryBack_6 : decode cL_tryBack 6 = .ok (.astore_n 2, 1) := by decide +kernel
theorem dL_tryBack_7 : decode cL_tryBack 7 = .ok (.ldc 39, 2) := by decide +kernel
theorem dL_tryBack_9 : decode cL_tryBack 9 = .ok (.ireturn, 1) := by decide +kernel
theorem dL_tryBack_10 : decode cL_tryBack 10 = .ok (.astore_n 2, 1) := by decide +kernel
theorem dL_tryBack_11 : decode cL_tryBack 11 = .ok (.ldc 26, 2) := by decide +kernel
theorem dL_tryBack_13 : decode cL_tryBack 13 = .ok (.ireturn, 1) := by decide +kernel
set_option maxRecDepth 20000 in
theorem ggL_call_L_tryAppend_p0 : GoodIn wsL_call [.codeWith yL_tryAppend cL_tryAppend 3 (some .int) [(0, 5, 6, 13), (0, 5, 10, 24)]] := goodIn_r _ [4] (by decide +kernel) (by decide +kernel)
set_option maxRecDepth 20000 in
theorem ggL_call_L_tryAppend_p1 : GoodIn wsL_call [.classLink RL 13 "java/lang/IllegalArgumentException", .classLink RL 24 "java/lang/IllegalStateException", .constant RL 15 (-9999002), .constant RL 26 (-9999003), .methodLink RL 20 yX6_append, .instanceMethod yX6_append, .selects RX6 yX6_append yX6_append, .initialized RX6, .code yX6_append cX6_append 2 (some .int), .classLink RX6 49 "java/lang/IllegalArgumentException", .initialized "java/lang/IllegalArgumentException", .classLink RX6 60 "java/lang/IllegalStateException", .initialized "java/lang/IllegalStateException", .fieldLink RX6 29 "RuledStrokes" "text" "LRuledStrokes$Text;", .fieldLink RX6 56 "RuledStrokes$Text" "length" "I", .methodLink RX6 65 yX5_addCode, .instanceMethod yX5_addCode, .selects RX5 yX5_addCode yX5_addCode, .initialized RX5, .code yX5_addCode cX5_addCode 2 none, .fieldLink RX5 9 "RuledStrokes$Text" "codes" "[I", .fieldLink RX5 15 "RuledStrokes$Text" "length" "I", .static yX6_putCell, .code yX6_putCell cX6_putCell 3 none] := goodIn_r _ [5, 6, 7, 8, 9, 10, 11, 12, 13, 14, 15, 16, 17, 18, 19, 20, 21, 22, 23, 24, 25, 26, 27, 28] (by decide +kernel) (by decide +kernel)
set_option maxRecDepth 20000 in
theorem ggL_call_L_tryAppend_p2 : GoodIn wsL_call wsX60 := goodIn_r _ [476, 477, 478, 479, 480, 481] (by decide +kernel) (by decide +kernel)
set_option maxRecDepth 20000 in
theorem ggL_call_L_tryAppend_p3 : GoodIn wsL_call wsX50 := goodIn_r _ [482, 483] (by decide +kernel) (by decide +kernel)
set_option maxRecDepth 20000 in
theorem ggL_call_L_tryAppend : GoodIn wsL_call wsL_tryAppend := goodIn_ca (goodIn_ca (goodIn_c2 ggL_call_L_tryAppend_p0 (goodIn_app (goodIn_app ggL_call_L_tryAppend_p1 ggL_call_L_tryAppend_p2) ggL_call_L_tryAppend_p3)) (goodIn_sub (fun _ h => List.mem_cons_of_mem _ (List.mem_append_left _ (List.mem_append_left _ (List.mem_append_right _ h)))) (by decide +kernel))) (goodIn_sub (fun _ h => List.mem_cons_of_mem _ (List.mem_append_left _ (List.mem_append_right _ h))) (by decide +kernel))
set_option maxRecDepth 20000 in
theorem gL_call_L_tryAppend : GoodIn wsL_call (va_wsS RL 86 yL_tryAppend wsL_tryAppend) := goodIn_app (goodIn_of _ (by decide +kernel)) ggL_call_L_tryAppend
set_option maxRecDepth 20000 in
theorem ggL_call_L_tryAbout_p0 : GoodIn wsL_call [.codeWith yL_tryAbout cL_tryAbout 3 (some .int) [(0, 5, 6, 13)]] := goodIn_r _ [31] (by decide +kernel) (by decide +kernel)
set_option maxRecDepth 20000 in
theorem ggL_call_L_tryAbout_p1 : GoodIn wsL_call wsL_tryAbout_r1 := goodIn_r _ [5, 7, 32, 33, 34, 12, 35, 14, 15, 36, 37, 38, 39, 40, 41, 42, 43, 44, 45, 46, 47, 48, 49, 50] (by decide +kernel) (by decide +kernel)
set_option maxRecDepth 20000 in
theorem ggL_call_L_tryAbout_p2 : GoodIn wsL_call wsL_tryAbout_r2 := goodIn_r _ [51, 52, 53, 54, 55, 56, 57, 58, 59, 60, 61, 62, 63, 64, 65, 66, 67, 68, 69, 70, 71, 72] (by decide +kernel) (by decide +kernel)
set_option maxRecDepth 20000 in
theorem ggL_call_L_tryAbout_p3 : GoodIn wsL_call wsX60 := goodIn_r _ [476, 477, 478, 479, 480, 481] (by decide +kernel) (by decide +kernel)
set_option maxRecDepth 20000 in
theorem ggL_call_L_tryAbout_p4 : GoodIn wsL_call wsX40 := goodIn_r _ [484, 485, 486, 487, 488, 489] (by decide +kernel) (by decide +kernel)
set_option maxRecDepth 20000 in
theorem ggL_call_L_tryAbout_p5 : GoodIn wsL_call wsX00 := goodIn_r _ [490, 491, 492, 493, 494] (by decide +kernel) (by decide +kernel)
set_option maxRecDepth 20000 in
theorem ggL_call_L_tryAbout : GoodIn wsL_call wsL_tryAbout := goodIn_ca (goodIn_c2 ggL_call_L_tryAbout_p0 (goodIn_app (goodIn_app (goodIn_app (goodIn_app ggL_call_L_tryAbout_p1 ggL_call_L_tryAbout_p2) ggL_call_L_tryAbout_p3) ggL_call_L_tryAbout_p4) ggL_call_L_tryAbout_p5)) (goodIn_sub (fun _ h => List.mem_cons_of_mem _ (List.mem_append_left _ (List.mem_append_left _ (List.mem_append_right _ h)))) (by decide +kernel))
set_option maxRecDepth 20000 in
theorem gL_call_L_tryAbout : GoodIn wsL_call (va_wsS RL 92 yL_tryAbout wsL_tryAbout) := goodIn_app (goodIn_of _ (by decide +kernel)) ggL_call_L_tryAbout
set_option maxRecDepth 20000 in
theorem ggL_call_L_trySign_p0 : GoodIn wsL_call [.codeWith yL_trySign cL_trySign 3 (some .int) [(0, 5, 6, 13)]] := goodIn_r _ [75] (by decide +kernel) (by decide +kernel)
set_option maxRecDepth 20000 in
theorem ggL_call_L_trySign_p1 : GoodIn wsL_call [.classLink RL 13 "java/lang/IllegalArgumentException", .constant RL 15 (-9999002), .methodLink RL 30 yX6_sign, .instanceMethod yX6_sign, .selects RX6 yX6_sign yX6_sign, .initialized RX6, .code yX6_sign cX6_sign 2 (some .int), .classLink RX6 49 "java/lang/IllegalArgumentException", .initialized "java/lang/IllegalArgumentException", .fieldLink RX6 12 "RuledStrokes" "state" "LRuledStrokes$State;", .fieldLink RX6 72 "RuledStrokes$State" "figures" "LRuledStrokes$Figures;", .methodLink RX6 102 yX0_signAt, .instanceMethod yX0_signAt, .selects RX0 yX0_signAt yX0_signAt, .initialized RX0, .code yX0_signAt cX0_signAt 4 (some .int), .fieldLink RX0 21 "RuledStrokes$Figures" "signCounts" "[I", .fieldLink RX0 24 "RuledStrokes$Figures" "signs" "[I", .static yX6_cell, .code yX6_cell cX6_cell 2 (some .int)] := goodIn_r _ [5, 7, 76, 77, 78, 12, 79, 14, 15, 36, 37, 80, 81, 82, 43, 83, 62, 84, 46, 47] (by decide +kernel) (by decide +kernel)
set_option maxRecDepth 20000 in
theorem ggL_call_L_trySign_p2 : GoodIn wsL_call wsX60 := goodIn_r _ [476, 477, 478, 479, 480, 481] (by decide +kernel) (by decide +kernel)
set_option maxRecDepth 20000 in
theorem ggL_call_L_trySign_p3 : GoodIn wsL_call wsX40 := goodIn_r _ [484, 485, 486, 487, 488, 489] (by decide +kernel) (by decide +kernel)
set_option maxRecDepth 20000 in
theorem ggL_call_L_trySign_p4 : GoodIn wsL_call wsX00 := goodIn_r _ [490, 491, 492, 493, 494] (by decide +kernel) (by decide +kernel)
set_option maxRecDepth 20000 in
theorem ggL_call_L_trySign : GoodIn wsL_call wsL_trySign := goodIn_ca (goodIn_c2 ggL_call_L_trySign_p0 (goodIn_app (goodIn_app (goodIn_app ggL_call_L_trySign_p1 ggL_call_L_trySign_p2) ggL_call_L_trySign_p3) ggL_call_L_trySign_p4)) (goodIn_sub (fun _ h => List.mem_cons_of_mem _ (List.mem_append_left _ (List.mem_append_left _ (List.mem_append_right _ h)))) (by decide +kernel))
set_option maxRecDepth 20000 in
theorem gL_call_L_trySign : GoodIn wsL_call (va_wsS RL 95 yL_trySign wsL_trySign) := goodIn_app (goodIn_of _ (by decide +kernel)) ggL_call_L_trySign
set_option maxRecDepth 20000 in
theorem ggL_call_L_trySample_p0 : GoodIn wsL_call [.codeWith yL_trySample cL_trySample 4 (some .int) [(0, 6, 7, 37), (0, 6, 11, 13)]] := goodIn_r _ [87] (by decide +kernel) (by decide +kernel)
set_option maxRecDepth 20000 in
theorem ggL_call_L_trySample_p1 : GoodIn wsL_call wsL_trySample_r1 := goodIn_r _ [88, 5, 89, 7, 90, 91, 92, 12, 93, 94, 95, 14, 15, 36, 37, 96, 97, 98, 66, 99, 100, 101, 102, 103] (by decide +kernel) (by decide +kernel)
set_option maxRecDepth 20000 in
theorem ggL_call_L_trySample_p2 : GoodIn wsL_call wsL_trySample_r2 := goodIn_r _ [104, 105, 46, 47, 40, 41, 42, 43, 44, 45, 48, 49, 50, 51, 52, 53, 54, 55, 56, 57, 58, 59, 60, 61] (by decide +kernel) (by decide +kernel)
set_option maxRecDepth 20000 in
theorem ggL_call_L_trySample_p3 : GoodIn wsL_call wsL_trySample_r3 := goodIn_r _ [62] (by decide +kernel) (by decide +kernel)
set_option maxRecDepth 20000 in
theorem ggL_call_L_trySample_p4 : GoodIn wsL_call wsX60 := goodIn_r _ [476, 477, 478, 479, 480, 481] (by decide +kernel) (by decide +kernel)
set_option maxRecDepth 20000 in
theorem ggL_call_L_trySample_p5 : GoodIn wsL_call wsX40 := goodIn_r _ [484, 485, 486, 487, 488, 489] (by decide +kernel) (by decide +kernel)
set_option maxRecDepth 20000 in
theorem ggL_call_L_trySample_p6 : GoodIn wsL_call wsX00 := goodIn_r _ [490, 491, 492, 493, 494] (by decide +kernel) (by decide +kernel)
set_option maxRecDepth 20000 in
theorem ggL_call_L_trySample : GoodIn wsL_call wsL_trySample := goodIn_ca (goodIn_ca (goodIn_c2 ggL_call_L_trySample_p0 (goodIn_app (goodIn_app (goodIn_app (goodIn_app ggL_call_L_trySample_p1 (goodIn_app ggL_call_L_trySample_p2 ggL_call_L_trySample_p3)) ggL_call_L_trySample_p4) ggL_call_L_trySample_p5) ggL_call_L_trySample_p6)) (goodIn_sub (fun _ h => List.mem_cons_of_mem _ (List.mem_append_right _ h)) (by decide +kernel))) (goodIn_sub (fun _ h => List.mem_cons_of_mem _ (List.mem_append_left _ (List.mem_append_left _ (List.mem_append_right _ h)))) (by decide +kernel))
set_option maxRecDepth 20000 in
theorem gL_call_L_trySample : GoodIn wsL_call (va_wsS RL 98 yL_trySample wsL_trySample) := goodIn_app (goodIn_of _ (by decide +kernel)) ggL_call_L_trySample
set_option maxRecDepth 20000 in
theorem ggL_call_L_trySignOf_p0 : GoodIn wsL_call [.codeWith yL_trySignOf cL_trySignOf 4 (some .int) [(0, 6, 7, 37), (0, 6, 11, 13)]] := goodIn_r _ [108] (by decide +kernel) (by decide +kernel)
set_option maxRecDepth 20000 in
theorem ggL_call_L_trySignOf_p1 : GoodIn wsL_call wsL_trySignOf_r1 := goodIn_r _ [88, 5, 89, 7, 109, 110, 111, 12, 112, 94, 95, 14, 15, 36, 37, 96, 97, 98, 66, 99, 100, 80, 81, 82] (by decide +kernel) (by decide +kernel)
set_option maxRecDepth 20000 in
theorem ggL_call_L_trySignOf_p2 : GoodIn wsL_call wsL_trySignOf_r2 := goodIn_r _ [43, 83, 62, 84, 46, 47] (by decide +kernel) (by decide +kernel)
set_option maxRecDepth 20000 in
theorem ggL_call_L_trySignOf_p3 : GoodIn wsL_call wsX60 := goodIn_r _ [476, 477, 478, 479, 480, 481] (by decide +kernel) (by decide +kernel)
set_option maxRecDepth 20000 in
theorem ggL_call_L_trySignOf_p4 : GoodIn wsL_call wsX40 := goodIn_r _ [484, 485, 486, 487, 488, 489] (by decide +kernel) (by decide +kernel)
set_option maxRecDepth 20000 in
theorem ggL_call_L_trySignOf_p5 : GoodIn wsL_call wsX00 := goodIn_r _ [490, 491, 492, 493, 494] (by decide +kernel) (by decide +kernel)
set_option maxRecDepth 20000 in
theorem ggL_call_L_trySignOf : GoodIn wsL_call wsL_trySignOf := goodIn_ca (goodIn_ca (goodIn_c2 ggL_call_L_trySignOf_p0 (goodIn_app (goodIn_app (goodIn_app (goodIn_app ggL_call_L_trySignOf_p1 ggL_call_L_trySignOf_p2) ggL_call_L_trySignOf_p3) ggL_call_L_trySignOf_p4) ggL_call_L_trySignOf_p5)) (goodIn_sub (fun _ h => List.mem_cons_of_mem _ (List.mem_append_right _ h)) (by decide +kernel))) (goodIn_sub (fun _ h => List.mem_cons_of_mem _ (List.mem_append_left _ (List.mem_append_left _ (List.mem_append_right _ h)))) (by decide +kernel))
set_option maxRecDepth 20000 in
theorem gL_call_L_trySignOf : GoodIn wsL_call (va_wsS RL 102 yL_trySignOf wsL_trySignOf) := goodIn_app (goodIn_of _ (by decide +kernel)) ggL_call_L_trySignOf
set_option maxRecDepth 20000 in
theorem ggL_call_L_tryPractised_p0 : GoodIn wsL_call [.codeWith yL_tryPractised cL_tryPractised 4 (some .int) [(0, 6, 7, 13)]] := goodIn_r _ [115] (by decide +kernel) (by decide +kernel)
set_option maxRecDepth 20000 in
theorem ggL_call_L_tryPractised_p1 : GoodIn wsL_call [.classLink RL 13 "java/lang/IllegalArgumentException", .constant RL 15 (-9999002), .methodLink RL 43 yX6_practised, .instanceMethod yX6_practised, .selects RX6 yX6_practised yX6_practised, .initialized RX6, .code yX6_practised cX6_practised 3 (some .int), .classLink RX6 49 "java/lang/IllegalArgumentException", .initialized "java/lang/IllegalArgumentException", .fieldLink RX6 12 "RuledStrokes" "state" "LRuledStrokes$State;", .methodLink RX6 120 yX6_isName, .static yX6_isName, .code yX6_isName cX6_isName 1 (some .boolean), .methodLink RX6 127 yX4_outcomeOf, .instanceMethod yX4_outcomeOf, .selects RX4 yX4_outcomeOf yX4_outcomeOf, .initialized RX4, .code yX4_outcomeOf cX4_outcomeOf 3 (some .int), .fieldLink RX4 25 "RuledStrokes$State" "outcomes" "[I", .static yX6_cell, .code yX6_cell cX6_cell 2 (some .int)] := goodIn_r _ [5, 7, 116, 117, 118, 12, 119, 14, 15, 36, 120, 121, 122, 123, 69, 70, 66, 71, 72, 46, 47] (by decide +kernel) (by decide +kernel)
set_option maxRecDepth 20000 in
theorem ggL_call_L_tryPractised_p2 : GoodIn wsL_call wsX60 := goodIn_r _ [476, 477, 478, 479, 480, 481] (by decide +kernel) (by decide +kernel)
set_option maxRecDepth 20000 in
theorem ggL_call_L_tryPractised_p3 : GoodIn wsL_call wsX40 := goodIn_r _ [484, 485, 486, 487, 488, 489] (by decide +kernel) (by decide +kernel)
set_option maxRecDepth 20000 in
theorem ggL_call_L_tryPractised : GoodIn wsL_call wsL_tryPractised := goodIn_ca (goodIn_c2 ggL_call_L_tryPractised_p0 (goodIn_app (goodIn_app ggL_call_L_tryPractised_p1 ggL_call_L_tryPractised_p2) ggL_call_L_tryPractised_p3)) (goodIn_sub (fun _ h => List.mem_cons_of_mem _ (List.mem_append_left _ (List.mem_append_left _ (List.mem_append_right _ h)))) (by decide +kernel))
set_option maxRecDepth 20000 in
theorem gL_call_L_tryPractised : GoodIn wsL_call (va_wsS RL 105 yL_tryPractised wsL_tryPractised) := goodIn_app (goodIn_of _ (by decide +kernel)) ggL_call_L_tryPractised
set_option maxRecDepth 20000 in
theorem ggL_call_L_trySetting_p0 : GoodIn wsL_call [.codeWith yL_trySetting cL_trySetting 3 (some .int) [(0, 5, 6, 13)]] := goodIn_r _ [126] (by decide +kernel) (by decide +kernel)
set_option maxRecDepth 20000 in
theorem ggL_call_L_trySetting_p1 : GoodIn wsL_call [.classLink RL 13 "java/lang/IllegalArgumentException", .constant RL 15 (-9999002), .methodLink RL 46 yX6_setting, .instanceMethod yX6_setting, .selects RX6 yX6_setting yX6_setting, .initialized RX6, .code yX6_setting cX6_setting 2 (some .int), .classLink RX6 49 "java/lang/IllegalArgumentException", .initialized "java/lang/IllegalArgumentException", .fieldLink RX6 12 "RuledStrokes" "state" "LRuledStrokes$State;", .methodLink RX6 130 yX4_settingOf, .instanceMethod yX4_settingOf, .selects RX4 yX4_settingOf yX4_settingOf, .initialized RX4, .code yX4_settingOf cX4_settingOf 2 (some .int), .fieldLink RX4 22 "RuledStrokes$State" "settings" "[I", .static yX6_cell, .code yX6_cell cX6_cell 2 (some .int)] := goodIn_r _ [5, 7, 127, 128, 129, 12, 130, 14, 15, 36, 131, 132, 133, 66, 134, 135, 46, 47] (by decide +kernel) (by decide +kernel)
set_option maxRecDepth 20000 in
theorem ggL_call_L_trySetting_p2 : GoodIn wsL_call wsX60 := goodIn_r _ [476, 477, 478, 479, 480, 481] (by decide +kernel) (by decide +kernel)
set_option maxRecDepth 20000 in
theorem ggL_call_L_trySetting_p3 : GoodIn wsL_call wsX40 := goodIn_r _ [484, 485, 486, 487, 488, 489] (by decide +kernel) (by decide +kernel)
set_option maxRecDepth 20000 in
theorem ggL_call_L_trySetting : GoodIn wsL_call wsL_trySetting := goodIn_ca (goodIn_c2 ggL_call_L_trySetting_p0 (goodIn_app (goodIn_app ggL_call_L_trySetting_p1 ggL_call_L_trySetting_p2) ggL_call_L_trySetting_p3)) (goodIn_sub (fun _ h => List.mem_cons_of_mem _ (List.mem_append_left _ (List.mem_append_left _ (List.mem_append_right _ h)))) (by decide +kernel))
set_option maxRecDepth 20000 in
theorem gL_call_L_trySetting : GoodIn wsL_call (va_wsS RL 108 yL_trySetting wsL_trySetting) := goodIn_app (goodIn_of _ (by decide +kernel)) ggL_call_L_trySetting
set_option maxRecDepth 20000 in
theorem ggL_call_L_tryPoint_p0 : GoodIn wsL_call [.codeWith yL_tryPoint cL_tryPoint 4 (some .int) [(0, 6, 7, 13), (0, 6, 11, 24)]] := goodIn_r _ [138] (by decide +kernel) (by decide +kernel)
set_option maxRecDepth 20000 in
theorem ggL_call_L_tryPoint_p1 : GoodIn wsL_call wsL_tryPoint_r1 := goodIn_r _ [5, 6, 7, 8, 139, 140, 141, 12, 142, 14, 15, 16, 17, 143, 36, 37, 144, 145, 146, 147, 148, 149, 150, 151] (by decide +kernel) (by decide +kernel)
set_option maxRecDepth 20000 in
theorem ggL_call_L_tryPoint_p2 : GoodIn wsL_call wsL_tryPoint_r2 := goodIn_r _ [152, 153, 154, 155, 156, 157, 158, 159, 160, 161, 66, 162, 163, 164, 165, 166, 167, 168, 43, 169, 170, 105, 135, 72] (by decide +kernel) (by decide +kernel)
set_option maxRecDepth 20000 in
theorem ggL_call_L_tryPoint_p3 : GoodIn wsL_call wsL_tryPoint_r3 := goodIn_r _ [171, 172, 173, 45, 57, 174, 62, 84, 175, 176, 177, 178, 100, 179, 180, 181, 182, 183, 184, 185, 186, 187, 188, 189] (by decide +kernel) (by decide +kernel)
set_option maxRecDepth 20000 in
theorem ggL_call_L_tryPoint_p4 : GoodIn wsL_call wsL_tryPoint_r4 := goodIn_r _ [190, 191, 192, 193, 194, 195, 196, 197, 198, 132, 133, 134, 46, 47, 199, 200, 201, 202, 52, 41, 42, 44, 53, 54] (by decide +kernel) (by decide +kernel)
set_option maxRecDepth 20000 in
theorem ggL_call_L_tryPoint_p5 : GoodIn wsL_call wsL_tryPoint_r5 := goodIn_r _ [55, 56, 203, 204, 205, 206, 207, 59, 60, 61, 208, 209, 210, 211, 212, 213, 214, 215, 216, 27, 28, 217, 218, 219] (by decide +kernel) (by decide +kernel)
set_option maxRecDepth 20000 in
theorem ggL_call_L_tryPoint_p6 : GoodIn wsL_call wsL_tryPoint_r6 := goodIn_r _ [220, 221, 222, 223, 224, 225, 226, 227, 228, 229, 230, 231, 232, 233, 234, 235, 236, 237, 238, 239, 240, 241, 58] (by decide +kernel) (by decide +kernel)
set_option maxRecDepth 20000 in
theorem ggL_call_L_tryPoint_p7 : GoodIn wsL_call wsX60 := goodIn_r _ [476, 477, 478, 479, 480, 481] (by decide +kernel) (by decide +kernel)
set_option maxRecDepth 20000 in
theorem ggL_call_L_tryPoint_p8 : GoodIn wsL_call wsX40 := goodIn_r _ [484, 485, 486, 487, 488, 489] (by decide +kernel) (by decide +kernel)
set_option maxRecDepth 20000 in
theorem ggL_call_L_tryPoint_p9 : GoodIn wsL_call wsX10 := goodIn_r _ [495, 496, 497] (by decide +kernel) (by decide +kernel)
set_option maxRecDepth 20000 in
theorem ggL_call_L_tryPoint_p10 : GoodIn wsL_call wsX30 := goodIn_r _ [498] (by decide +kernel) (by decide +kernel)
set_option maxRecDepth 20000 in
theorem ggL_call_L_tryPoint_p11 : GoodIn wsL_call wsX00 := goodIn_r _ [490, 491, 492, 493, 494] (by decide +kernel) (by decide +kernel)
set_option maxRecDepth 20000 in
theorem ggL_call_L_tryPoint : GoodIn wsL_call wsL_tryPoint := goodIn_ca (goodIn_ca (goodIn_c2 ggL_call_L_tryPoint_p0 (goodIn_app (goodIn_app (goodIn_app (goodIn_app (goodIn_app (goodIn_app ggL_call_L_tryPoint_p1 (goodIn_app ggL_call_L_tryPoint_p2 (goodIn_app ggL_call_L_tryPoint_p3 (goodIn_app ggL_call_L_tryPoint_p4 (goodIn_app ggL_call_L_tryPoint_p5 ggL_call_L_tryPoint_p6))))) ggL_call_L_tryPoint_p7) ggL_call_L_tryPoint_p8) ggL_call_L_tryPoint_p9) ggL_call_L_tryPoint_p10) ggL_call_L_tryPoint_p11)) (goodIn_sub (fun _ h => List.mem_cons_of_mem _ (List.mem_append_left _ (List.mem_append_left _ (List.mem_append_right _ h)))) (by decide +kernel))) (goodIn_sub (fun _ h => List.mem_cons_of_mem _ (List.mem_append_left _ (List.mem_append_right _ h))) (by decide +kernel))
set_option maxRecDepth 20000 in
theorem gL_call_L_tryPoint : GoodIn wsL_call (va_wsS RL 111 yL_tryPoint wsL_tryPoint) := goodIn_app (goodIn_of _ (by decide +kernel)) ggL_call_L_tryPoint
set_option maxRecDepth 20000 in
theorem ggL_call_L_tryDraw_p0 : GoodIn wsL_call [.codeWith yL_tryDraw cL_tryDraw 2 (some .int) [(0, 4, 5, 24)]] := goodIn_r _ [244] (by decide +kernel) (by decide +kernel)
set_option maxRecDepth 20000 in
theorem ggL_call_L_tryDraw_p1 : GoodIn wsL_call wsL_tryDraw_r1 := goodIn_r _ [6, 8, 245, 246, 247, 12, 248, 16, 17, 18, 249, 36, 143, 37, 250, 251, 252, 23, 253, 26, 25, 46, 47, 254] (by decide +kernel) (by decide +kernel)
set_option maxRecDepth 20000 in
theorem ggL_call_L_tryDraw_p2 : GoodIn wsL_call wsL_tryDraw_r2 := goodIn_r _ [255, 256, 257, 176, 177, 66, 178, 169, 105, 135, 72, 100, 179, 180, 181, 182, 43, 183, 45, 57, 174, 62, 84, 184] (by decide +kernel) (by decide +kernel)
set_option maxRecDepth 20000 in
theorem ggL_call_L_tryDraw_p3 : GoodIn wsL_call wsL_tryDraw_r3 := goodIn_r _ [185, 186, 187, 188, 189, 190, 191, 192, 193, 258, 259, 260, 261, 262, 263, 264, 265, 27, 28, 266, 267, 268, 269, 270] (by decide +kernel) (by decide +kernel)
set_option maxRecDepth 20000 in
theorem ggL_call_L_tryDraw_p4 : GoodIn wsL_call wsL_tryDraw_r4 := goodIn_r _ [195, 196, 197, 145, 146, 198, 132, 133, 134, 199, 200, 201, 202, 52, 41, 42, 44, 53, 54, 55, 56, 203, 204, 205] (by decide +kernel) (by decide +kernel)
set_option maxRecDepth 20000 in
theorem ggL_call_L_tryDraw_p5 : GoodIn wsL_call wsL_tryDraw_r5 := goodIn_r _ [206, 207, 59, 60, 61, 208, 209, 210, 211, 212, 213, 214, 215, 216, 217, 218, 219, 220, 221, 222, 223, 224, 225, 226] (by decide +kernel) (by decide +kernel)
set_option maxRecDepth 20000 in
theorem ggL_call_L_tryDraw_p6 : GoodIn wsL_call wsL_tryDraw_r6 := goodIn_r _ [227, 228, 229, 230, 231, 232, 233, 234, 235, 271, 272, 273, 274, 275, 276, 277, 150, 278, 279, 148, 149, 151, 152, 153] (by decide +kernel) (by decide +kernel)
set_option maxRecDepth 20000 in
theorem ggL_call_L_tryDraw_p7 : GoodIn wsL_call wsL_tryDraw_r7 := goodIn_r _ [154, 155, 156, 157, 158, 159, 160, 161, 162, 163, 164, 165, 166, 167, 168, 170, 171, 172, 173, 175, 280, 237, 238, 239] (by decide +kernel) (by decide +kernel)
set_option maxRecDepth 20000 in
theorem ggL_call_L_tryDraw_p8 : GoodIn wsL_call wsL_tryDraw_r8 := goodIn_r _ [240, 241, 58] (by decide +kernel) (by decide +kernel)
set_option maxRecDepth 20000 in
theorem ggL_call_L_tryDraw_p9 : GoodIn wsL_call wsX60 := goodIn_r _ [476, 477, 478, 479, 480, 481] (by decide +kernel) (by decide +kernel)
set_option maxRecDepth 20000 in
theorem ggL_call_L_tryDraw_p10 : GoodIn wsL_call wsX40 := goodIn_r _ [484, 485, 486, 487, 488, 489] (by decide +kernel) (by decide +kernel)
set_option maxRecDepth 20000 in
theorem ggL_call_L_tryDraw_p11 : GoodIn wsL_call wsX50 := goodIn_r _ [482, 483] (by decide +kernel) (by decide +kernel)
set_option maxRecDepth 20000 in
theorem ggL_call_L_tryDraw_p12 : GoodIn wsL_call wsX00 := goodIn_r _ [490, 491, 492, 493, 494] (by decide +kernel) (by decide +kernel)
set_option maxRecDepth 20000 in
theorem ggL_call_L_tryDraw_p13 : GoodIn wsL_call wsX10 := goodIn_r _ [495, 496, 497] (by decide +kernel) (by decide +kernel)
set_option maxRecDepth 20000 in
theorem ggL_call_L_tryDraw_p14 : GoodIn wsL_call wsX30 := goodIn_r _ [498] (by decide +kernel) (by decide +kernel)
set_option maxRecDepth 20000 in
theorem ggL_call_L_tryDraw : GoodIn wsL_call wsL_tryDraw := goodIn_ca (goodIn_c2 ggL_call_L_tryDraw_p0 (goodIn_app (goodIn_app (goodIn_app (goodIn_app (goodIn_app (goodIn_app (goodIn_app ggL_call_L_tryDraw_p1 (goodIn_app ggL_call_L_tryDraw_p2 (goodIn_app ggL_call_L_tryDraw_p3 (goodIn_app ggL_call_L_tryDraw_p4 (goodIn_app ggL_call_L_tryDraw_p5 (goodIn_app ggL_call_L_tryDraw_p6 (goodIn_app ggL_call_L_tryDraw_p7 ggL_call_L_tryDraw_p8))))))) ggL_call_L_tryDraw_p9) ggL_call_L_tryDraw_p10) ggL_call_L_tryDraw_p11) ggL_call_L_tryDraw_p12) ggL_call_L_tryDraw_p13) ggL_call_L_tryDraw_p14)) (goodIn_sub (fun _ h => List.mem_cons_of_mem _ (List.mem_append_left _ (List.mem_append_right _ h))) (by decide +kernel))
set_option maxRecDepth 20000 in
theorem gL_call_L_tryDraw : GoodIn wsL_call (va_wsS RL 114 yL_tryDraw wsL_tryDraw) := goodIn_app (goodIn_of _ (by decide +kernel)) ggL_call_L_tryDraw
set_option maxRecDepth 20000 in
theorem ggL_call_L_tryLearn_p0 : GoodIn wsL_call [.codeWith yL_tryLearn cL_tryLearn 3 (some .int) [(0, 5, 6, 13), (0, 5, 10, 24)]] := goodIn_r _ [283] (by decide +kernel) (by decide +kernel)
set_option maxRecDepth 20000 in
theorem ggL_call_L_tryLearn_p1 : GoodIn wsL_call wsL_tryLearn_r1 := goodIn_r _ [5, 6, 7, 8, 284, 285, 286, 12, 287, 14, 15, 16, 17, 143, 36, 39, 120, 121, 122, 147, 148, 149, 150, 151] (by decide +kernel) (by decide +kernel)
set_option maxRecDepth 20000 in
theorem ggL_call_L_tryLearn_p2 : GoodIn wsL_call wsL_tryLearn_r2 := goodIn_r _ [152, 153, 154, 155, 156, 157, 158, 159, 160, 161, 66, 162, 163, 164, 165, 166, 167, 168, 43, 169, 170, 105, 135, 72] (by decide +kernel) (by decide +kernel)
set_option maxRecDepth 20000 in
theorem ggL_call_L_tryLearn_p3 : GoodIn wsL_call wsL_tryLearn_r3 := goodIn_r _ [171, 172, 173, 45, 57, 174, 62, 84, 175, 176, 177, 178, 100, 179, 180, 181, 182, 183, 184, 185, 186, 187, 188, 189] (by decide +kernel) (by decide +kernel)
set_option maxRecDepth 20000 in
theorem ggL_call_L_tryLearn_p4 : GoodIn wsL_call wsL_tryLearn_r4 := goodIn_r _ [190, 191, 192, 193, 288, 289, 290, 291, 292, 41, 42, 44, 46, 47, 293, 294, 295, 296, 297, 102, 103, 104, 298, 299] (by decide +kernel) (by decide +kernel)
set_option maxRecDepth 20000 in
theorem ggL_call_L_tryLearn_p5 : GoodIn wsL_call wsL_tryLearn_r5 := goodIn_r _ [300, 301, 302, 59, 60, 61, 303, 81, 82, 83, 304, 305, 306, 307, 308, 309, 27, 28, 310, 259, 260, 261, 262, 263] (by decide +kernel) (by decide +kernel)
set_option maxRecDepth 20000 in
theorem ggL_call_L_tryLearn_p6 : GoodIn wsL_call wsL_tryLearn_r6 := goodIn_r _ [264, 265, 236, 237, 238, 239, 240, 241] (by decide +kernel) (by decide +kernel)
set_option maxRecDepth 20000 in
theorem ggL_call_L_tryLearn_p7 : GoodIn wsL_call wsX60 := goodIn_r _ [476, 477, 478, 479, 480, 481] (by decide +kernel) (by decide +kernel)
set_option maxRecDepth 20000 in
theorem ggL_call_L_tryLearn_p8 : GoodIn wsL_call wsX40 := goodIn_r _ [484, 485, 486, 487, 488, 489] (by decide +kernel) (by decide +kernel)
set_option maxRecDepth 20000 in
theorem ggL_call_L_tryLearn_p9 : GoodIn wsL_call wsX10 := goodIn_r _ [495, 496, 497] (by decide +kernel) (by decide +kernel)
set_option maxRecDepth 20000 in
theorem ggL_call_L_tryLearn_p10 : GoodIn wsL_call wsX30 := goodIn_r _ [498] (by decide +kernel) (by decide +kernel)
set_option maxRecDepth 20000 in
theorem ggL_call_L_tryLearn_p11 : GoodIn wsL_call wsX00 := goodIn_r _ [490, 491, 492, 493, 494] (by decide +kernel) (by decide +kernel)
set_option maxRecDepth 20000 in
theorem ggL_call_L_tryLearn : GoodIn wsL_call wsL_tryLearn := goodIn_ca (goodIn_ca (goodIn_c2 ggL_call_L_tryLearn_p0 (goodIn_app (goodIn_app (goodIn_app (goodIn_app (goodIn_app (goodIn_app ggL_call_L_tryLearn_p1 (goodIn_app ggL_call_L_tryLearn_p2 (goodIn_app ggL_call_L_tryLearn_p3 (goodIn_app ggL_call_L_tryLearn_p4 (goodIn_app ggL_call_L_tryLearn_p5 ggL_call_L_tryLearn_p6))))) ggL_call_L_tryLearn_p7) ggL_call_L_tryLearn_p8) ggL_call_L_tryLearn_p9) ggL_call_L_tryLearn_p10) ggL_call_L_tryLearn_p11)) (goodIn_sub (fun _ h => List.mem_cons_of_mem _ (List.mem_append_left _ (List.mem_append_left _ (List.mem_append_right _ h)))) (by decide +kernel))) (goodIn_sub (fun _ h => List.mem_cons_of_mem _ (List.mem_append_left _ (List.mem_append_right _ h))) (by decide +kernel))
set_option maxRecDepth 20000 in
theorem gL_call_L_tryLearn : GoodIn wsL_call (va_wsS RL 118 yL_tryLearn wsL_tryLearn) := goodIn_app (goodIn_of _ (by decide +kernel)) ggL_call_L_tryLearn
set_option maxRecDepth 20000 in
theorem ggL_call_L_tryForget_p0 : GoodIn wsL_call [.codeWith yL_tryForget cL_tryForget 3 (some .int) [(0, 5, 6, 37)]] := goodIn_r _ [313] (by decide +kernel) (by decide +kernel)
set_option maxRecDepth 20000 in
theorem ggL_call_L_tryForget_p1 : GoodIn wsL_call wsL_tryForget_r1 := goodIn_r _ [88, 89, 314, 315, 316, 12, 317, 94, 95, 143, 36, 39, 147, 148, 149, 150, 151, 152, 153, 154, 155, 156, 157, 158] (by decide +kernel) (by decide +kernel)
set_option maxRecDepth 20000 in
theorem ggL_call_L_tryForget_p2 : GoodIn wsL_call wsL_tryForget_r2 := goodIn_r _ [159, 160, 161, 66, 162, 163, 164, 165, 166, 167, 168, 43, 169, 170, 105, 135, 72, 171, 172, 173, 45, 57, 174, 62] (by decide +kernel) (by decide +kernel)
set_option maxRecDepth 20000 in
theorem ggL_call_L_tryForget_p3 : GoodIn wsL_call wsL_tryForget_r3 := goodIn_r _ [84, 175, 176, 177, 178, 100, 179, 180, 181, 182, 183, 184, 185, 186, 187, 188, 189, 190, 191, 192, 193, 318, 319, 320] (by decide +kernel) (by decide +kernel)
set_option maxRecDepth 20000 in
theorem ggL_call_L_tryForget_p4 : GoodIn wsL_call wsL_tryForget_r4 := goodIn_r _ [321, 322, 97, 98, 99, 304, 305, 306, 307, 308, 309, 297, 102, 103, 104, 46, 47, 27, 28, 236, 237, 238, 239, 240] (by decide +kernel) (by decide +kernel)
set_option maxRecDepth 20000 in
theorem ggL_call_L_tryForget_p5 : GoodIn wsL_call wsL_tryForget_r5 := goodIn_r _ [241] (by decide +kernel) (by decide +kernel)
set_option maxRecDepth 20000 in
theorem ggL_call_L_tryForget_p6 : GoodIn wsL_call wsX60 := goodIn_r _ [476, 477, 478, 479, 480, 481] (by decide +kernel) (by decide +kernel)
set_option maxRecDepth 20000 in
theorem ggL_call_L_tryForget_p7 : GoodIn wsL_call wsX40 := goodIn_r _ [484, 485, 486, 487, 488, 489] (by decide +kernel) (by decide +kernel)
set_option maxRecDepth 20000 in
theorem ggL_call_L_tryForget_p8 : GoodIn wsL_call wsX10 := goodIn_r _ [495, 496, 497] (by decide +kernel) (by decide +kernel)
set_option maxRecDepth 20000 in
theorem ggL_call_L_tryForget_p9 : GoodIn wsL_call wsX30 := goodIn_r _ [498] (by decide +kernel) (by decide +kernel)
set_option maxRecDepth 20000 in
theorem ggL_call_L_tryForget_p10 : GoodIn wsL_call wsX00 := goodIn_r _ [490, 491, 492, 493, 494] (by decide +kernel) (by decide +kernel)
set_option maxRecDepth 20000 in
theorem ggL_call_L_tryForget : GoodIn wsL_call wsL_tryForget := goodIn_ca (goodIn_c2 ggL_call_L_tryForget_p0 (goodIn_app (goodIn_app (goodIn_app (goodIn_app (goodIn_app (goodIn_app ggL_call_L_tryForget_p1 (goodIn_app ggL_call_L_tryForget_p2 (goodIn_app ggL_call_L_tryForget_p3 (goodIn_app ggL_call_L_tryForget_p4 ggL_call_L_tryForget_p5)))) ggL_call_L_tryForget_p6) ggL_call_L_tryForget_p7) ggL_call_L_tryForget_p8) ggL_call_L_tryForget_p9) ggL_call_L_tryForget_p10)) (goodIn_sub (fun _ h => List.mem_cons_of_mem _ (List.mem_append_right _ h)) (by decide +kernel))
set_option maxRecDepth 20000 in
theorem gL_call_L_tryForget : GoodIn wsL_call (va_wsS RL 121 yL_tryForget wsL_tryForget) := goodIn_app (goodIn_of _ (by decide +kernel)) ggL_call_L_tryForget
