set_option maxRecDepth 20000 in
theorem wsLin_18 : ∀ w ∈ wsL_law0_r19, w ∈ lw_tbl := fun w h => (goodIn_p wsL_law0_r19 [409, 413, 417, 421, 426] rfl (by decide +kernel) w h).1
set_option maxRecDepth 20000 in
theorem wsLin_19 : ∀ w ∈ wsL_law0_r20, w ∈ lw_tbl := fun w h => (goodIn_p wsL_law0_r20 [699, 703, 707, 712, 719] rfl (by decide +kernel) w h).1
set_option maxRecDepth 20000 in
theorem wsLin_20 : ∀ w ∈ wsL_law0_r21, w ∈ lw_tbl := fun w h => (goodIn_p wsL_law0_r21 [726, 731, 735, 742] rfl (by decide +kernel) w h).1
set_option maxRecDepth 20000 in
theorem wsLin_21 : ∀ w ∈ wsL_law0_r22, w ∈ lw_tbl := fun w h => (goodIn_p wsL_law0_r22 [750, 759, 765] rfl (by decide +kernel) w h).1
set_option maxRecDepth 20000 in
theorem wsLin_22 : ∀ w ∈ wsL_law0_r23, w ∈ lw_tbl := fun w h => (goodIn_p wsL_law0_r23 [195, 266, 290, 474, 485] rfl (by decide +kernel) w h).1
set_option maxRecDepth 20000 in
theorem wsLin_23 : ∀ w ∈ wsL_law0_r24, w ∈ lw_tbl := fun w h => (goodIn_p wsL_law0_r24 [771, 812, 816, 820, 774, 778] rfl (by decide +kernel) w h).1
set_option maxRecDepth 20000 in
theorem wsLin_24 : ∀ w ∈ wsL_law0_r25, w ∈ lw_tbl := fun w h => (goodIn_p wsL_law0_r25 [782, 786, 790, 794, 798, 801] rfl (by decide +kernel) w h).1
set_option maxRecDepth 20000 in
theorem wsLin_25 : ∀ w ∈ wsL_law0_r26, w ∈ lw_tbl := fun w h => (goodIn_p wsL_law0_r26 [805, 809] rfl (by decide +kernel) w h).1
set_option maxRecDepth 20000 in
theorem wsLin_26 : ∀ w ∈ wsX60, w ∈ lw_tbl := fun w h => (goodIn_p wsX60 [] rfl (by decide +kernel) w h).1
set_option maxRecDepth 20000 in
theorem wsLin_27 : ∀ w ∈ wsX40, w ∈ lw_tbl := fun w h => (goodIn_p wsX40 [] rfl (by decide +kernel) w h).1
set_option maxRecDepth 20000 in
theorem wsLin_28 : ∀ w ∈ wsX20, w ∈ lw_tbl := fun w h => (goodIn_p wsX20 [] rfl (by decide +kernel) w h).1
set_option maxRecDepth 20000 in
theorem wsLin_29 : ∀ w ∈ wsX50, w ∈ lw_tbl := fun w h => (goodIn_p wsX50 [] rfl (by decide +kernel) w h).1
set_option maxRecDepth 20000 in
theorem wsLin_30 : ∀ w ∈ wsX10, w ∈ lw_tbl := fun w h => (goodIn_p wsX10 [] rfl (by decide +kernel) w h).1
set_option maxRecDepth 20000 in
theorem wsLin_31 : ∀ w ∈ wsX30, w ∈ lw_tbl := fun w h => (goodIn_p wsX30 [] rfl (by decide +kernel) w h).1
set_option maxRecDepth 20000 in
theorem wsLin_32 : ∀ w ∈ wsX00, w ∈ lw_tbl := fun w h => (goodIn_p wsX00 [] rfl (by decide +kernel) w h).1
theorem wsL_law_in0 : ∀ w ∈ wsL_law0, w ∈ lw_tbl := (List.forall_mem_append.mpr ⟨(List.forall_mem_append.mpr ⟨(List.forall_mem_append.mpr ⟨(List.forall_mem_append.mpr ⟨(List.forall_mem_append.mpr ⟨(List.forall_mem_append.mpr ⟨(List.forall_mem_append.mpr ⟨(List.forall_mem_append.mpr ⟨(List.forall_mem_append.mpr ⟨wsLin_0, (List.forall_mem_append.mpr ⟨wsLin_1, (List.forall_mem_append.mpr ⟨wsLin_2, (List.forall_mem_append.mpr ⟨wsLin_3, (List.forall_mem_append.mpr ⟨wsLin_4, (List.forall_mem_append.mpr ⟨wsLin_5, (List.forall_mem_append.mpr ⟨wsLin_6, (List.forall_mem_append.mpr ⟨wsLin_7, (List.forall_mem_append.mpr ⟨wsLin_8, (List.forall_mem_append.mpr ⟨wsLin_9, (List.forall_mem_append.mpr ⟨wsLin_10, (List.forall_mem_append.mpr ⟨wsLin_11, (List.forall_mem_append.mpr ⟨wsLin_12, (List.forall_mem_append.mpr ⟨wsLin_13, (List.forall_mem_append.mpr ⟨wsLin_14, (List.forall_mem_append.mpr ⟨wsLin_15, (List.forall_mem_append.mpr ⟨wsLin_16, (List.forall_mem_append.mpr ⟨wsLin_17, (List.forall_mem_append.mpr ⟨wsLin_18, (List.forall_mem_append.mpr ⟨wsLin_19, (List.forall_mem_append.mpr ⟨wsLin_20, (List.forall_mem_append.mpr ⟨wsLin_21, (List.forall_mem_append.mpr ⟨wsLin_22, (List.forall_mem_append.mpr ⟨wsLin_23, (List.forall_mem_append.mpr ⟨wsLin_24, wsLin_25⟩)⟩)⟩)⟩)⟩)⟩)⟩)⟩)⟩)⟩)⟩)⟩)⟩)⟩)⟩)⟩)⟩)⟩)⟩)⟩)⟩)⟩)⟩)⟩)⟩), wsLin_26⟩), wsLin_27⟩), wsLin_28⟩), wsLin_29⟩), wsLin_30⟩), wsLin_31⟩), wsLin_32⟩), (fun w h => nomatch h)⟩)
theorem wsL_law_x0 : ∀ w ∈ (vx_atS RX6 53 "java/lang/IllegalArgumentException" ["java/lang/RuntimeException", "java/lang/Exception"]).filter goodWord, w ∈ lw_tbl := by decide +kernel
theorem wsL_law_x1 : ∀ w ∈ (vx_atS RX6 64 "java/lang/IllegalStateException" ["java/lang/RuntimeException", "java/lang/Exception"]).filter goodWord, w ∈ lw_tbl := by decide +kernel
theorem wsL_law_x2 : ∀ w ∈ (vx_atS RX6 114 "java/lang/IndexOutOfBoundsException" ["java/lang/RuntimeException", "java/lang/Exception"]).filter goodWord, w ∈ lw_tbl := by decide +kernel
theorem wsL_law_in : ∀ w ∈ wsL_law, w ∈ lw_tbl := fun w h => (List.mem_append.mp h).elim (fun h => (List.mem_append.mp h).elim (fun h => (List.mem_append.mp h).elim (fun h => wsL_law_in0 w h) (fun h => wsL_law_x0 w h)) (fun h => wsL_law_x1 w h)) (fun h => wsL_law_x2 w h)
