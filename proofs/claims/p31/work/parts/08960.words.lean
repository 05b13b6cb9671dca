/-! the law's words in the tables -/
set_option maxRecDepth 20000 in
theorem wsLin_0 : ∀ w ∈ wsL_law0_r1, w ∈ lw_tbl := fun w h => (goodIn_p wsL_law0_r1 [35, 38] rfl (by decide +kernel) w h).1
set_option maxRecDepth 20000 in
theorem wsLin_1 : ∀ w ∈ wsL_law0_r2, w ∈ lw_tbl := fun w h => (goodIn_p wsL_law0_r2 [43, 49] rfl (by decide +kernel) w h).1
set_option maxRecDepth 20000 in
theorem wsLin_2 : ∀ w ∈ wsL_law0_r3, w ∈ lw_tbl := fun w h => (goodIn_p wsL_law0_r3 [96, 125, 139, 145] rfl (by decide +kernel) w h).1
set_option maxRecDepth 20000 in
theorem wsLin_3 : ∀ w ∈ wsL_law0_r4, w ∈ lw_tbl := fun w h => (goodIn_p wsL_law0_r4 [149, 489, 494, 497] rfl (by decide +kernel) w h).1
set_option maxRecDepth 20000 in
theorem wsLin_4 : ∀ w ∈ wsL_law0_r5, w ∈ lw_tbl := fun w h => (goodIn_p wsL_law0_r5 [505, 526, 337] rfl (by decide +kernel) w h).1
set_option maxRecDepth 20000 in
theorem wsLin_5 : ∀ w ∈ wsL_law0_r6, w ∈ lw_tbl := fun w h => (goodIn_p wsL_law0_r6 [535, 312, 304, 539, 317, 325] rfl (by decide +kernel) w h).1
set_option maxRecDepth 20000 in
theorem wsLin_6 : ∀ w ∈ wsL_law0_r7, w ∈ lw_tbl := fun w h => (goodIn_p wsL_law0_r7 [479, 465, 548, 382] rfl (by decide +kernel) w h).1
set_option maxRecDepth 20000 in
theorem wsLin_7 : ∀ w ∈ wsL_law0_r8, w ∈ lw_tbl := fun w h => (goodIn_p wsL_law0_r8 [558, 406, 373, 585] rfl (by decide +kernel) w h).1
set_option maxRecDepth 20000 in
theorem wsLin_8 : ∀ w ∈ wsL_law0_r9, w ∈ lw_tbl := fun w h => (goodIn_p wsL_law0_r9 [592, 595, 605, 301] rfl (by decide +kernel) w h).1
