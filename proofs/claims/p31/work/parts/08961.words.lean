set_option maxRecDepth 20000 in
theorem wsLin_9 : ∀ w ∈ wsL_law0_r10, w ∈ lw_tbl := fun w h => (goodIn_p wsL_law0_r10 [613, 297, 619, 623, 272, 276] rfl (by decide +kernel) w h).1
set_option maxRecDepth 20000 in
theorem wsLin_10 : ∀ w ∈ wsL_law0_r11, w ∈ lw_tbl := fun w h => (goodIn_p wsL_law0_r11 [279, 282, 294, 308, 321] rfl (by decide +kernel) w h).1
set_option maxRecDepth 20000 in
theorem wsLin_11 : ∀ w ∈ wsL_law0_r12, w ∈ lw_tbl := fun w h => (goodIn_p wsL_law0_r12 [328, 331, 334, 341, 345, 348, 352] rfl (by decide +kernel) w h).1
set_option maxRecDepth 20000 in
theorem wsLin_12 : ∀ w ∈ wsL_law0_r13, w ∈ lw_tbl := fun w h => (goodIn_p wsL_law0_r13 [356, 630, 638, 642, 646] rfl (by decide +kernel) w h).1
set_option maxRecDepth 20000 in
theorem wsLin_13 : ∀ w ∈ wsL_law0_r14, w ∈ lw_tbl := fun w h => (goodIn_p wsL_law0_r14 [394, 398, 651, 360, 658] rfl (by decide +kernel) w h).1
set_option maxRecDepth 20000 in
theorem wsLin_14 : ∀ w ∈ wsL_law0_r15, w ∈ lw_tbl := fun w h => (goodIn_p wsL_law0_r15 [667, 364, 369, 377] rfl (by decide +kernel) w h).1
set_option maxRecDepth 20000 in
theorem wsLin_15 : ∀ w ∈ wsL_law0_r16, w ∈ lw_tbl := fun w h => (goodIn_p wsL_law0_r16 [386, 389, 675, 402, 682] rfl (by decide +kernel) w h).1
set_option maxRecDepth 20000 in
theorem wsLin_16 : ∀ w ∈ wsL_law0_r17, w ∈ lw_tbl := fun w h => (goodIn_p wsL_law0_r17 [456, 430, 434] rfl (by decide +kernel) w h).1
set_option maxRecDepth 20000 in
theorem wsLin_17 : ∀ w ∈ wsL_law0_r18, w ∈ lw_tbl := fun w h => (goodIn_p wsL_law0_r18 [441, 444, 451, 461, 690] rfl (by decide +kernel) w h).1
