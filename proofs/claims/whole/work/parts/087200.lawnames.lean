set_option maxRecDepth 20000 in
theorem ggL_law_X6_init_p0 : GoodIn wsL_law [.code yX6_init cX6_init 1 none] := goodIn_r _ [10] (by decide +kernel) (by decide +kernel)
theorem ggL_law_X6_init_p1 : GoodIn wsL_law wsX6_init_r1 := goodIn_r _ [11, 12, 13, 14, 15, 16, 17, 18, 19, 20, 21, 22, 23, 24, 25, 26, 27, 28, 29, 30, 31, 32, 33, 34] (by decide +kernel) (by decide +kernel)
theorem ggL_law_X6_init_p2 : GoodIn wsL_law wsX6_init_r2 := goodIn_r _ [35, 36, 37, 38, 39, 40, 41, 42, 43, 44, 45, 46, 47, 48, 49, 50, 51, 52, 53, 54, 55, 56, 57, 58] (by decide +kernel) (by decide +kernel)
theorem ggL_law_X6_init_p3 : GoodIn wsL_law wsX6_init_r3 := goodIn_r _ [59, 60, 61, 62, 63, 64, 65, 66, 67, 68, 69, 70, 71, 72, 73, 74, 75, 76, 77, 78] (by decide +kernel) (by decide +kernel)
theorem ggL_law_X6_init_p4 : GoodIn wsL_law wsX40 := goodIn_r _ [897, 898, 899, 900, 901, 902] (by decide +kernel) (by decide +kernel)
theorem ggL_law_X6_init_p5 : GoodIn wsL_law wsX60 := goodIn_r _ [872, 873, 874, 875, 876, 877] (by decide +kernel) (by decide +kernel)
theorem ggL_law_X6_init_p6 : GoodIn wsL_law wsX20 := goodIn_r _ [903, 904, 905, 906, 907, 908] (by decide +kernel) (by decide +kernel)
theorem ggL_law_X6_init_p7 : GoodIn wsL_law wsX50 := goodIn_r _ [909, 910] (by decide +kernel) (by decide +kernel)
theorem ggL_law_X6_init_p8 : GoodIn wsL_law wsX10 := goodIn_r _ [911, 912, 913] (by decide +kernel) (by decide +kernel)
theorem ggL_law_X6_init_p9 : GoodIn wsL_law wsX30 := goodIn_r _ [914] (by decide +kernel) (by decide +kernel)
theorem ggL_law_X6_init_p10 : GoodIn wsL_law wsX00 := goodIn_r _ [915, 916, 917, 918, 919] (by decide +kernel) (by decide +kernel)
theorem ggL_law_X6_init : GoodIn wsL_law wsX6_init := (goodIn_c2 ggL_law_X6_init_p0 (goodIn_app (goodIn_app (goodIn_app (goodIn_app (goodIn_app (goodIn_app (goodIn_app (goodIn_app ggL_law_X6_init_p1 (goodIn_app ggL_law_X6_init_p2 ggL_law_X6_init_p3)) ggL_law_X6_init_p4) ggL_law_X6_init_p5) ggL_law_X6_init_p6) ggL_law_X6_init_p7) ggL_law_X6_init_p8) ggL_law_X6_init_p9) ggL_law_X6_init_p10))
set_option maxRecDepth 20000 in
theorem gL_law_X6_init : GoodIn wsL_law (wsX6_init) := ggL_law_X6_init
set_option maxRecDepth 20000 in
theorem ggL_law_X7_init_p0 : GoodIn wsL_law [.code yX7_init cX7_init 1 none] := goodIn_r _ [81] (by decide +kernel) (by decide +kernel)
theorem ggL_law_X7_init_p1 : GoodIn wsL_law [.methodLink RX7 1 objectInit, .instanceMethod objectInit, .code objectInit ⟨#[0xb1]⟩ 1 none, .arrayClass .int, .fieldLink RX7 7 "RuledStrokesModel" "text" "[I", .fieldLink RX7 13 "RuledStrokesModel" "now" "[I", .fieldLink RX7 16 "RuledStrokesModel" "trial" "[I", .fieldLink RX7 19 "RuledStrokesModel" "diary" "[I", .fieldLink RX7 22 "RuledStrokesModel" "kept" "[I", .arrayClass .boolean, .fieldLink RX7 25 "RuledStrokesModel" "isKept" "[Z", .fieldLink RX7 29 "RuledStrokesModel" "drawn" "[I", .fieldLink RX7 32 "RuledStrokesModel" "one" "[I", .fieldLink RX7 35 "RuledStrokesModel" "two" "[I", .fieldLink RX7 38 "RuledStrokesModel" "costs" "[I"] := goodIn_r _ [82, 12, 13, 42, 83, 84, 85, 86, 87, 88, 89, 90, 91, 92, 93] (by decide +kernel) (by decide +kernel)
theorem ggL_law_X7_init_p2 : GoodIn wsL_law wsX70 := goodIn_r _ [878, 879, 880, 881, 882, 883, 884, 885, 886, 887, 888, 889, 890, 891, 892, 893, 894, 895, 896] (by decide +kernel) (by decide +kernel)
theorem ggL_law_X7_init : GoodIn wsL_law wsX7_init := (goodIn_c2 ggL_law_X7_init_p0 (goodIn_app ggL_law_X7_init_p1 ggL_law_X7_init_p2))
set_option maxRecDepth 20000 in
theorem gL_law_X7_init : GoodIn wsL_law (wsX7_init) := ggL_law_X7_init
set_option maxRecDepth 20000 in
theorem ggL_law_L_append_p0 : GoodIn wsL_law [.codeWith yL_append cL_append 4 (some .int) [(0, 9, 12, 13), (0, 9, 15, 15)]] := goodIn_r _ [97] (by decide +kernel) (by decide +kernel)
set_option maxRecDepth 20000 in
theorem ggL_law_L_append_p1 : GoodIn wsL_law [.classLink RL 13 "java/lang/IllegalArgumentException", .classLink RL 15 "java/lang/IllegalStateException", .methodLink RL 7 yX6_append, .instanceMethod yX6_append, .selects RX6 yX6_append yX6_append, .initialized RX6, .code yX6_append cX6_append 2 (some .int), .classLink RX6 49 "java/lang/IllegalArgumentException", .initialized "java/lang/IllegalArgumentException", .classLink RX6 60 "java/lang/IllegalStateException", .initialized "java/lang/IllegalStateException", .fieldLink RX6 29 "RuledStrokes" "text" "LRuledStrokes$Text;", .fieldLink RX6 56 "RuledStrokes$Text" "length" "I", .methodLink RX6 65 yX5_addCode, .instanceMethod yX5_addCode, .selects RX5 yX5_addCode yX5_addCode, .initialized RX5, .code yX5_addCode cX5_addCode 2 none, .fieldLink RX5 9 "RuledStrokes$Text" "codes" "[I", .fieldLink RX5 15 "RuledStrokes$Text" "length" "I", .static yX6_putCell, .code yX6_putCell cX6_putCell 3 none] := goodIn_r _ [98, 99, 100, 101, 102, 2, 103, 104, 105, 106, 107, 26, 108, 109, 110, 111, 25, 112, 62, 113, 114, 115] (by decide +kernel) (by decide +kernel)
set_option maxRecDepth 20000 in
theorem ggL_law_L_append_p2 : GoodIn wsL_law wsX60 := goodIn_r _ [872, 873, 874, 875, 876, 877] (by decide +kernel) (by decide +kernel)
set_option maxRecDepth 20000 in
theorem ggL_law_L_append_p3 : GoodIn wsL_law wsX50 := goodIn_r _ [909, 910] (by decide +kernel) (by decide +kernel)
set_option maxRecDepth 20000 in
theorem ggL_law_L_append : GoodIn wsL_law wsL_append := goodIn_ca (goodIn_ca (goodIn_c2 ggL_law_L_append_p0 (goodIn_app (goodIn_app ggL_law_L_append_p1 ggL_law_L_append_p2) ggL_law_L_append_p3)) (goodIn_sub (fun _ h => List.mem_append_left _ (List.mem_append_left _ (List.mem_append_right _ h))) (by decide +kernel))) (goodIn_sub (fun _ h => List.mem_append_left _ (List.mem_append_right _ h)) (by decide +kernel))
set_option maxRecDepth 20000 in
theorem gL_law_L_append : GoodIn wsL_law (va_wsS RL 87 yL_append wsL_append) := goodIn_app (goodIn_of _ (by decide +kernel)) ggL_law_L_append
set_option maxRecDepth 20000 in
theorem ggL_law_X7_append_p0 : GoodIn wsL_law [.code yX7_append cX7_append 2 (some .int)] := goodIn_r _ [119] (by decide +kernel) (by decide +kernel)
theorem ggL_law_X7_append_p1 : GoodIn wsL_law [.constantLong RX7 98 (255), .fieldLink RX7 100 "RuledStrokesModel" "size" "I", .fieldLink RX7 7 "RuledStrokesModel" "text" "[I", .methodLink RX7 45 yX7_in, .static yX7_in, .initialized RX7, .code yX7_in cX7_in 6 (some .boolean), .methodLink RX7 102 yX7_refused, .instanceMethod yX7_refused, .selects RX7 yX7_refused yX7_refused, .code yX7_refused cX7_refused 2 (some .boolean), .fieldLink RX7 41 "RuledStrokesModel" "refusal" "I"] := goodIn_r _ [120, 121, 83, 122, 123, 5, 124, 125, 126, 127, 128, 129] (by decide +kernel) (by decide +kernel)
theorem ggL_law_X7_append_p2 : GoodIn wsL_law wsX70 := goodIn_r _ [878, 879, 880, 881, 882, 883, 884, 885, 886, 887, 888, 889, 890, 891, 892, 893, 894, 895, 896] (by decide +kernel) (by decide +kernel)
theorem ggL_law_X7_append : GoodIn wsL_law wsX7_append := (goodIn_c2 ggL_law_X7_append_p0 (goodIn_app ggL_law_X7_append_p1 ggL_law_X7_append_p2))
set_option maxRecDepth 20000 in
theorem gL_law_X7_append : GoodIn wsL_law (wsV RL 92 RX7 yX7_append wsX7_append) := goodIn_app (goodIn_of _ (by decide +kernel)) ggL_law_X7_append
set_option maxRecDepth 20000 in
theorem ggL_law_X7_thrown : GoodIn wsL_law wsX7_thrown := goodIn_r _ [133, 129, 878, 879, 880, 881, 882, 883, 884, 885, 886, 887, 888, 889, 890, 891, 892, 893, 894, 895, 896] (by decide +kernel) (by decide +kernel)
set_option maxRecDepth 20000 in
theorem gL_law_X7_thrown : GoodIn wsL_law (wsV RL 93 RX7 yX7_thrown wsX7_thrown) := goodIn_app (goodIn_of _ (by decide +kernel)) ggL_law_X7_thrown
set_option maxRecDepth 20000 in
theorem ggL_law_X6_clearText : GoodIn wsL_law wsX6_clearText := goodIn_r _ [137, 26, 108, 872, 873, 874, 875, 876, 877, 909, 910] (by decide +kernel) (by decide +kernel)
set_option maxRecDepth 20000 in
theorem gL_law_X6_clearText : GoodIn wsL_law (wsV RL 96 RX6 yX6_clearText wsX6_clearText) := goodIn_app (goodIn_of _ (by decide +kernel)) ggL_law_X6_clearText
set_option maxRecDepth 20000 in
theorem ggL_law_X7_clearText : GoodIn wsL_law wsX7_clearText := goodIn_r _ [141, 129, 121, 878, 879, 880, 881, 882, 883, 884, 885, 886, 887, 888, 889, 890, 891, 892, 893, 894, 895, 896] (by decide +kernel) (by decide +kernel)
set_option maxRecDepth 20000 in
theorem gL_law_X7_clearText : GoodIn wsL_law (wsV RL 99 RX7 yX7_clearText wsX7_clearText) := goodIn_app (goodIn_of _ (by decide +kernel)) ggL_law_X7_clearText
set_option maxRecDepth 20000 in
theorem ggL_law_X6_errorPosition : GoodIn wsL_law wsX6_errorPosition := goodIn_r _ [145, 26, 146, 147, 148, 25, 149, 113, 62, 150, 2, 151, 152, 153, 154, 872, 873, 874, 875, 876, 877, 909, 910] (by decide +kernel) (by decide +kernel)
set_option maxRecDepth 20000 in
theorem gL_law_X6_errorPosition : GoodIn wsL_law (wsV RL 100 RX6 yX6_errorPosition wsX6_errorPosition) := goodIn_app (goodIn_of _ (by decide +kernel)) ggL_law_X6_errorPosition
set_option maxRecDepth 20000 in
theorem ggL_law_X7_errorPosition_p0 : GoodIn wsL_law [.code yX7_errorPosition cX7_errorPosition 1 (some .int)] := goodIn_r _ [158] (by decide +kernel) (by decide +kernel)
theorem ggL_law_X7_errorPosition_p1 : GoodIn wsL_law wsX7_errorPosition_r1 := goodIn_r _ [129, 159, 160, 161, 5, 162, 90, 163, 121, 164, 165, 166, 167, 168, 169, 170, 171, 172, 173, 174, 175, 176, 177, 178] (by decide +kernel) (by decide +kernel)
theorem ggL_law_X7_errorPosition_p2 : GoodIn wsL_law wsX7_errorPosition_r2 := goodIn_r _ [179, 180, 83, 122, 123, 124] (by decide +kernel) (by decide +kernel)
theorem ggL_law_X7_errorPosition_p3 : GoodIn wsL_law wsX70 := goodIn_r _ [878, 879, 880, 881, 882, 883, 884, 885, 886, 887, 888, 889, 890, 891, 892, 893, 894, 895, 896] (by decide +kernel) (by decide +kernel)
theorem ggL_law_X7_errorPosition : GoodIn wsL_law wsX7_errorPosition := (goodIn_c2 ggL_law_X7_errorPosition_p0 (goodIn_app (goodIn_app ggL_law_X7_errorPosition_p1 ggL_law_X7_errorPosition_p2) ggL_law_X7_errorPosition_p3))
set_option maxRecDepth 20000 in
theorem gL_law_X7_errorPosition : GoodIn wsL_law (wsV RL 103 RX7 yX7_errorPosition wsX7_errorPosition) := goodIn_app (goodIn_of _ (by decide +kernel)) ggL_law_X7_errorPosition
set_option maxRecDepth 20000 in
theorem ggL_law_L_about_p0 : GoodIn wsL_law [.codeWith yL_about cL_about 4 (some .int) [(0, 9, 12, 13)]] := goodIn_r _ [183] (by decide +kernel) (by decide +kernel)
set_option maxRecDepth 20000 in
theorem ggL_law_L_about_p1 : GoodIn wsL_law wsL_about_r1 := goodIn_r _ [98, 184, 185, 186, 2, 187, 104, 105, 17, 188, 189, 190, 191, 192, 193, 40, 194, 49, 150, 151, 195, 196, 197, 198] (by decide +kernel) (by decide +kernel)
set_option maxRecDepth 20000 in
theorem ggL_law_L_about_p2 : GoodIn wsL_law wsL_about_r2 := goodIn_r _ [199, 200, 201, 202, 203, 50, 204, 205, 206, 207, 52, 208, 209, 210, 16, 211, 212, 213, 214, 215, 45] (by decide +kernel) (by decide +kernel)
set_option maxRecDepth 20000 in
theorem ggL_law_L_about_p3 : GoodIn wsL_law wsX60 := goodIn_r _ [872, 873, 874, 875, 876, 877] (by decide +kernel) (by decide +kernel)
set_option maxRecDepth 20000 in
theorem ggL_law_L_about_p4 : GoodIn wsL_law wsX40 := goodIn_r _ [897, 898, 899, 900, 901, 902] (by decide +kernel) (by decide +kernel)
set_option maxRecDepth 20000 in
theorem ggL_law_L_about_p5 : GoodIn wsL_law wsX00 := goodIn_r _ [915, 916, 917, 918, 919] (by decide +kernel) (by decide +kernel)
set_option maxRecDepth 20000 in
theorem ggL_law_L_about : GoodIn wsL_law wsL_about := goodIn_ca (goodIn_c2 ggL_law_L_about_p0 (goodIn_app (goodIn_app (goodIn_app (goodIn_app ggL_law_L_about_p1 ggL_law_L_about_p2) ggL_law_L_about_p3) ggL_law_L_about_p4) ggL_law_L_about_p5)) (goodIn_sub (fun _ h => List.mem_append_left _ (List.mem_append_left _ (List.mem_append_right _ h))) (by decide +kernel))
set_option maxRecDepth 20000 in
theorem gL_law_L_about : GoodIn wsL_law (va_wsS RL 104 yL_about wsL_about) := goodIn_app (goodIn_of _ (by decide +kernel)) ggL_law_L_about
set_option maxRecDepth 20000 in
theorem ggL_law_X7_about_p0 : GoodIn wsL_law [.code yX7_about cX7_about 2 (some .int)] := goodIn_r _ [219] (by decide +kernel) (by decide +kernel)
theorem ggL_law_X7_about_p1 : GoodIn wsL_law wsX7_about_r1 := goodIn_r _ [220, 84, 91, 122, 123, 5, 124, 125, 126, 127, 128, 129, 221, 222, 223, 224, 225, 226, 227, 228, 229, 230, 231, 232] (by decide +kernel) (by decide +kernel)
theorem ggL_law_X7_about_p2 : GoodIn wsL_law wsX7_about_r2 := goodIn_r _ [233, 234, 235, 236, 237, 238, 239, 240, 241] (by decide +kernel) (by decide +kernel)
theorem ggL_law_X7_about_p3 : GoodIn wsL_law wsX70 := goodIn_r _ [878, 879, 880, 881, 882, 883, 884, 885, 886, 887, 888, 889, 890, 891, 892, 893, 894, 895, 896] (by decide +kernel) (by decide +kernel)
theorem ggL_law_X7_about : GoodIn wsL_law wsX7_about := (goodIn_c2 ggL_law_X7_about_p0 (goodIn_app (goodIn_app ggL_law_X7_about_p1 ggL_law_X7_about_p2) ggL_law_X7_about_p3))
set_option maxRecDepth 20000 in
theorem gL_law_X7_about : GoodIn wsL_law (wsV RL 106 RX7 yX7_about wsX7_about) := goodIn_app (goodIn_of _ (by decide +kernel)) ggL_law_X7_about
set_option maxRecDepth 20000 in
theorem ggL_law_L_sign_p0 : GoodIn wsL_law [.codeWith yL_sign cL_sign 4 (some .int) [(0, 9, 12, 13)]] := goodIn_r _ [244] (by decide +kernel) (by decide +kernel)
set_option maxRecDepth 20000 in
theorem ggL_law_L_sign_p1 : GoodIn wsL_law [.classLink RL 13 "java/lang/IllegalArgumentException", .methodLink RL 20 yX6_sign, .instanceMethod yX6_sign, .selects RX6 yX6_sign yX6_sign, .initialized RX6, .code yX6_sign cX6_sign 2 (some .int), .classLink RX6 49 "java/lang/IllegalArgumentException", .initialized "java/lang/IllegalArgumentException", .fieldLink RX6 12 "RuledStrokes" "state" "LRuledStrokes$State;", .fieldLink RX6 72 "RuledStrokes$State" "figures" "LRuledStrokes$Figures;", .methodLink RX6 102 yX0_signAt, .instanceMethod yX0_signAt, .selects RX0 yX0_signAt yX0_signAt, .initialized RX0, .code yX0_signAt cX0_signAt 4 (some .int), .fieldLink RX0 21 "RuledStrokes$Figures" "signCounts" "[I", .fieldLink RX0 24 "RuledStrokes$Figures" "signs" "[I", .static yX6_cell, .code yX6_cell cX6_cell 2 (some .int)] := goodIn_r _ [98, 245, 246, 247, 2, 248, 104, 105, 17, 188, 249, 250, 251, 40, 252, 52, 53, 150, 151] (by decide +kernel) (by decide +kernel)
set_option maxRecDepth 20000 in
theorem ggL_law_L_sign_p2 : GoodIn wsL_law wsX60 := goodIn_r _ [872, 873, 874, 875, 876, 877] (by decide +kernel) (by decide +kernel)
set_option maxRecDepth 20000 in
theorem ggL_law_L_sign_p3 : GoodIn wsL_law wsX40 := goodIn_r _ [897, 898, 899, 900, 901, 902] (by decide +kernel) (by decide +kernel)
set_option maxRecDepth 20000 in
theorem ggL_law_L_sign_p4 : GoodIn wsL_law wsX00 := goodIn_r _ [915, 916, 917, 918, 919] (by decide +kernel) (by decide +kernel)
set_option maxRecDepth 20000 in
theorem ggL_law_L_sign : GoodIn wsL_law wsL_sign := goodIn_ca (goodIn_c2 ggL_law_L_sign_p0 (goodIn_app (goodIn_app (goodIn_app ggL_law_L_sign_p1 ggL_law_L_sign_p2) ggL_law_L_sign_p3) ggL_law_L_sign_p4)) (goodIn_sub (fun _ h => List.mem_append_left _ (List.mem_append_left _ (List.mem_append_right _ h))) (by decide +kernel))
set_option maxRecDepth 20000 in
theorem gL_law_L_sign : GoodIn wsL_law (va_wsS RL 107 yL_sign wsL_sign) := goodIn_app (goodIn_of _ (by decide +kernel)) ggL_law_L_sign
set_option maxRecDepth 20000 in
theorem ggL_law_X7_sign_p0 : GoodIn wsL_law [.code yX7_sign cX7_sign 3 (some .int)] := goodIn_r _ [256] (by decide +kernel) (by decide +kernel)
theorem ggL_law_X7_sign_p1 : GoodIn wsL_law [.fieldLink RX7 13 "RuledStrokesModel" "now" "[I", .fieldLink RX7 32 "RuledStrokesModel" "one" "[I", .methodLink RX7 102 yX7_refused, .instanceMethod yX7_refused, .selects RX7 yX7_refused yX7_refused, .initialized RX7, .code yX7_refused cX7_refused 2 (some .boolean), .fieldLink RX7 41 "RuledStrokesModel" "refusal" "I", .methodLink RX7 75 yX7_signature, .static yX7_signature, .code yX7_signature cX7_signature 8 (some .int), .methodLink RX7 57 yX7_next, .static yX7_next, .code yX7_next cX7_next 3 (some .int), .methodLink RX7 61 yX7_cross, .static yX7_cross, .code yX7_cross cX7_cross 13 (some .int), .methodLink RX7 49 yX7_size, .static yX7_size, .code yX7_size cX7_size 1 (some .int), .methodLink RX7 53 yX7_ahead, .static yX7_ahead, .code yX7_ahead cX7_ahead 4 (some .int)] := goodIn_r _ [84, 91, 125, 126, 127, 5, 128, 129, 224, 225, 226, 227, 228, 229, 230, 231, 232, 233, 234, 235, 236, 237, 238] (by decide +kernel) (by decide +kernel)
theorem ggL_law_X7_sign_p2 : GoodIn wsL_law wsX70 := goodIn_r _ [878, 879, 880, 881, 882, 883, 884, 885, 886, 887, 888, 889, 890, 891, 892, 893, 894, 895, 896] (by decide +kernel) (by decide +kernel)
theorem ggL_law_X7_sign : GoodIn wsL_law wsX7_sign := (goodIn_c2 ggL_law_X7_sign_p0 (goodIn_app ggL_law_X7_sign_p1 ggL_law_X7_sign_p2))
set_option maxRecDepth 20000 in
theorem gL_law_X7_sign : GoodIn wsL_law (wsV RL 109 RX7 yX7_sign wsX7_sign) := goodIn_app (goodIn_of _ (by decide +kernel)) ggL_law_X7_sign
set_option maxRecDepth 20000 in
theorem ggL_law_L_sample_p0 : GoodIn wsL_law [.codeWith yL_sample cL_sample 5 (some .int) [(0, 10, 13, 27), (0, 10, 17, 13)]] := goodIn_r _ [259] (by decide +kernel) (by decide +kernel)
set_option maxRecDepth 20000 in
theorem ggL_law_L_sample_p1 : GoodIn wsL_law wsL_sample_r1 := goodIn_r _ [260, 98, 261, 262, 263, 2, 264, 265, 266, 104, 105, 17, 188, 267, 268, 269, 16, 270, 271, 272, 273, 274, 275, 43] (by decide +kernel) (by decide +kernel)
set_option maxRecDepth 20000 in
theorem ggL_law_L_sample_p2 : GoodIn wsL_law wsL_sample_r2 := goodIn_r _ [150, 151, 191, 192, 193, 40, 194, 49, 195, 196, 197, 198, 199, 200, 201, 202, 203, 50, 204, 205, 206, 207, 52] (by decide +kernel) (by decide +kernel)
set_option maxRecDepth 20000 in
theorem ggL_law_L_sample_p3 : GoodIn wsL_law wsX60 := goodIn_r _ [872, 873, 874, 875, 876, 877] (by decide +kernel) (by decide +kernel)
set_option maxRecDepth 20000 in
theorem ggL_law_L_sample_p4 : GoodIn wsL_law wsX40 := goodIn_r _ [897, 898, 899, 900, 901, 902] (by decide +kernel) (by decide +kernel)
set_option maxRecDepth 20000 in
theorem ggL_law_L_sample_p5 : GoodIn wsL_law wsX00 := goodIn_r _ [915, 916, 917, 918, 919] (by decide +kernel) (by decide +kernel)
set_option maxRecDepth 20000 in
theorem ggL_law_L_sample : GoodIn wsL_law wsL_sample := goodIn_ca (goodIn_ca (goodIn_c2 ggL_law_L_sample_p0 (goodIn_app (goodIn_app (goodIn_app (goodIn_app ggL_law_L_sample_p1 ggL_law_L_sample_p2) ggL_law_L_sample_p3) ggL_law_L_sample_p4) ggL_law_L_sample_p5)) (goodIn_sub (fun _ h => List.mem_append_right _ h) (by decide +kernel))) (goodIn_sub (fun _ h => List.mem_append_left _ (List.mem_append_left _ (List.mem_append_right _ h))) (by decide +kernel))
set_option maxRecDepth 20000 in
theorem gL_law_L_sample : GoodIn wsL_law (va_wsS RL 110 yL_sample wsL_sample) := goodIn_app (goodIn_of _ (by decide +kernel)) ggL_law_L_sample
set_option maxRecDepth 20000 in
theorem ggL_law_X7_sample_p0 : GoodIn wsL_law [.code yX7_sample cX7_sample 3 (some .int)] := goodIn_r _ [279] (by decide +kernel) (by decide +kernel)
theorem ggL_law_X7_sample_p1 : GoodIn wsL_law wsX7_sample_r1 := goodIn_r _ [84, 280, 91, 281, 282, 5, 283, 122, 123, 124, 125, 126, 127, 128, 129, 284, 285, 286, 287, 288, 289, 221, 222, 223] (by decide +kernel) (by decide +kernel)
theorem ggL_law_X7_sample_p2 : GoodIn wsL_law wsX7_sample_r2 := goodIn_r _ [224, 225, 226, 227, 228, 229, 230, 231, 232, 233, 234, 235, 236, 237, 238] (by decide +kernel) (by decide +kernel)
theorem ggL_law_X7_sample_p3 : GoodIn wsL_law wsX70 := goodIn_r _ [878, 879, 880, 881, 882, 883, 884, 885, 886, 887, 888, 889, 890, 891, 892, 893, 894, 895, 896] (by decide +kernel) (by decide +kernel)
theorem ggL_law_X7_sample : GoodIn wsL_law wsX7_sample := (goodIn_c2 ggL_law_X7_sample_p0 (goodIn_app (goodIn_app ggL_law_X7_sample_p1 ggL_law_X7_sample_p2) ggL_law_X7_sample_p3))
set_option maxRecDepth 20000 in
theorem gL_law_X7_sample : GoodIn wsL_law (wsV RL 113 RX7 yX7_sample wsX7_sample) := goodIn_app (goodIn_of _ (by decide +kernel)) ggL_law_X7_sample
set_option maxRecDepth 20000 in
theorem ggL_law_L_signOf_p0 : GoodIn wsL_law [.codeWith yL_signOf cL_signOf 5 (some .int) [(0, 10, 13, 27), (0, 10, 17, 13)]] := goodIn_r _ [292] (by decide +kernel) (by decide +kernel)
set_option maxRecDepth 20000 in
theorem ggL_law_L_signOf_p1 : GoodIn wsL_law wsL_signOf_r1 := goodIn_r _ [260, 98, 293, 294, 295, 2, 296, 265, 266, 104, 105, 17, 188, 267, 268, 269, 16, 270, 271, 249, 250, 251, 40, 252] (by decide +kernel) (by decide +kernel)
set_option maxRecDepth 20000 in
theorem ggL_law_L_signOf_p2 : GoodIn wsL_law wsL_signOf_r2 := goodIn_r _ [52, 53, 150, 151] (by decide +kernel) (by decide +kernel)
set_option maxRecDepth 20000 in
theorem ggL_law_L_signOf_p3 : GoodIn wsL_law wsX60 := goodIn_r _ [872, 873, 874, 875, 876, 877] (by decide +kernel) (by decide +kernel)
set_option maxRecDepth 20000 in
theorem ggL_law_L_signOf_p4 : GoodIn wsL_law wsX40 := goodIn_r _ [897, 898, 899, 900, 901, 902] (by decide +kernel) (by decide +kernel)
set_option maxRecDepth 20000 in
theorem ggL_law_L_signOf_p5 : GoodIn wsL_law wsX00 := goodIn_r _ [915, 916, 917, 918, 919] (by decide +kernel) (by decide +kernel)
set_option maxRecDepth 20000 in
theorem ggL_law_L_signOf : GoodIn wsL_law wsL_signOf := goodIn_ca (goodIn_ca (goodIn_c2 ggL_law_L_signOf_p0 (goodIn_app (goodIn_app (goodIn_app (goodIn_app ggL_law_L_signOf_p1 ggL_law_L_signOf_p2) ggL_law_L_signOf_p3) ggL_law_L_signOf_p4) ggL_law_L_signOf_p5)) (goodIn_sub (fun _ h => List.mem_append_right _ h) (by decide +kernel))) (goodIn_sub (fun _ h => List.mem_append_left _ (List.mem_append_left _ (List.mem_append_right _ h))) (by decide +kernel))
set_option maxRecDepth 20000 in
theorem gL_law_L_signOf : GoodIn wsL_law (va_wsS RL 114 yL_signOf wsL_signOf) := goodIn_app (goodIn_of _ (by decide +kernel)) ggL_law_L_signOf
set_option maxRecDepth 20000 in
theorem ggL_law_X7_signOf_p0 : GoodIn wsL_law [.code yX7_signOf cX7_signOf 4 (some .int)] := goodIn_r _ [300] (by decide +kernel) (by decide +kernel)
theorem ggL_law_X7_signOf_p1 : GoodIn wsL_law wsX7_signOf_r1 := goodIn_r _ [84, 91, 281, 282, 5, 283, 122, 123, 124, 125, 126, 127, 128, 129, 287, 288, 289, 224, 225, 226, 227, 228, 229, 230] (by decide +kernel) (by decide +kernel)
theorem ggL_law_X7_signOf_p2 : GoodIn wsL_law wsX7_signOf_r2 := goodIn_r _ [231, 232, 233, 234, 235, 236, 237, 238] (by decide +kernel) (by decide +kernel)
theorem ggL_law_X7_signOf_p3 : GoodIn wsL_law wsX70 := goodIn_r _ [878, 879, 880, 881, 882, 883, 884, 885, 886, 887, 888, 889, 890, 891, 892, 893, 894, 895, 896] (by decide +kernel) (by decide +kernel)
theorem ggL_law_X7_signOf : GoodIn wsL_law wsX7_signOf := (goodIn_c2 ggL_law_X7_signOf_p0 (goodIn_app (goodIn_app ggL_law_X7_signOf_p1 ggL_law_X7_signOf_p2) ggL_law_X7_signOf_p3))
set_option maxRecDepth 20000 in
theorem gL_law_X7_signOf : GoodIn wsL_law (wsV RL 116 RX7 yX7_signOf wsX7_signOf) := goodIn_app (goodIn_of _ (by decide +kernel)) ggL_law_X7_signOf
set_option maxRecDepth 20000 in
theorem ggL_law_L_practised_p0 : GoodIn wsL_law [.codeWith yL_practised cL_practised 5 (some .int) [(0, 10, 13, 13)]] := goodIn_r _ [303] (by decide +kernel) (by decide +kernel)
set_option maxRecDepth 20000 in
theorem ggL_law_L_practised_p1 : GoodIn wsL_law [.classLink RL 13 "java/lang/IllegalArgumentException", .methodLink RL 32 yX6_practised, .instanceMethod yX6_practised, .selects RX6 yX6_practised yX6_practised, .initialized RX6, .code yX6_practised cX6_practised 3 (some .int), .classLink RX6 49 "java/lang/IllegalArgumentException", .initialized "java/lang/IllegalArgumentException", .fieldLink RX6 12 "RuledStrokes" "state" "LRuledStrokes$State;", .methodLink RX6 120 yX6_isName, .static yX6_isName, .code yX6_isName cX6_isName 1 (some .boolean), .methodLink RX6 127 yX4_outcomeOf, .instanceMethod yX4_outcomeOf, .selects RX4 yX4_outcomeOf yX4_outcomeOf, .initialized RX4, .code yX4_outcomeOf cX4_outcomeOf 3 (some .int), .fieldLink RX4 25 "RuledStrokes$State" "outcomes" "[I", .static yX6_cell, .code yX6_cell cX6_cell 2 (some .int)] := goodIn_r _ [98, 304, 305, 306, 2, 307, 104, 105, 17, 308, 309, 310, 311, 213, 214, 16, 215, 45, 150, 151] (by decide +kernel) (by decide +kernel)
set_option maxRecDepth 20000 in
theorem ggL_law_L_practised_p2 : GoodIn wsL_law wsX60 := goodIn_r _ [872, 873, 874, 875, 876, 877] (by decide +kernel) (by decide +kernel)
set_option maxRecDepth 20000 in
theorem ggL_law_L_practised_p3 : GoodIn wsL_law wsX40 := goodIn_r _ [897, 898, 899, 900, 901, 902] (by decide +kernel) (by decide +kernel)
set_option maxRecDepth 20000 in
theorem ggL_law_L_practised : GoodIn wsL_law wsL_practised := goodIn_ca (goodIn_c2 ggL_law_L_practised_p0 (goodIn_app (goodIn_app ggL_law_L_practised_p1 ggL_law_L_practised_p2) ggL_law_L_practised_p3)) (goodIn_sub (fun _ h => List.mem_append_left _ (List.mem_append_left _ (List.mem_append_right _ h))) (by decide +kernel))
set_option maxRecDepth 20000 in
theorem gL_law_L_practised : GoodIn wsL_law (va_wsS RL 117 yL_practised wsL_practised) := goodIn_app (goodIn_of _ (by decide +kernel)) ggL_law_L_practised
set_option maxRecDepth 20000 in
theorem ggL_law_X7_practised_p0 : GoodIn wsL_law [.code yX7_practised cX7_practised 3 (some .int)] := goodIn_r _ [315] (by decide +kernel) (by decide +kernel)
theorem ggL_law_X7_practised_p1 : GoodIn wsL_law [.constantLong RX7 154 (2), .fieldLink RX7 13 "RuledStrokesModel" "now" "[I", .methodLink RX7 151 yX7_isName, .static yX7_isName, .initialized RX7, .code yX7_isName cX7_isName 1 (some .boolean), .constantLong RX7 149 (9), .methodLink RX7 45 yX7_in, .static yX7_in, .code yX7_in cX7_in 6 (some .boolean), .methodLink RX7 102 yX7_refused, .instanceMethod yX7_refused, .selects RX7 yX7_refused yX7_refused, .code yX7_refused cX7_refused 2 (some .boolean), .fieldLink RX7 41 "RuledStrokesModel" "refusal" "I"] := goodIn_r _ [316, 84, 317, 318, 5, 319, 320, 122, 123, 124, 125, 126, 127, 128, 129] (by decide +kernel) (by decide +kernel)
theorem ggL_law_X7_practised_p2 : GoodIn wsL_law wsX70 := goodIn_r _ [878, 879, 880, 881, 882, 883, 884, 885, 886, 887, 888, 889, 890, 891, 892, 893, 894, 895, 896] (by decide +kernel) (by decide +kernel)
theorem ggL_law_X7_practised : GoodIn wsL_law wsX7_practised := (goodIn_c2 ggL_law_X7_practised_p0 (goodIn_app ggL_law_X7_practised_p1 ggL_law_X7_practised_p2))
set_option maxRecDepth 20000 in
theorem gL_law_X7_practised : GoodIn wsL_law (wsV RL 119 RX7 yX7_practised wsX7_practised) := goodIn_app (goodIn_of _ (by decide +kernel)) ggL_law_X7_practised
set_option maxRecDepth 20000 in
theorem ggL_law_L_setting : GoodIn wsL_law wsL_setting := goodIn_ca (goodIn_r _ [323, 98, 324, 325, 326, 2, 327, 104, 105, 17, 328, 329, 330, 16, 331, 44, 150, 151, 872, 873, 874, 875, 876, 877, 897, 898, 899, 900, 901, 902] (by decide +kernel) (by decide +kernel)) (goodIn_sub (fun _ h => List.mem_append_left _ (List.mem_append_left _ (List.mem_append_right _ h))) (by decide +kernel))
set_option maxRecDepth 20000 in
theorem gL_law_L_setting : GoodIn wsL_law (va_wsS RL 120 yL_setting wsL_setting) := goodIn_app (goodIn_of _ (by decide +kernel)) ggL_law_L_setting
set_option maxRecDepth 20000 in
theorem ggL_law_X7_setting_p0 : GoodIn wsL_law [.code yX7_setting cX7_setting 2 (some .int)] := goodIn_r _ [335] (by decide +kernel) (by decide +kernel)
theorem ggL_law_X7_setting_p1 : GoodIn wsL_law [.constantLong RX7 154 (2), .fieldLink RX7 13 "RuledStrokesModel" "now" "[I", .methodLink RX7 45 yX7_in, .static yX7_in, .initialized RX7, .code yX7_in cX7_in 6 (some .boolean), .methodLink RX7 102 yX7_refused, .instanceMethod yX7_refused, .selects RX7 yX7_refused yX7_refused, .code yX7_refused cX7_refused 2 (some .boolean), .fieldLink RX7 41 "RuledStrokesModel" "refusal" "I"] := goodIn_r _ [316, 84, 122, 123, 5, 124, 125, 126, 127, 128, 129] (by decide +kernel) (by decide +kernel)
theorem ggL_law_X7_setting_p2 : GoodIn wsL_law wsX70 := goodIn_r _ [878, 879, 880, 881, 882, 883, 884, 885, 886, 887, 888, 889, 890, 891, 892, 893, 894, 895, 896] (by decide +kernel) (by decide +kernel)
theorem ggL_law_X7_setting : GoodIn wsL_law wsX7_setting := (goodIn_c2 ggL_law_X7_setting_p0 (goodIn_app ggL_law_X7_setting_p1 ggL_law_X7_setting_p2))
set_option maxRecDepth 20000 in
theorem gL_law_X7_setting : GoodIn wsL_law (wsV RL 122 RX7 yX7_setting wsX7_setting) := goodIn_app (goodIn_of _ (by decide +kernel)) ggL_law_X7_setting
set_option maxRecDepth 20000 in
theorem ggL_law_L_point_p0 : GoodIn wsL_law [.codeWith yL_point cL_point 5 (some .int) [(0, 10, 13, 13), (0, 10, 17, 15)]] := goodIn_r _ [338] (by decide +kernel) (by decide +kernel)
set_option maxRecDepth 20000 in
theorem ggL_law_L_point_p1 : GoodIn wsL_law wsL_point_r1 := goodIn_r _ [98, 99, 339, 340, 341, 2, 342, 104, 105, 106, 107, 30, 17, 188, 343, 344, 345, 346, 347, 348, 29, 349, 67, 350] (by decide +kernel) (by decide +kernel)
set_option maxRecDepth 20000 in
theorem ggL_law_L_point_p2 : GoodIn wsL_law wsL_point_r2 := goodIn_r _ [351, 352, 353, 33, 354, 77, 76, 15, 16, 35, 36, 37, 12, 13, 38, 39, 40, 41, 42, 43, 44, 45, 46, 47] (by decide +kernel) (by decide +kernel)
set_option maxRecDepth 20000 in
theorem ggL_law_L_point_p3 : GoodIn wsL_law wsL_point_r3 := goodIn_r _ [48, 49, 50, 51, 52, 53, 355, 356, 357, 358, 271, 359, 360, 361, 362, 363, 364, 365, 366, 367, 74, 368, 369, 370] (by decide +kernel) (by decide +kernel)
set_option maxRecDepth 20000 in
theorem ggL_law_L_point_p4 : GoodIn wsL_law wsL_point_r4 := goodIn_r _ [371, 372, 373, 374, 375, 376, 377, 329, 330, 331, 150, 151, 378, 379, 380, 381, 199, 192, 193, 194, 200, 201, 202, 203] (by decide +kernel) (by decide +kernel)
set_option maxRecDepth 20000 in
theorem ggL_law_L_point_p5 : GoodIn wsL_law wsL_point_r5 := goodIn_r _ [382, 383, 384, 385, 386, 205, 206, 207, 387, 388, 389, 390, 391, 392, 393, 394, 395, 114, 115, 396, 397, 398, 399, 400] (by decide +kernel) (by decide +kernel)
set_option maxRecDepth 20000 in
theorem ggL_law_L_point_p6 : GoodIn wsL_law wsL_point_r6 := goodIn_r _ [401, 402, 403, 404, 405, 406, 407, 408, 409, 410, 411, 412, 413, 414, 415, 416, 417, 418, 419, 420, 204] (by decide +kernel) (by decide +kernel)
set_option maxRecDepth 20000 in
theorem ggL_law_L_point_p7 : GoodIn wsL_law wsX60 := goodIn_r _ [872, 873, 874, 875, 876, 877] (by decide +kernel) (by decide +kernel)
set_option maxRecDepth 20000 in
theorem ggL_law_L_point_p8 : GoodIn wsL_law wsX40 := goodIn_r _ [897, 898, 899, 900, 901, 902] (by decide +kernel) (by decide +kernel)
set_option maxRecDepth 20000 in
theorem ggL_law_L_point_p9 : GoodIn wsL_law wsX10 := goodIn_r _ [911, 912, 913] (by decide +kernel) (by decide +kernel)
set_option maxRecDepth 20000 in
theorem ggL_law_L_point_p10 : GoodIn wsL_law wsX30 := goodIn_r _ [914] (by decide +kernel) (by decide +kernel)
set_option maxRecDepth 20000 in
theorem ggL_law_L_point_p11 : GoodIn wsL_law wsX00 := goodIn_r _ [915, 916, 917, 918, 919] (by decide +kernel) (by decide +kernel)
set_option maxRecDepth 20000 in
theorem ggL_law_L_point : GoodIn wsL_law wsL_point := goodIn_ca (goodIn_ca (goodIn_c2 ggL_law_L_point_p0 (goodIn_app (goodIn_app (goodIn_app (goodIn_app (goodIn_app (goodIn_app ggL_law_L_point_p1 (goodIn_app ggL_law_L_point_p2 (goodIn_app ggL_law_L_point_p3 (goodIn_app ggL_law_L_point_p4 (goodIn_app ggL_law_L_point_p5 ggL_law_L_point_p6))))) ggL_law_L_point_p7) ggL_law_L_point_p8) ggL_law_L_point_p9) ggL_law_L_point_p10) ggL_law_L_point_p11)) (goodIn_sub (fun _ h => List.mem_append_left _ (List.mem_append_left _ (List.mem_append_right _ h))) (by decide +kernel))) (goodIn_sub (fun _ h => List.mem_append_left _ (List.mem_append_right _ h)) (by decide +kernel))
set_option maxRecDepth 20000 in
theorem gL_law_L_point : GoodIn wsL_law (va_wsS RL 123 yL_point wsL_point) := goodIn_app (goodIn_of _ (by decide +kernel)) ggL_law_L_point
set_option maxRecDepth 20000 in
theorem ggL_law_X7_point_p0 : GoodIn wsL_law [.code yX7_point cX7_point 3 (some .int)] := goodIn_r _ [424] (by decide +kernel) (by decide +kernel)
theorem ggL_law_X7_point_p1 : GoodIn wsL_law wsX7_point_r1 := goodIn_r _ [84, 85, 91, 425, 426, 5, 427, 428, 122, 123, 124, 125, 126, 127, 128, 129, 429, 430, 431, 432, 433, 434, 435, 224] (by decide +kernel) (by decide +kernel)
theorem ggL_law_X7_point_p2 : GoodIn wsL_law wsX7_point_r2 := goodIn_r _ [225, 226, 227, 228, 229, 230, 231, 232, 233, 234, 235, 236, 237, 238, 436, 437, 438, 439, 440, 86] (by decide +kernel) (by decide +kernel)
theorem ggL_law_X7_point_p3 : GoodIn wsL_law wsX70 := goodIn_r _ [878, 879, 880, 881, 882, 883, 884, 885, 886, 887, 888, 889, 890, 891, 892, 893, 894, 895, 896] (by decide +kernel) (by decide +kernel)
theorem ggL_law_X7_point : GoodIn wsL_law wsX7_point := (goodIn_c2 ggL_law_X7_point_p0 (goodIn_app (goodIn_app ggL_law_X7_point_p1 ggL_law_X7_point_p2) ggL_law_X7_point_p3))
set_option maxRecDepth 20000 in
theorem gL_law_X7_point : GoodIn wsL_law (wsV RL 125 RX7 yX7_point wsX7_point) := goodIn_app (goodIn_of _ (by decide +kernel)) ggL_law_X7_point
set_option maxRecDepth 20000 in
theorem ggL_law_X6_lift_p0 : GoodIn wsL_law [.code yX6_lift cX6_lift 1 (some .int)] := goodIn_r _ [444] (by decide +kernel) (by decide +kernel)
theorem ggL_law_X6_lift_p1 : GoodIn wsL_law wsX6_lift_r1 := goodIn_r _ [30, 17, 188, 445, 446, 447, 29, 448, 449, 347, 348, 349, 67, 350, 351, 352, 353, 33, 354, 77, 76, 15, 16, 35] (by decide +kernel) (by decide +kernel)
theorem ggL_law_X6_lift_p2 : GoodIn wsL_law wsX6_lift_r2 := goodIn_r _ [36, 37, 12, 13, 38, 39, 40, 41, 42, 43, 44, 45, 46, 47, 48, 49, 50, 51, 52, 53, 355, 356, 357, 358] (by decide +kernel) (by decide +kernel)
theorem ggL_law_X6_lift_p3 : GoodIn wsL_law wsX6_lift_r3 := goodIn_r _ [271, 359, 360, 361, 362, 363, 364, 2, 365, 366, 367, 74, 368, 369, 370, 371, 372, 450, 416, 417, 418, 419, 420, 451] (by decide +kernel) (by decide +kernel)
theorem ggL_law_X6_lift_p4 : GoodIn wsL_law wsX6_lift_r4 := goodIn_r _ [452, 453, 454, 191, 192, 193, 194, 150, 151] (by decide +kernel) (by decide +kernel)
theorem ggL_law_X6_lift_p5 : GoodIn wsL_law wsX60 := goodIn_r _ [872, 873, 874, 875, 876, 877] (by decide +kernel) (by decide +kernel)
theorem ggL_law_X6_lift_p6 : GoodIn wsL_law wsX40 := goodIn_r _ [897, 898, 899, 900, 901, 902] (by decide +kernel) (by decide +kernel)
theorem ggL_law_X6_lift_p7 : GoodIn wsL_law wsX10 := goodIn_r _ [911, 912, 913] (by decide +kernel) (by decide +kernel)
theorem ggL_law_X6_lift_p8 : GoodIn wsL_law wsX30 := goodIn_r _ [914] (by decide +kernel) (by decide +kernel)
theorem ggL_law_X6_lift_p9 : GoodIn wsL_law wsX00 := goodIn_r _ [915, 916, 917, 918, 919] (by decide +kernel) (by decide +kernel)
theorem ggL_law_X6_lift : GoodIn wsL_law wsX6_lift := (goodIn_c2 ggL_law_X6_lift_p0 (goodIn_app (goodIn_app (goodIn_app (goodIn_app (goodIn_app (goodIn_app ggL_law_X6_lift_p1 (goodIn_app ggL_law_X6_lift_p2 (goodIn_app ggL_law_X6_lift_p3 ggL_law_X6_lift_p4))) ggL_law_X6_lift_p5) ggL_law_X6_lift_p6) ggL_law_X6_lift_p7) ggL_law_X6_lift_p8) ggL_law_X6_lift_p9))
set_option maxRecDepth 20000 in
theorem gL_law_X6_lift : GoodIn wsL_law (wsV RL 126 RX6 yX6_lift wsX6_lift) := goodIn_app (goodIn_of _ (by decide +kernel)) ggL_law_X6_lift
set_option maxRecDepth 20000 in
theorem ggL_law_X7_lift_p0 : GoodIn wsL_law [.code yX7_lift cX7_lift 1 (some .int)] := goodIn_r _ [458] (by decide +kernel) (by decide +kernel)
theorem ggL_law_X7_lift_p1 : GoodIn wsL_law [.fieldLink RX7 41 "RuledStrokesModel" "refusal" "I", .fieldLink RX7 13 "RuledStrokesModel" "now" "[I", .methodLink RX7 173 yX7_remember, .instanceMethod yX7_remember, .selects RX7 yX7_remember yX7_remember, .initialized RX7, .code yX7_remember cX7_remember 2 none, .fieldLink RX7 156 "RuledStrokesModel" "acts" "I", .fieldLink RX7 19 "RuledStrokesModel" "diary" "[I", .methodLink RX7 159 yX7_copyState, .static yX7_copyState, .code yX7_copyState cX7_copyState 5 none] := goodIn_r _ [129, 84, 436, 437, 438, 5, 439, 440, 86, 429, 430, 431] (by decide +kernel) (by decide +kernel)
theorem ggL_law_X7_lift_p2 : GoodIn wsL_law wsX70 := goodIn_r _ [878, 879, 880, 881, 882, 883, 884, 885, 886, 887, 888, 889, 890, 891, 892, 893, 894, 895, 896] (by decide +kernel) (by decide +kernel)
theorem ggL_law_X7_lift : GoodIn wsL_law wsX7_lift := (goodIn_c2 ggL_law_X7_lift_p0 (goodIn_app ggL_law_X7_lift_p1 ggL_law_X7_lift_p2))
set_option maxRecDepth 20000 in
theorem gL_law_X7_lift : GoodIn wsL_law (wsV RL 129 RX7 yX7_lift wsX7_lift) := goodIn_app (goodIn_of _ (by decide +kernel)) ggL_law_X7_lift
set_option maxRecDepth 20000 in
theorem ggL_law_L_draw_p0 : GoodIn wsL_law [.codeWith yL_draw cL_draw 3 (some .int) [(0, 8, 11, 15)]] := goodIn_r _ [461] (by decide +kernel) (by decide +kernel)
set_option maxRecDepth 20000 in
theorem ggL_law_L_draw_p1 : GoodIn wsL_law wsL_draw_r1 := goodIn_r _ [99, 462, 463, 464, 2, 465, 106, 107, 26, 18, 17, 30, 188, 146, 147, 148, 25, 149, 113, 62, 150, 151, 152, 153] (by decide +kernel) (by decide +kernel)
set_option maxRecDepth 20000 in
theorem ggL_law_L_draw_p2 : GoodIn wsL_law wsL_draw_r2 := goodIn_r _ [154, 466, 356, 357, 16, 358, 41, 43, 44, 45, 271, 359, 360, 361, 362, 40, 363, 49, 50, 51, 52, 53, 364, 365] (by decide +kernel) (by decide +kernel)
set_option maxRecDepth 20000 in
theorem ggL_law_L_draw_p3 : GoodIn wsL_law wsL_draw_r3 := goodIn_r _ [366, 367, 74, 368, 369, 370, 371, 372, 467, 468, 469, 470, 471, 472, 473, 474, 114, 115, 475, 476, 477, 478, 479, 374] (by decide +kernel) (by decide +kernel)
set_option maxRecDepth 20000 in
theorem ggL_law_L_draw_p4 : GoodIn wsL_law wsL_draw_r4 := goodIn_r _ [375, 376, 344, 345, 377, 329, 330, 331, 378, 379, 380, 381, 199, 192, 193, 194, 200, 201, 202, 203, 382, 383, 384, 385] (by decide +kernel) (by decide +kernel)
set_option maxRecDepth 20000 in
theorem ggL_law_L_draw_p5 : GoodIn wsL_law wsL_draw_r5 := goodIn_r _ [386, 205, 206, 207, 387, 388, 389, 390, 391, 392, 393, 394, 395, 396, 397, 398, 399, 400, 401, 402, 403, 404, 405, 406] (by decide +kernel) (by decide +kernel)
set_option maxRecDepth 20000 in
theorem ggL_law_L_draw_p6 : GoodIn wsL_law wsL_draw_r6 := goodIn_r _ [407, 408, 409, 410, 411, 412, 413, 414, 480, 452, 453, 454, 445, 446, 447, 29, 448, 449, 347, 348, 349, 67, 350, 351] (by decide +kernel) (by decide +kernel)
set_option maxRecDepth 20000 in
theorem ggL_law_L_draw_p7 : GoodIn wsL_law wsL_draw_r7 := goodIn_r _ [352, 353, 33, 354, 77, 76, 15, 35, 36, 37, 12, 13, 38, 39, 42, 46, 47, 48, 355, 450, 416, 417, 418, 419] (by decide +kernel) (by decide +kernel)
set_option maxRecDepth 20000 in
theorem ggL_law_L_draw_p8 : GoodIn wsL_law wsL_draw_r8 := goodIn_r _ [420, 204] (by decide +kernel) (by decide +kernel)
set_option maxRecDepth 20000 in
theorem ggL_law_L_draw_p9 : GoodIn wsL_law wsX60 := goodIn_r _ [872, 873, 874, 875, 876, 877] (by decide +kernel) (by decide +kernel)
set_option maxRecDepth 20000 in
theorem ggL_law_L_draw_p10 : GoodIn wsL_law wsX40 := goodIn_r _ [897, 898, 899, 900, 901, 902] (by decide +kernel) (by decide +kernel)
set_option maxRecDepth 20000 in
theorem ggL_law_L_draw_p11 : GoodIn wsL_law wsX50 := goodIn_r _ [909, 910] (by decide +kernel) (by decide +kernel)
set_option maxRecDepth 20000 in
theorem ggL_law_L_draw_p12 : GoodIn wsL_law wsX00 := goodIn_r _ [915, 916, 917, 918, 919] (by decide +kernel) (by decide +kernel)
set_option maxRecDepth 20000 in
theorem ggL_law_L_draw_p13 : GoodIn wsL_law wsX10 := goodIn_r _ [911, 912, 913] (by decide +kernel) (by decide +kernel)
set_option maxRecDepth 20000 in
theorem ggL_law_L_draw_p14 : GoodIn wsL_law wsX30 := goodIn_r _ [914] (by decide +kernel) (by decide +kernel)
set_option maxRecDepth 20000 in
theorem ggL_law_L_draw : GoodIn wsL_law wsL_draw := goodIn_ca (goodIn_c2 ggL_law_L_draw_p0 (goodIn_app (goodIn_app (goodIn_app (goodIn_app (goodIn_app (goodIn_app (goodIn_app ggL_law_L_draw_p1 (goodIn_app ggL_law_L_draw_p2 (goodIn_app ggL_law_L_draw_p3 (goodIn_app ggL_law_L_draw_p4 (goodIn_app ggL_law_L_draw_p5 (goodIn_app ggL_law_L_draw_p6 (goodIn_app ggL_law_L_draw_p7 ggL_law_L_draw_p8))))))) ggL_law_L_draw_p9) ggL_law_L_draw_p10) ggL_law_L_draw_p11) ggL_law_L_draw_p12) ggL_law_L_draw_p13) ggL_law_L_draw_p14)) (goodIn_sub (fun _ h => List.mem_append_left _ (List.mem_append_right _ h)) (by decide +kernel))
set_option maxRecDepth 20000 in
theorem gL_law_L_draw : GoodIn wsL_law (va_wsS RL 130 yL_draw wsL_draw) := goodIn_app (goodIn_of _ (by decide +kernel)) ggL_law_L_draw
set_option maxRecDepth 20000 in
theorem ggL_law_X7_draw_p0 : GoodIn wsL_law [.code yX7_draw cX7_draw 2 (some .int)] := goodIn_r _ [484] (by decide +kernel) (by decide +kernel)
theorem ggL_law_X7_draw_p1 : GoodIn wsL_law wsX7_draw_r1 := goodIn_r _ [90, 84, 91, 159, 160, 161, 5, 162, 163, 121, 164, 165, 166, 167, 168, 169, 170, 171, 172, 173, 174, 175, 176, 177] (by decide +kernel) (by decide +kernel)
theorem ggL_law_X7_draw_p2 : GoodIn wsL_law wsX7_draw_r2 := goodIn_r _ [178, 179, 180, 83, 122, 123, 124, 224, 225, 226, 227, 228, 229, 230, 231, 232, 233, 234, 235, 236, 237, 238, 125, 126] (by decide +kernel) (by decide +kernel)
theorem ggL_law_X7_draw_p3 : GoodIn wsL_law wsX7_draw_r3 := goodIn_r _ [127, 128, 129, 436, 437, 438, 439, 440, 86, 429, 430, 431] (by decide +kernel) (by decide +kernel)
theorem ggL_law_X7_draw_p4 : GoodIn wsL_law wsX70 := goodIn_r _ [878, 879, 880, 881, 882, 883, 884, 885, 886, 887, 888, 889, 890, 891, 892, 893, 894, 895, 896] (by decide +kernel) (by decide +kernel)
theorem ggL_law_X7_draw : GoodIn wsL_law wsX7_draw := (goodIn_c2 ggL_law_X7_draw_p0 (goodIn_app (goodIn_app ggL_law_X7_draw_p1 (goodIn_app ggL_law_X7_draw_p2 ggL_law_X7_draw_p3)) ggL_law_X7_draw_p4))
set_option maxRecDepth 20000 in
theorem gL_law_X7_draw : GoodIn wsL_law (wsV RL 133 RX7 yX7_draw wsX7_draw) := goodIn_app (goodIn_of _ (by decide +kernel)) ggL_law_X7_draw
set_option maxRecDepth 20000 in
theorem ggL_law_L_learn_p0 : GoodIn wsL_law [.codeWith yL_learn cL_learn 4 (some .int) [(0, 9, 12, 13), (0, 9, 15, 15)]] := goodIn_r _ [487] (by decide +kernel) (by decide +kernel)
set_option maxRecDepth 20000 in
theorem ggL_law_L_learn_p1 : GoodIn wsL_law wsL_learn_r1 := goodIn_r _ [98, 99, 488, 489, 490, 2, 491, 104, 105, 106, 107, 30, 17, 190, 308, 309, 310, 346, 347, 348, 29, 349, 67, 350] (by decide +kernel) (by decide +kernel)
set_option maxRecDepth 20000 in
theorem ggL_law_L_learn_p2 : GoodIn wsL_law wsL_learn_r2 := goodIn_r _ [351, 352, 353, 33, 354, 77, 76, 15, 16, 35, 36, 37, 12, 13, 38, 39, 40, 41, 42, 43, 44, 45, 46, 47] (by decide +kernel) (by decide +kernel)
set_option maxRecDepth 20000 in
theorem ggL_law_L_learn_p3 : GoodIn wsL_law wsL_learn_r3 := goodIn_r _ [48, 49, 50, 51, 52, 53, 355, 356, 357, 358, 271, 359, 360, 361, 362, 363, 364, 365, 366, 367, 74, 368, 369, 370] (by decide +kernel) (by decide +kernel)
set_option maxRecDepth 20000 in
theorem ggL_law_L_learn_p4 : GoodIn wsL_law wsL_learn_r4 := goodIn_r _ [371, 372, 492, 493, 494, 495, 496, 192, 193, 194, 150, 151, 497, 498, 499, 500, 501, 273, 274, 275, 502, 503, 504, 505] (by decide +kernel) (by decide +kernel)
set_option maxRecDepth 20000 in
theorem ggL_law_L_learn_p5 : GoodIn wsL_law wsL_learn_r5 := goodIn_r _ [506, 205, 206, 207, 507, 250, 251, 252, 508, 509, 510, 511, 512, 513, 114, 115, 514, 468, 469, 470, 471, 472, 473, 474] (by decide +kernel) (by decide +kernel)
set_option maxRecDepth 20000 in
theorem ggL_law_L_learn_p6 : GoodIn wsL_law wsL_learn_r6 := goodIn_r _ [415, 416, 417, 418, 419, 420] (by decide +kernel) (by decide +kernel)
set_option maxRecDepth 20000 in
theorem ggL_law_L_learn_p7 : GoodIn wsL_law wsX60 := goodIn_r _ [872, 873, 874, 875, 876, 877] (by decide +kernel) (by decide +kernel)
set_option maxRecDepth 20000 in
theorem ggL_law_L_learn_p8 : GoodIn wsL_law wsX40 := goodIn_r _ [897, 898, 899, 900, 901, 902] (by decide +kernel) (by decide +kernel)
set_option maxRecDepth 20000 in
theorem ggL_law_L_learn_p9 : GoodIn wsL_law wsX10 := goodIn_r _ [911, 912, 913] (by decide +kernel) (by decide +kernel)
set_option maxRecDepth 20000 in
theorem ggL_law_L_learn_p10 : GoodIn wsL_law wsX30 := goodIn_r _ [914] (by decide +kernel) (by decide +kernel)
set_option maxRecDepth 20000 in
theorem ggL_law_L_learn_p11 : GoodIn wsL_law wsX00 := goodIn_r _ [915, 916, 917, 918, 919] (by decide +kernel) (by decide +kernel)
set_option maxRecDepth 20000 in
theorem ggL_law_L_learn : GoodIn wsL_law wsL_learn := goodIn_ca (goodIn_ca (goodIn_c2 ggL_law_L_learn_p0 (goodIn_app (goodIn_app (goodIn_app (goodIn_app (goodIn_app (goodIn_app ggL_law_L_learn_p1 (goodIn_app ggL_law_L_learn_p2 (goodIn_app ggL_law_L_learn_p3 (goodIn_app ggL_law_L_learn_p4 (goodIn_app ggL_law_L_learn_p5 ggL_law_L_learn_p6))))) ggL_law_L_learn_p7) ggL_law_L_learn_p8) ggL_law_L_learn_p9) ggL_law_L_learn_p10) ggL_law_L_learn_p11)) (goodIn_sub (fun _ h => List.mem_append_left _ (List.mem_append_left _ (List.mem_append_right _ h))) (by decide +kernel))) (goodIn_sub (fun _ h => List.mem_append_left _ (List.mem_append_right _ h)) (by decide +kernel))
set_option maxRecDepth 20000 in
theorem gL_law_L_learn : GoodIn wsL_law (va_wsS RL 134 yL_learn wsL_learn) := goodIn_app (goodIn_of _ (by decide +kernel)) ggL_law_L_learn
set_option maxRecDepth 20000 in
theorem ggL_law_X7_learn_p0 : GoodIn wsL_law [.code yX7_learn cX7_learn 2 (some .int)] := goodIn_r _ [518] (by decide +kernel) (by decide +kernel)
theorem ggL_law_X7_learn_p1 : GoodIn wsL_law wsX7_learn_r1 := goodIn_r _ [84, 317, 318, 5, 319, 320, 122, 123, 124, 519, 520, 521, 522, 284, 285, 286, 287, 288, 289, 523, 524, 525, 526, 91] (by decide +kernel) (by decide +kernel)
theorem ggL_law_X7_learn_p2 : GoodIn wsL_law wsX7_learn_r2 := goodIn_r _ [92, 224, 225, 226, 227, 228, 229, 230, 231, 232, 233, 234, 235, 236, 237, 238, 527, 528, 529, 530, 93, 531, 532, 533] (by decide +kernel) (by decide +kernel)
theorem ggL_law_X7_learn_p3 : GoodIn wsL_law wsX7_learn_r3 := goodIn_r _ [534, 535, 536, 537, 538, 539, 125, 126, 127, 128, 129, 436, 437, 438, 439, 440, 86, 429, 430, 431, 540, 541, 542, 164] (by decide +kernel) (by decide +kernel)
theorem ggL_law_X7_learn_p4 : GoodIn wsL_law wsX7_learn_r4 := goodIn_r _ [165, 166] (by decide +kernel) (by decide +kernel)
theorem ggL_law_X7_learn_p5 : GoodIn wsL_law wsX70 := goodIn_r _ [878, 879, 880, 881, 882, 883, 884, 885, 886, 887, 888, 889, 890, 891, 892, 893, 894, 895, 896] (by decide +kernel) (by decide +kernel)
theorem ggL_law_X7_learn : GoodIn wsL_law wsX7_learn := (goodIn_c2 ggL_law_X7_learn_p0 (goodIn_app (goodIn_app ggL_law_X7_learn_p1 (goodIn_app ggL_law_X7_learn_p2 (goodIn_app ggL_law_X7_learn_p3 ggL_law_X7_learn_p4))) ggL_law_X7_learn_p5))
set_option maxRecDepth 20000 in
theorem gL_law_X7_learn : GoodIn wsL_law (wsV RL 136 RX7 yX7_learn wsX7_learn) := goodIn_app (goodIn_of _ (by decide +kernel)) ggL_law_X7_learn
set_option maxRecDepth 20000 in
theorem ggL_law_L_forget_p0 : GoodIn wsL_law [.codeWith yL_forget cL_forget 4 (some .int) [(0, 9, 12, 27)]] := goodIn_r _ [545] (by decide +kernel) (by decide +kernel)
set_option maxRecDepth 20000 in
theorem ggL_law_L_forget_p1 : GoodIn wsL_law wsL_forget_r1 := goodIn_r _ [260, 546, 547, 548, 2, 549, 265, 266, 30, 17, 190, 346, 347, 348, 29, 349, 67, 350, 351, 352, 353, 33, 354, 77] (by decide +kernel) (by decide +kernel)
set_option maxRecDepth 20000 in
theorem ggL_law_L_forget_p2 : GoodIn wsL_law wsL_forget_r2 := goodIn_r _ [76, 15, 16, 35, 36, 37, 12, 13, 38, 39, 40, 41, 42, 43, 44, 45, 46, 47, 48, 49, 50, 51, 52, 53] (by decide +kernel) (by decide +kernel)
set_option maxRecDepth 20000 in
theorem ggL_law_L_forget_p3 : GoodIn wsL_law wsL_forget_r3 := goodIn_r _ [355, 356, 357, 358, 271, 359, 360, 361, 362, 363, 364, 365, 366, 367, 74, 368, 369, 370, 371, 372, 550, 551, 552, 553] (by decide +kernel) (by decide +kernel)
set_option maxRecDepth 20000 in
theorem ggL_law_L_forget_p4 : GoodIn wsL_law wsL_forget_r4 := goodIn_r _ [554, 268, 269, 270, 508, 509, 510, 511, 512, 513, 501, 273, 274, 275, 150, 151, 114, 115, 415, 416, 417, 418, 419, 420] (by decide +kernel) (by decide +kernel)
set_option maxRecDepth 20000 in
theorem ggL_law_L_forget_p5 : GoodIn wsL_law wsX60 := goodIn_r _ [872, 873, 874, 875, 876, 877] (by decide +kernel) (by decide +kernel)
set_option maxRecDepth 20000 in
theorem ggL_law_L_forget_p6 : GoodIn wsL_law wsX40 := goodIn_r _ [897, 898, 899, 900, 901, 902] (by decide +kernel) (by decide +kernel)
set_option maxRecDepth 20000 in
theorem ggL_law_L_forget_p7 : GoodIn wsL_law wsX10 := goodIn_r _ [911, 912, 913] (by decide +kernel) (by decide +kernel)
set_option maxRecDepth 20000 in
theorem ggL_law_L_forget_p8 : GoodIn wsL_law wsX30 := goodIn_r _ [914] (by decide +kernel) (by decide +kernel)
set_option maxRecDepth 20000 in
theorem ggL_law_L_forget_p9 : GoodIn wsL_law wsX00 := goodIn_r _ [915, 916, 917, 918, 919] (by decide +kernel) (by decide +kernel)
set_option maxRecDepth 20000 in
theorem ggL_law_L_forget : GoodIn wsL_law wsL_forget := goodIn_ca (goodIn_c2 ggL_law_L_forget_p0 (goodIn_app (goodIn_app (goodIn_app (goodIn_app (goodIn_app (goodIn_app ggL_law_L_forget_p1 (goodIn_app ggL_law_L_forget_p2 (goodIn_app ggL_law_L_forget_p3 ggL_law_L_forget_p4))) ggL_law_L_forget_p5) ggL_law_L_forget_p6) ggL_law_L_forget_p7) ggL_law_L_forget_p8) ggL_law_L_forget_p9)) (goodIn_sub (fun _ h => List.mem_append_right _ h) (by decide +kernel))
set_option maxRecDepth 20000 in
theorem gL_law_L_forget : GoodIn wsL_law (va_wsS RL 137 yL_forget wsL_forget) := goodIn_app (goodIn_of _ (by decide +kernel)) ggL_law_L_forget
set_option maxRecDepth 20000 in
theorem ggL_law_X7_forget_p0 : GoodIn wsL_law [.code yX7_forget cX7_forget 2 (some .int)] := goodIn_r _ [558] (by decide +kernel) (by decide +kernel)
theorem ggL_law_X7_forget_p1 : GoodIn wsL_law wsX7_forget_r1 := goodIn_r _ [84, 281, 282, 5, 283, 122, 123, 124, 125, 126, 127, 128, 129, 436, 437, 438, 439, 440, 86, 429, 430, 431, 559, 560] (by decide +kernel) (by decide +kernel)
theorem ggL_law_X7_forget_p2 : GoodIn wsL_law wsX7_forget_r2 := goodIn_r _ [561, 287, 288, 289] (by decide +kernel) (by decide +kernel)
theorem ggL_law_X7_forget_p3 : GoodIn wsL_law wsX70 := goodIn_r _ [878, 879, 880, 881, 882, 883, 884, 885, 886, 887, 888, 889, 890, 891, 892, 893, 894, 895, 896] (by decide +kernel) (by decide +kernel)
theorem ggL_law_X7_forget : GoodIn wsL_law wsX7_forget := (goodIn_c2 ggL_law_X7_forget_p0 (goodIn_app (goodIn_app ggL_law_X7_forget_p1 ggL_law_X7_forget_p2) ggL_law_X7_forget_p3))
set_option maxRecDepth 20000 in
theorem gL_law_X7_forget : GoodIn wsL_law (wsV RL 139 RX7 yX7_forget wsX7_forget) := goodIn_app (goodIn_of _ (by decide +kernel)) ggL_law_X7_forget
set_option maxRecDepth 20000 in
theorem ggL_law_L_practise_p0 : GoodIn wsL_law [.codeWith yL_practise cL_practise 4 (some .int) [(0, 9, 12, 13), (0, 9, 15, 15)]] := goodIn_r _ [564] (by decide +kernel) (by decide +kernel)
set_option maxRecDepth 20000 in
theorem ggL_law_L_practise_p1 : GoodIn wsL_law wsL_practise_r1 := goodIn_r _ [98, 99, 565, 566, 567, 2, 568, 104, 105, 106, 107, 30, 17, 308, 309, 310, 346, 347, 348, 29, 349, 67, 350, 351] (by decide +kernel) (by decide +kernel)
set_option maxRecDepth 20000 in
theorem ggL_law_L_practise_p2 : GoodIn wsL_law wsL_practise_r2 := goodIn_r _ [352, 353, 33, 354, 77, 76, 15, 16, 35, 36, 37, 12, 13, 38, 39, 40, 41, 42, 43, 44, 45, 46, 47, 48] (by decide +kernel) (by decide +kernel)
set_option maxRecDepth 20000 in
theorem ggL_law_L_practise_p3 : GoodIn wsL_law wsL_practise_r3 := goodIn_r _ [49, 50, 51, 52, 53, 355, 356, 357, 358, 271, 359, 360, 361, 362, 363, 364, 365, 366, 367, 74, 368, 369, 370, 371] (by decide +kernel) (by decide +kernel)
set_option maxRecDepth 20000 in
theorem ggL_law_L_practise_p4 : GoodIn wsL_law wsL_practise_r4 := goodIn_r _ [372, 569, 570, 571, 572, 188, 22, 573, 574, 191, 192, 193, 194, 150, 151, 575, 576, 577, 21, 578, 579, 580, 581, 582] (by decide +kernel) (by decide +kernel)
set_option maxRecDepth 20000 in
theorem ggL_law_L_practise_p5 : GoodIn wsL_law wsL_practise_r5 := goodIn_r _ [583, 58, 584, 585, 586, 587, 588, 57, 589, 590, 205, 206, 207, 114, 115, 591, 250, 251, 252, 592, 593, 594, 595, 596] (by decide +kernel) (by decide +kernel)
set_option maxRecDepth 20000 in
theorem ggL_law_L_practise_p6 : GoodIn wsL_law wsL_practise_r6 := goodIn_r _ [597, 598, 394, 395, 599, 329, 330, 331, 600, 601, 602, 603, 604, 273, 274, 275, 605, 606, 607, 608, 212, 213, 214, 215] (by decide +kernel) (by decide +kernel)
set_option maxRecDepth 20000 in
theorem ggL_law_L_practise_p7 : GoodIn wsL_law wsL_practise_r7 := goodIn_r _ [467, 468, 469, 470, 471, 472, 473, 474, 415, 416, 417, 418, 419, 420] (by decide +kernel) (by decide +kernel)
set_option maxRecDepth 20000 in
theorem ggL_law_L_practise_p8 : GoodIn wsL_law wsX60 := goodIn_r _ [872, 873, 874, 875, 876, 877] (by decide +kernel) (by decide +kernel)
set_option maxRecDepth 20000 in
theorem ggL_law_L_practise_p9 : GoodIn wsL_law wsX10 := goodIn_r _ [911, 912, 913] (by decide +kernel) (by decide +kernel)
set_option maxRecDepth 20000 in
theorem ggL_law_L_practise_p10 : GoodIn wsL_law wsX30 := goodIn_r _ [914] (by decide +kernel) (by decide +kernel)
set_option maxRecDepth 20000 in
theorem ggL_law_L_practise_p11 : GoodIn wsL_law wsX40 := goodIn_r _ [897, 898, 899, 900, 901, 902] (by decide +kernel) (by decide +kernel)
set_option maxRecDepth 20000 in
theorem ggL_law_L_practise_p12 : GoodIn wsL_law wsX00 := goodIn_r _ [915, 916, 917, 918, 919] (by decide +kernel) (by decide +kernel)
set_option maxRecDepth 20000 in
theorem ggL_law_L_practise_p13 : GoodIn wsL_law wsX20 := goodIn_r _ [903, 904, 905, 906, 907, 908] (by decide +kernel) (by decide +kernel)
set_option maxRecDepth 20000 in
theorem ggL_law_L_practise : GoodIn wsL_law wsL_practise := goodIn_ca (goodIn_ca (goodIn_c2 ggL_law_L_practise_p0 (goodIn_app (goodIn_app (goodIn_app (goodIn_app (goodIn_app (goodIn_app (goodIn_app ggL_law_L_practise_p1 (goodIn_app ggL_law_L_practise_p2 (goodIn_app ggL_law_L_practise_p3 (goodIn_app ggL_law_L_practise_p4 (goodIn_app ggL_law_L_practise_p5 (goodIn_app ggL_law_L_practise_p6 ggL_law_L_practise_p7)))))) ggL_law_L_practise_p8) ggL_law_L_practise_p9) ggL_law_L_practise_p10) ggL_law_L_practise_p11) ggL_law_L_practise_p12) ggL_law_L_practise_p13)) (goodIn_sub (fun _ h => List.mem_append_left _ (List.mem_append_left _ (List.mem_append_right _ h))) (by decide +kernel))) (goodIn_sub (fun _ h => List.mem_append_left _ (List.mem_append_right _ h)) (by decide +kernel))
set_option maxRecDepth 20000 in
theorem gL_law_L_practise : GoodIn wsL_law (va_wsS RL 140 yL_practise wsL_practise) := goodIn_app (goodIn_of _ (by decide +kernel)) ggL_law_L_practise
set_option maxRecDepth 20000 in
theorem ggL_law_X7_practise_p0 : GoodIn wsL_law [.code yX7_practise cX7_practise 2 (some .int)] := goodIn_r _ [612] (by decide +kernel) (by decide +kernel)
theorem ggL_law_X7_practise_p1 : GoodIn wsL_law wsX7_practise_r1 := goodIn_r _ [84, 317, 318, 5, 319, 320, 122, 123, 124, 125, 126, 127, 128, 129, 436, 437, 438, 439, 440, 86, 429, 430, 431, 613] (by decide +kernel) (by decide +kernel)
theorem ggL_law_X7_practise_p2 : GoodIn wsL_law wsX7_practise_r2 := goodIn_r _ [614, 615, 616, 617, 618, 619, 620, 621, 622, 623, 523, 524, 525, 526, 91, 92, 224, 225, 226, 227, 228, 229, 230, 231] (by decide +kernel) (by decide +kernel)
theorem ggL_law_X7_practise_p3 : GoodIn wsL_law wsX7_practise_r3 := goodIn_r _ [232, 233, 234, 235, 236, 237, 238, 287, 288, 289, 527, 528, 529, 530, 93, 531, 532, 533, 534, 535, 536, 537, 538, 539] (by decide +kernel) (by decide +kernel)
theorem ggL_law_X7_practise_p4 : GoodIn wsL_law wsX7_practise_r4 := goodIn_r _ [284, 285, 286, 164, 165, 166] (by decide +kernel) (by decide +kernel)
theorem ggL_law_X7_practise_p5 : GoodIn wsL_law wsX70 := goodIn_r _ [878, 879, 880, 881, 882, 883, 884, 885, 886, 887, 888, 889, 890, 891, 892, 893, 894, 895, 896] (by decide +kernel) (by decide +kernel)
theorem ggL_law_X7_practise : GoodIn wsL_law wsX7_practise := (goodIn_c2 ggL_law_X7_practise_p0 (goodIn_app (goodIn_app ggL_law_X7_practise_p1 (goodIn_app ggL_law_X7_practise_p2 (goodIn_app ggL_law_X7_practise_p3 ggL_law_X7_practise_p4))) ggL_law_X7_practise_p5))
set_option maxRecDepth 20000 in
theorem gL_law_X7_practise : GoodIn wsL_law (wsV RL 142 RX7 yX7_practise wsX7_practise) := goodIn_app (goodIn_of _ (by decide +kernel)) ggL_law_X7_practise
set_option maxRecDepth 20000 in
theorem ggL_law_L_set_p0 : GoodIn wsL_law [.codeWith yL_set cL_set 5 (some .int) [(0, 10, 13, 13), (0, 10, 17, 15)]] := goodIn_r _ [626] (by decide +kernel) (by decide +kernel)
set_option maxRecDepth 20000 in
theorem ggL_law_L_set_p1 : GoodIn wsL_law wsL_set_r1 := goodIn_r _ [98, 99, 627, 628, 629, 2, 630, 104, 105, 106, 107, 17, 30, 631, 632, 633, 328, 329, 330, 16, 331, 44, 150, 151] (by decide +kernel) (by decide +kernel)
set_option maxRecDepth 20000 in
theorem ggL_law_L_set_p2 : GoodIn wsL_law wsL_set_r2 := goodIn_r _ [346, 347, 348, 29, 349, 67, 350, 351, 352, 353, 33, 354, 77, 76, 15, 35, 36, 37, 12, 13, 38, 39, 40, 41] (by decide +kernel) (by decide +kernel)
set_option maxRecDepth 20000 in
theorem ggL_law_L_set_p3 : GoodIn wsL_law wsL_set_r3 := goodIn_r _ [42, 43, 45, 46, 47, 48, 49, 50, 51, 52, 53, 355, 356, 357, 358, 271, 359, 360, 361, 362, 363, 364, 365, 366] (by decide +kernel) (by decide +kernel)
set_option maxRecDepth 20000 in
theorem ggL_law_L_set_p4 : GoodIn wsL_law wsL_set_r4 := goodIn_r _ [367, 74, 368, 369, 370, 371, 372, 634, 635, 636, 637, 638, 639, 640, 641, 642, 643, 644, 645, 646, 73, 75, 199, 192] (by decide +kernel) (by decide +kernel)
set_option maxRecDepth 20000 in
theorem ggL_law_L_set_p5 : GoodIn wsL_law wsL_set_r5 := goodIn_r _ [193, 194, 200, 201, 202, 203, 382, 383, 384, 385, 387, 388, 389, 390, 391, 392, 393, 394, 395, 114, 115, 647, 648, 649] (by decide +kernel) (by decide +kernel)
set_option maxRecDepth 20000 in
theorem ggL_law_L_set_p6 : GoodIn wsL_law wsL_set_r6 := goodIn_r _ [650, 407, 408, 409, 410, 386, 205, 206, 207, 400, 401, 402, 403, 404, 405, 406, 415, 416, 417, 418, 419, 420] (by decide +kernel) (by decide +kernel)
set_option maxRecDepth 20000 in
theorem ggL_law_L_set_p7 : GoodIn wsL_law wsX60 := goodIn_r _ [872, 873, 874, 875, 876, 877] (by decide +kernel) (by decide +kernel)
set_option maxRecDepth 20000 in
theorem ggL_law_L_set_p8 : GoodIn wsL_law wsX40 := goodIn_r _ [897, 898, 899, 900, 901, 902] (by decide +kernel) (by decide +kernel)
set_option maxRecDepth 20000 in
theorem ggL_law_L_set_p9 : GoodIn wsL_law wsX10 := goodIn_r _ [911, 912, 913] (by decide +kernel) (by decide +kernel)
set_option maxRecDepth 20000 in
theorem ggL_law_L_set_p10 : GoodIn wsL_law wsX30 := goodIn_r _ [914] (by decide +kernel) (by decide +kernel)
set_option maxRecDepth 20000 in
theorem ggL_law_L_set_p11 : GoodIn wsL_law wsX00 := goodIn_r _ [915, 916, 917, 918, 919] (by decide +kernel) (by decide +kernel)
set_option maxRecDepth 20000 in
theorem ggL_law_L_set : GoodIn wsL_law wsL_set := goodIn_ca (goodIn_ca (goodIn_c2 ggL_law_L_set_p0 (goodIn_app (goodIn_app (goodIn_app (goodIn_app (goodIn_app (goodIn_app ggL_law_L_set_p1 (goodIn_app ggL_law_L_set_p2 (goodIn_app ggL_law_L_set_p3 (goodIn_app ggL_law_L_set_p4 (goodIn_app ggL_law_L_set_p5 ggL_law_L_set_p6))))) ggL_law_L_set_p7) ggL_law_L_set_p8) ggL_law_L_set_p9) ggL_law_L_set_p10) ggL_law_L_set_p11)) (goodIn_sub (fun _ h => List.mem_append_left _ (List.mem_append_left _ (List.mem_append_right _ h))) (by decide +kernel))) (goodIn_sub (fun _ h => List.mem_append_left _ (List.mem_append_right _ h)) (by decide +kernel))
set_option maxRecDepth 20000 in
theorem gL_law_L_set : GoodIn wsL_law (va_wsS RL 143 yL_set wsL_set) := goodIn_app (goodIn_of _ (by decide +kernel)) ggL_law_L_set
set_option maxRecDepth 20000 in
theorem ggL_law_X7_set_p0 : GoodIn wsL_law [.code yX7_set cX7_set 4 (some .int)] := goodIn_r _ [654] (by decide +kernel) (by decide +kernel)
theorem ggL_law_X7_set_p1 : GoodIn wsL_law wsX7_set_r1 := goodIn_r _ [84, 655, 656, 5, 657, 658, 659, 660, 122, 123, 124, 661, 662, 663, 664, 91, 224, 225, 226, 227, 228, 229, 230, 231] (by decide +kernel) (by decide +kernel)
theorem ggL_law_X7_set_p2 : GoodIn wsL_law wsX7_set_r2 := goodIn_r _ [232, 233, 234, 235, 236, 237, 238, 665, 666, 667, 668, 287, 288, 289, 125, 126, 127, 128, 129, 436, 437, 438, 439, 440] (by decide +kernel) (by decide +kernel)
theorem ggL_law_X7_set_p3 : GoodIn wsL_law wsX7_set_r3 := goodIn_r _ [86, 429, 430, 431] (by decide +kernel) (by decide +kernel)
theorem ggL_law_X7_set_p4 : GoodIn wsL_law wsX70 := goodIn_r _ [878, 879, 880, 881, 882, 883, 884, 885, 886, 887, 888, 889, 890, 891, 892, 893, 894, 895, 896] (by decide +kernel) (by decide +kernel)
theorem ggL_law_X7_set : GoodIn wsL_law wsX7_set := (goodIn_c2 ggL_law_X7_set_p0 (goodIn_app (goodIn_app ggL_law_X7_set_p1 (goodIn_app ggL_law_X7_set_p2 ggL_law_X7_set_p3)) ggL_law_X7_set_p4))
set_option maxRecDepth 20000 in
theorem gL_law_X7_set : GoodIn wsL_law (wsV RL 145 RX7 yX7_set wsX7_set) := goodIn_app (goodIn_of _ (by decide +kernel)) ggL_law_X7_set
set_option maxRecDepth 20000 in
theorem ggL_law_L_undo_p0 : GoodIn wsL_law [.codeWith yL_undo cL_undo 3 (some .int) [(0, 8, 11, 15)]] := goodIn_r _ [671] (by decide +kernel) (by decide +kernel)
set_option maxRecDepth 20000 in
theorem ggL_law_L_undo_p1 : GoodIn wsL_law wsL_undo_r1 := goodIn_r _ [99, 672, 673, 674, 2, 675, 106, 107, 30, 17, 676, 677, 678, 679, 29, 680, 419, 67, 350, 681, 682, 683, 33, 684] (by decide +kernel) (by decide +kernel)
set_option maxRecDepth 20000 in
theorem ggL_law_L_undo_p2 : GoodIn wsL_law wsL_undo_r2 := goodIn_r _ [77, 466, 356, 357, 16, 358, 41, 43, 44, 45, 271, 359, 360, 361, 362, 40, 363, 49, 50, 51, 52, 53, 364, 365] (by decide +kernel) (by decide +kernel)
set_option maxRecDepth 20000 in
theorem ggL_law_L_undo_p3 : GoodIn wsL_law wsL_undo_r3 := goodIn_r _ [366, 367, 74, 368, 369, 370, 371, 372, 685, 686, 687, 688] (by decide +kernel) (by decide +kernel)
set_option maxRecDepth 20000 in
theorem ggL_law_L_undo_p4 : GoodIn wsL_law wsX60 := goodIn_r _ [872, 873, 874, 875, 876, 877] (by decide +kernel) (by decide +kernel)
set_option maxRecDepth 20000 in
theorem ggL_law_L_undo_p5 : GoodIn wsL_law wsX10 := goodIn_r _ [911, 912, 913] (by decide +kernel) (by decide +kernel)
set_option maxRecDepth 20000 in
theorem ggL_law_L_undo_p6 : GoodIn wsL_law wsX30 := goodIn_r _ [914] (by decide +kernel) (by decide +kernel)
set_option maxRecDepth 20000 in
theorem ggL_law_L_undo_p7 : GoodIn wsL_law wsX40 := goodIn_r _ [897, 898, 899, 900, 901, 902] (by decide +kernel) (by decide +kernel)
set_option maxRecDepth 20000 in
theorem ggL_law_L_undo_p8 : GoodIn wsL_law wsX00 := goodIn_r _ [915, 916, 917, 918, 919] (by decide +kernel) (by decide +kernel)
set_option maxRecDepth 20000 in
theorem ggL_law_L_undo : GoodIn wsL_law wsL_undo := goodIn_ca (goodIn_c2 ggL_law_L_undo_p0 (goodIn_app (goodIn_app (goodIn_app (goodIn_app (goodIn_app (goodIn_app ggL_law_L_undo_p1 (goodIn_app ggL_law_L_undo_p2 ggL_law_L_undo_p3)) ggL_law_L_undo_p4) ggL_law_L_undo_p5) ggL_law_L_undo_p6) ggL_law_L_undo_p7) ggL_law_L_undo_p8)) (goodIn_sub (fun _ h => List.mem_append_left _ (List.mem_append_right _ h)) (by decide +kernel))
set_option maxRecDepth 20000 in
theorem gL_law_L_undo : GoodIn wsL_law (va_wsS RL 146 yL_undo wsL_undo) := goodIn_app (goodIn_of _ (by decide +kernel)) ggL_law_L_undo
set_option maxRecDepth 20000 in
theorem ggL_law_X7_undo_p0 : GoodIn wsL_law [.code yX7_undo cX7_undo 1 (some .int)] := goodIn_r _ [692] (by decide +kernel) (by decide +kernel)
theorem ggL_law_X7_undo_p1 : GoodIn wsL_law [.fieldLink RX7 156 "RuledStrokesModel" "acts" "I", .fieldLink RX7 19 "RuledStrokesModel" "diary" "[I", .fieldLink RX7 13 "RuledStrokesModel" "now" "[I", .methodLink RX7 102 yX7_refused, .instanceMethod yX7_refused, .selects RX7 yX7_refused yX7_refused, .initialized RX7, .code yX7_refused cX7_refused 2 (some .boolean), .fieldLink RX7 41 "RuledStrokesModel" "refusal" "I", .methodLink RX7 159 yX7_copyState, .static yX7_copyState, .code yX7_copyState cX7_copyState 5 none] := goodIn_r _ [440, 86, 84, 125, 126, 127, 5, 128, 129, 429, 430, 431] (by decide +kernel) (by decide +kernel)
theorem ggL_law_X7_undo_p2 : GoodIn wsL_law wsX70 := goodIn_r _ [878, 879, 880, 881, 882, 883, 884, 885, 886, 887, 888, 889, 890, 891, 892, 893, 894, 895, 896] (by decide +kernel) (by decide +kernel)
theorem ggL_law_X7_undo : GoodIn wsL_law wsX7_undo := (goodIn_c2 ggL_law_X7_undo_p0 (goodIn_app ggL_law_X7_undo_p1 ggL_law_X7_undo_p2))
set_option maxRecDepth 20000 in
theorem gL_law_X7_undo : GoodIn wsL_law (wsV RL 148 RX7 yX7_undo wsX7_undo) := goodIn_app (goodIn_of _ (by decide +kernel)) ggL_law_X7_undo
set_option maxRecDepth 20000 in
theorem ggL_law_L_read_p0 : GoodIn wsL_law [.codeWith yL_read cL_read 4 (some .int) [(0, 9, 12, 13)]] := goodIn_r _ [695] (by decide +kernel) (by decide +kernel)
set_option maxRecDepth 20000 in
theorem ggL_law_L_read_p1 : GoodIn wsL_law wsL_read_r1 := goodIn_r _ [98, 696, 697, 698, 2, 699, 104, 105, 22, 17, 573, 574, 700, 701, 575, 576, 577, 21, 578, 579, 580, 581, 582, 583] (by decide +kernel) (by decide +kernel)
set_option maxRecDepth 20000 in
theorem ggL_law_L_read_p2 : GoodIn wsL_law wsL_read_r2 := goodIn_r _ [58, 584, 585, 586, 587, 588, 57, 589, 367, 74, 368, 590, 205, 206, 40, 207, 52, 150, 151, 114, 115, 591, 250, 251] (by decide +kernel) (by decide +kernel)
set_option maxRecDepth 20000 in
theorem ggL_law_L_read_p3 : GoodIn wsL_law wsL_read_r3 := goodIn_r _ [252, 53, 592, 593, 594, 595, 596, 597, 598, 394, 395, 599, 329, 330, 16, 331, 44, 600, 601, 602, 603, 604, 273, 274] (by decide +kernel) (by decide +kernel)
set_option maxRecDepth 20000 in
theorem ggL_law_L_read_p4 : GoodIn wsL_law wsL_read_r4 := goodIn_r _ [275, 43] (by decide +kernel) (by decide +kernel)
set_option maxRecDepth 20000 in
theorem ggL_law_L_read_p5 : GoodIn wsL_law wsX60 := goodIn_r _ [872, 873, 874, 875, 876, 877] (by decide +kernel) (by decide +kernel)
set_option maxRecDepth 20000 in
theorem ggL_law_L_read_p6 : GoodIn wsL_law wsX20 := goodIn_r _ [903, 904, 905, 906, 907, 908] (by decide +kernel) (by decide +kernel)
set_option maxRecDepth 20000 in
theorem ggL_law_L_read_p7 : GoodIn wsL_law wsX40 := goodIn_r _ [897, 898, 899, 900, 901, 902] (by decide +kernel) (by decide +kernel)
set_option maxRecDepth 20000 in
theorem ggL_law_L_read_p8 : GoodIn wsL_law wsX00 := goodIn_r _ [915, 916, 917, 918, 919] (by decide +kernel) (by decide +kernel)
set_option maxRecDepth 20000 in
theorem ggL_law_L_read : GoodIn wsL_law wsL_read := goodIn_ca (goodIn_c2 ggL_law_L_read_p0 (goodIn_app (goodIn_app (goodIn_app (goodIn_app (goodIn_app ggL_law_L_read_p1 (goodIn_app ggL_law_L_read_p2 (goodIn_app ggL_law_L_read_p3 ggL_law_L_read_p4))) ggL_law_L_read_p5) ggL_law_L_read_p6) ggL_law_L_read_p7) ggL_law_L_read_p8)) (goodIn_sub (fun _ h => List.mem_append_left _ (List.mem_append_left _ (List.mem_append_right _ h))) (by decide +kernel))
set_option maxRecDepth 20000 in
theorem gL_law_L_read : GoodIn wsL_law (va_wsS RL 149 yL_read wsL_read) := goodIn_app (goodIn_of _ (by decide +kernel)) ggL_law_L_read
set_option maxRecDepth 20000 in
theorem ggL_law_X7_read_p0 : GoodIn wsL_law [.code yX7_read cX7_read 2 (some .int)] := goodIn_r _ [705] (by decide +kernel) (by decide +kernel)
theorem ggL_law_X7_read_p1 : GoodIn wsL_law wsX7_read_r1 := goodIn_r _ [280, 84, 617, 618, 623, 122, 123, 5, 124, 125, 126, 127, 128, 129, 619, 620, 621, 622, 523, 524, 525, 526, 91, 92] (by decide +kernel) (by decide +kernel)
theorem ggL_law_X7_read_p2 : GoodIn wsL_law wsX7_read_r2 := goodIn_r _ [224, 225, 226, 227, 228, 229, 230, 231, 232, 233, 234, 235, 236, 237, 238, 287, 288, 289, 527, 528, 529, 530, 93, 531] (by decide +kernel) (by decide +kernel)
theorem ggL_law_X7_read_p3 : GoodIn wsL_law wsX7_read_r3 := goodIn_r _ [532, 533, 534, 535, 536, 537, 538, 539, 284, 285, 286] (by decide +kernel) (by decide +kernel)
theorem ggL_law_X7_read_p4 : GoodIn wsL_law wsX70 := goodIn_r _ [878, 879, 880, 881, 882, 883, 884, 885, 886, 887, 888, 889, 890, 891, 892, 893, 894, 895, 896] (by decide +kernel) (by decide +kernel)
theorem ggL_law_X7_read : GoodIn wsL_law wsX7_read := (goodIn_c2 ggL_law_X7_read_p0 (goodIn_app (goodIn_app ggL_law_X7_read_p1 (goodIn_app ggL_law_X7_read_p2 ggL_law_X7_read_p3)) ggL_law_X7_read_p4))
set_option maxRecDepth 20000 in
theorem gL_law_X7_read : GoodIn wsL_law (wsV RL 151 RX7 yX7_read wsX7_read) := goodIn_app (goodIn_of _ (by decide +kernel)) ggL_law_X7_read
set_option maxRecDepth 20000 in
theorem ggL_law_L_nearest_p0 : GoodIn wsL_law [.codeWith yL_nearest cL_nearest 4 (some .int) [(0, 9, 12, 27)]] := goodIn_r _ [708] (by decide +kernel) (by decide +kernel)
set_option maxRecDepth 20000 in
theorem ggL_law_L_nearest_p1 : GoodIn wsL_law wsL_nearest_r1 := goodIn_r _ [260, 709, 710, 711, 2, 712, 265, 266, 17, 22, 267, 268, 269, 16, 270, 271, 713, 714, 715, 21, 716, 582, 58, 583] (by decide +kernel) (by decide +kernel)
set_option maxRecDepth 20000 in
theorem ggL_law_L_nearest_p2 : GoodIn wsL_law wsL_nearest_r2 := goodIn_r _ [585, 586, 587, 588, 57, 589, 367, 74, 368, 590, 205, 206, 40, 207, 52, 150, 151, 114, 115, 591, 250, 251, 252, 53] (by decide +kernel) (by decide +kernel)
set_option maxRecDepth 20000 in
theorem ggL_law_L_nearest_p3 : GoodIn wsL_law wsL_nearest_r3 := goodIn_r _ [592, 593, 594, 595, 596, 597, 598, 394, 395, 717, 718, 719, 720] (by decide +kernel) (by decide +kernel)
set_option maxRecDepth 20000 in
theorem ggL_law_L_nearest_p4 : GoodIn wsL_law wsX60 := goodIn_r _ [872, 873, 874, 875, 876, 877] (by decide +kernel) (by decide +kernel)
