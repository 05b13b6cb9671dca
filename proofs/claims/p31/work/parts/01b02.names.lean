theorem dX5_firstError_185 : decode cX5_firstError 185 = .ok (.iconst 0, 1) := by decide +kernel
theorem dX5_firstError_186 : decode cX5_firstError 186 = .ok (.istore_n 3, 1) := by decide +kernel
theorem dX5_firstError_187 : decode cX5_firstError 187 = .ok (.iconst 0, 1) := by decide +kernel
theorem dX5_firstError_188 : decode cX5_firstError 188 = .ok (.istore 4, 2) := by decide +kernel
theorem dX5_firstError_190 : decode cX5_firstError 190 = .ok (.iinc 6 1, 3) := by decide +kernel
theorem dX5_firstError_193 : decode cX5_firstError 193 = .ok (.goto (-178), 3) := by decide +kernel
theorem dX5_firstError_196 : decode cX5_firstError 196 = .ok (.iload 5, 2) := by decide +kernel
theorem dX5_firstError_198 : decode cX5_firstError 198 = .ok (.ifCond .ne 7, 3) := by decide +kernel
theorem dX5_firstError_201 : decode cX5_firstError 201 = .ok (.iload_n 3, 1) := by decide +kernel
theorem dX5_firstError_202 : decode cX5_firstError 202 = .ok (.ifCond .ne 10, 3) := by decide +kernel
theorem dX5_firstError_205 : decode cX5_firstError 205 = .ok (.aload_n 0, 1) := by decide +kernel
theorem dX5_firstError_206 : decode cX5_firstError 206 = .ok (.getfield 15, 3) := by decide +kernel
theorem dX5_firstError_209 : decode cX5_firstError 209 = .ok (.goto 4, 3) := by decide +kernel
theorem dX5_firstError_212 : decode cX5_firstError 212 = .ok (.iconst (-1), 1) := by decide +kernel
theorem dX5_firstError_213 : decode cX5_firstError 213 = .ok (.ireturn, 1) := by decide +kernel
theorem dX5_goesOn_0 : decode cX5_goesOn 0 = .ok (.iload_n 0, 1) := by decide +kernel
theorem dX5_goesOn_1 : decode cX5_goesOn 1 = .ok (.ifCond .le 18, 3) := by decide +kernel
theorem dX5_goesOn_4 : decode cX5_goesOn 4 = .ok (.iload_n 0, 1) := by decide +kernel
theorem dX5_goesOn_5 : decode cX5_goesOn 5 = .ok (.bipush 10, 2) := by decide +kernel
theorem dX5_goesOn_7 : decode cX5_goesOn 7 = .ok (.imul, 1) := by decide +kernel
theorem dX5_goesOn_8 : decode cX5_goesOn 8 = .ok (.iload_n 1, 1) := by decide +kernel
theorem dX5_goesOn_9 : decode cX5_goesOn 9 = .ok (.iadd, 1) := by decide +kernel
theorem dX5_goesOn_10 : decode cX5_goesOn 10 = .ok (.bipush 60, 2) := by decide +kernel
theorem dX5_goesOn_12 : decode cX5_goesOn 12 = .ok (.if_icmp .gt 7, 3) := by decide +kernel
theorem dX5_goesOn_15 : decode cX5_goesOn 15 = .ok (.iconst 1, 1) := by decide +kernel
theorem dX5_goesOn_16 : decode cX5_goesOn 16 = .ok (.goto 4, 3) := by decide +kernel
theorem dX5_goesOn_19 : decode cX5_goesOn 19 = .ok (.iconst 0, 1) := by decide +kernel
theorem dX5_goesOn_20 : decode cX5_goesOn 20 = .ok (.ireturn, 1) := by decide +kernel
set_option maxRecDepth 20000 in
theorem ggX5_drawOn_X6_cell : GoodIn wsX5_drawOn wsX6_cell := goodIn_r _ [5] (by decide +kernel) (by decide +kernel)
set_option maxRecDepth 20000 in
theorem gX5_drawOn_X6_cell_n23 : GoodIn wsX5_drawOn (wsX6_cell) := ggX5_drawOn_X6_cell
set_option maxRecDepth 20000 in
theorem ggX5_drawOn_X4_addPoint_p0 : GoodIn wsX5_drawOn [.code yX4_addPoint cX4_addPoint 5 (some .boolean)] := goodIn_r _ [10] (by decide +kernel) (by decide +kernel)
theorem ggX5_drawOn_X4_addPoint_p1 : GoodIn wsX5_drawOn wsX4_addPoint_r1 := goodIn_r _ [11, 12, 13, 4, 14, 15, 16, 17, 9, 18, 19, 3, 5, 20, 21, 22, 23, 24, 25, 26, 27, 28, 29, 30] (by decide +kernel) (by decide +kernel)
theorem ggX5_drawOn_X4_addPoint_p2 : GoodIn wsX5_drawOn wsX4_addPoint_r2 := goodIn_r _ [31, 32, 33, 34, 35, 36, 37, 38, 39, 40, 41, 42, 43, 44, 45, 46, 47, 48, 49, 50, 51, 52, 53, 54] (by decide +kernel) (by decide +kernel)
theorem ggX5_drawOn_X4_addPoint_p3 : GoodIn wsX5_drawOn wsX4_addPoint_r3 := goodIn_r _ [55, 56, 57, 58, 59, 60, 61, 62, 63, 64, 65, 66, 67, 68, 69, 70, 71, 72, 73, 74, 75, 76] (by decide +kernel) (by decide +kernel)
theorem ggX5_drawOn_X4_addPoint_p4 : GoodIn wsX5_drawOn wsX40 := goodIn_r _ [83, 84, 85, 86, 87, 88] (by decide +kernel) (by decide +kernel)
theorem ggX5_drawOn_X4_addPoint_p5 : GoodIn wsX5_drawOn wsX00 := goodIn_r _ [89, 90, 91, 92, 93] (by decide +kernel) (by decide +kernel)
theorem ggX5_drawOn_X4_addPoint : GoodIn wsX5_drawOn wsX4_addPoint := (goodIn_c2 ggX5_drawOn_X4_addPoint_p0 (goodIn_app (goodIn_app (goodIn_app ggX5_drawOn_X4_addPoint_p1 (goodIn_app ggX5_drawOn_X4_addPoint_p2 ggX5_drawOn_X4_addPoint_p3)) ggX5_drawOn_X4_addPoint_p4) ggX5_drawOn_X4_addPoint_p5))
set_option maxRecDepth 20000 in
theorem gX5_drawOn_X4_addPoint : GoodIn wsX5_drawOn (wsV RX5 31 RX4 yX4_addPoint wsX4_addPoint) := goodIn_app (goodIn_of _ (by decide +kernel)) ggX5_drawOn_X4_addPoint
set_option maxRecDepth 20000 in
theorem ggX5_drawOn_X4_liftPen : GoodIn wsX5_drawOn wsX4_liftPen := goodIn_r _ [80, 11, 83, 84, 85, 86, 87, 88] (by decide +kernel) (by decide +kernel)
set_option maxRecDepth 20000 in
theorem gX5_drawOn_X4_liftPen : GoodIn wsX5_drawOn (wsV RX5 36 RX4 yX4_liftPen wsX4_liftPen) := goodIn_app (goodIn_of _ (by decide +kernel)) ggX5_drawOn_X4_liftPen
theorem dX5_drawOn_0 : decode cX5_drawOn 0 = .ok (.iconst 0, 1) := by decide +kernel
theorem dX5_drawOn_1 : decode cX5_drawOn 1 = .ok (.istore_n 2, 1) := by decide +kernel
theorem dX5_drawOn_2 : decode cX5_drawOn 2 = .ok (.iconst 0, 1) := by decide +kernel
theorem dX5_drawOn_3 : decode cX5_drawOn 3 = .ok (.istore_n 3, 1) := by decide +kernel
theorem dX5_drawOn_4 : decode cX5_drawOn 4 = .ok (.iconst 0, 1) := by decide +kernel
theorem dX5_drawOn_5 : decode cX5_drawOn 5 = .ok (.istore 4, 2) := by decide +kernel
theorem dX5_drawOn_7 : decode cX5_drawOn 7 = .ok (.iload 4, 2) := by decide +kernel
theorem dX5_drawOn_9 : decode cX5_drawOn 9 = .ok (.aload_n 0, 1) := by decide +kernel
theorem dX5_drawOn_10 : decode cX5_drawOn 10 = .ok (.getfield 15, 3) := by decide +kernel
theorem dX5_drawOn_13 : decode cX5_drawOn 13 = .ok (.if_icmp .gt 98, 3) := by decide +kernel
theorem dX5_drawOn_16 : decode cX5_drawOn 16 = .ok (.iload 4, 2) := by decide +kernel
theorem dX5_drawOn_18 : decode cX5_drawOn 18 = .ok (.aload_n 0, 1) := by decide +kernel
theorem dX5_drawOn_19 : decode cX5_drawOn 19 = .ok (.getfield 15, 3) := by decide +kernel
theorem dX5_drawOn_22 : decode cX5_drawOn 22 = .ok (.if_icmp .ge 15, 3) := by decide +kernel
theorem dX5_drawOn_25 : decode cX5_drawOn 25 = .ok (.aload_n 0, 1) := by decide +kernel
theorem dX5_drawOn_26 : decode cX5_drawOn 26 = .ok (.getfield 9, 3) := by decide +kernel
theorem dX5_drawOn_29 : decode cX5_drawOn 29 = .ok (.iload 4, 2) := by decide +kernel
theorem dX5_drawOn_31 : decode cX5_drawOn 31 = .ok (.invokestatic 23, 3) := by decide +kernel
theorem dX5_drawOn_34 : decode cX5_drawOn 34 = .ok (.goto 5, 3) := by decide +kernel
theorem dX5_drawOn_37 : decode cX5_drawOn 37 = .ok (.bipush 47, 2) := by decide +kernel
theorem dX5_drawOn_39 : decode cX5_drawOn 39 = .ok (.istore 5, 2) := by decide +kernel
theorem dX5_drawOn_41 : decode cX5_drawOn 41 = .ok (.iload 5, 2) := by decide +kernel
theorem dX5_drawOn_43 : decode cX5_drawOn 43 = .ok (.bipush 48, 2) := by decide +kernel
theorem dX5_drawOn_45 : decode cX5_drawOn 45 = .ok (.if_icmp .lt 24, 3) := by decide +kernel
theorem dX5_drawOn_48 : decode cX5_drawOn 48 = .ok (.iload 5, 2) := by decide +kernel
theorem dX5_drawOn_50 : decode cX5_drawOn 50 = .ok (.bipush 57, 2) := by decide +kernel
theorem dX5_drawOn_52 : decode cX5_drawOn 52 = .ok (.if_icmp .gt 17, 3) := by decide +kernel
theorem dX5_drawOn_55 : decode cX5_drawOn 55 = .ok (.iload_n 3, 1) := by decide +kernel
theorem dX5_drawOn_56 : decode cX5_drawOn 56 = .ok (.bipush 10, 2) := by decide +kernel
theorem dX5_drawOn_58 : decode cX5_drawOn 58 = .ok (.imul, 1) := by decide +kernel
theorem dX5_drawOn_59 : decode cX5_drawOn 59 = .ok (.iload 5, 2) := by decide +kernel
theorem dX5_drawOn_61 : decode cX5_drawOn 61 = .ok (.iadd, 1) := by decide +kernel
theorem dX5_drawOn_62 : decode cX5_drawOn 62 = .ok (.bipush 48, 2) := by decide +kernel
theorem dX5_drawOn_64 : decode cX5_drawOn 64 = .ok (.isub, 1) := by decide +kernel
theorem dX5_drawOn_65 : decode cX5_drawOn 65 = .ok (.istore_n 3, 1) := by decide +kernel
theorem dX5_drawOn_66 : decode cX5_drawOn 66 = .ok (.goto 39, 3) := by decide +kernel
theorem dX5_drawOn_69 : decode cX5_drawOn 69 = .ok (.iload 5, 2) := by decide +kernel
theorem dX5_drawOn_71 : decode cX5_drawOn 71 = .ok (.bipush 44, 2) := by decide +kernel
theorem dX5_drawOn_73 : decode cX5_drawOn 73 = .ok (.if_icmp .ne 8, 3) := by decide +kernel
theorem dX5_drawOn_76 : decode cX5_drawOn 76 = .ok (.iload_n 3, 1) := by decide +kernel
theorem dX5_drawOn_77 : decode cX5_drawOn 77 = .ok (.istore_n 2, 1) := by decide +kernel
theorem dX5_drawOn_78 : decode cX5_drawOn 78 = .ok (.goto 14, 3) := by decide +kernel
theorem dX5_drawOn_81 : decode cX5_drawOn 81 = .ok (.aload_n 1, 1) := by decide +kernel
theorem dX5_drawOn_82 : decode cX5_drawOn 82 = .ok (.iload_n 2, 1) := by decide +kernel
theorem dX5_drawOn_83 : decode cX5_drawOn 83 = .ok (.iload_n 3, 1) := by decide +kernel
theorem dX5_drawOn_84 : decode cX5_drawOn 84 = .ok (.invokevirtual 31, 3) := by decide +kernel
theorem dX5_drawOn_87 : decode cX5_drawOn 87 = .ok (.ifCond .ne 5, 3) := by decide +kernel
theorem dX5_drawOn_90 : decode cX5_drawOn 90 = .ok (.iconst 0, 1) := by decide +kernel
theorem dX5_drawOn_91 : decode cX5_drawOn 91 = .ok (.ireturn, 1) := by decide +kernel
theorem dX5_drawOn_92 : decode cX5_drawOn 92 = .ok (.iload 5, 2) := by decide +kernel
theorem dX5_drawOn_94 : decode cX5_drawOn 94 = .ok (.bipush 47, 2) := by decide +kernel
theorem dX5_drawOn_96 : decode cX5_drawOn 96 = .ok (.if_icmp .ne 7, 3) := by decide +kernel
theorem dX5_drawOn_99 : decode cX5_drawOn 99 = .ok (.aload_n 1, 1) := by decide +kernel
theorem dX5_drawOn_100 : decode cX5_drawOn 100 = .ok (.invokevirtual 36, 3) := by decide +kernel
theorem dX5_drawOn_103 : decode cX5_drawOn 103 = .ok (.iconst 0, 1) := by decide +kernel
theorem dX5_drawOn_104 : decode cX5_drawOn 104 = .ok (.istore_n 3, 1) := by decide +kernel
theorem dX5_drawOn_105 : decode cX5_drawOn 105 = .ok (.iinc 4 1, 3) := by decide +kernel
theorem dX5_drawOn_108 : decode cX5_drawOn 108 = .ok (.goto (-101), 3) := by decide +kernel
theorem dX5_drawOn_111 : decode cX5_drawOn 111 = .ok (.iconst 1, 1) := by decide +kernel
theorem dX5_drawOn_112 : decode cX5_drawOn 112 = .ok (.ireturn, 1) := by decide +kernel
set_option maxRecDepth 20000 in
theorem ggX6_init_X4_init_p0 : GoodIn wsX6_init [.code yX4_init cX4_init 1 none] := goodIn_r _ [26] (by decide +kernel) (by decide +kernel)
theorem ggX6_init_X4_init_p1 : GoodIn wsX6_init [.methodLink RX4 3 objectInit, .instanceMethod objectInit, .code objectInit ⟨#[0xb1]⟩ 1 none, .classLink RX4 9 RX0, .instantiable RX0 5, .initialized RX0, .fieldLink RX4 12 "RuledStrokes$State" "figures" "LRuledStrokes$Figures;", .arrayClass .int, .fieldLink RX4 18 "RuledStrokes$State" "names" "[I", .fieldLink RX4 22 "RuledStrokes$State" "settings" "[I", .fieldLink RX4 25 "RuledStrokes$State" "outcomes" "[I", .instanceMethod yX0_init, .code yX0_init cX0_init 1 none, .methodLink RX0 3 objectInit, .fieldLink RX0 9 "RuledStrokes$Figures" "strokes" "[I", .fieldLink RX0 15 "RuledStrokes$Figures" "lengths" "[I", .fieldLink RX0 18 "RuledStrokes$Figures" "points" "[I", .fieldLink RX0 21 "RuledStrokes$Figures" "signCounts" "[I", .fieldLink RX0 24 "RuledStrokes$Figures" "signs" "[I"] := goodIn_r _ [27, 2, 3, 28, 29, 30, 31, 32, 33, 34, 35, 36, 37, 38, 39, 40, 41, 42, 43] (by decide +kernel) (by decide +kernel)
theorem ggX6_init_X4_init_p2 : GoodIn wsX6_init wsX00 := goodIn_r _ [93, 94, 95, 96, 97] (by decide +kernel) (by decide +kernel)
theorem ggX6_init_X4_init_p3 : GoodIn wsX6_init wsX40 := goodIn_r _ [69, 70, 71, 72, 73, 74] (by decide +kernel) (by decide +kernel)
theorem ggX6_init_X4_init : GoodIn wsX6_init wsX4_init := (goodIn_c2 ggX6_init_X4_init_p0 (goodIn_app (goodIn_app ggX6_init_X4_init_p1 ggX6_init_X4_init_p2) ggX6_init_X4_init_p3))
set_option maxRecDepth 20000 in
theorem gX6_init_X4_init_n11 : GoodIn wsX6_init (wsX4_init) := ggX6_init_X4_init
set_option maxRecDepth 20000 in
theorem ggX6_init_X2_init : GoodIn wsX6_init wsX2_init := goodIn_r _ [45, 46, 2, 3, 32, 47, 48, 81, 82, 83, 84, 85, 86] (by decide +kernel) (by decide +kernel)
set_option maxRecDepth 20000 in
theorem gX6_init_X2_init_n21 : GoodIn wsX6_init (wsX2_init) := ggX6_init_X2_init
set_option maxRecDepth 20000 in
theorem ggX6_init_X5_init : GoodIn wsX6_init wsX5_init := goodIn_r _ [50, 51, 2, 3, 32, 52, 87, 88] (by decide +kernel) (by decide +kernel)
set_option maxRecDepth 20000 in
theorem gX6_init_X5_init_n28 : GoodIn wsX6_init (wsX5_init) := ggX6_init_X5_init
set_option maxRecDepth 20000 in
theorem ggX6_init_X1_init : GoodIn wsX6_init wsX1_init := goodIn_r _ [54, 55, 2, 3, 56, 22, 23, 57, 58, 59, 60, 61, 62, 63, 64, 65, 66, 67, 92, 89, 90, 91] (by decide +kernel) (by decide +kernel)
set_option maxRecDepth 20000 in
theorem gX6_init_X1_init_n35 : GoodIn wsX6_init (wsX1_init) := ggX6_init_X1_init
set_option maxRecDepth 20000 in
theorem ggX6_init_X3_init : GoodIn wsX6_init wsX3_init := goodIn_r _ [60, 61, 2, 3, 62, 63, 64, 65, 66, 67, 92] (by decide +kernel) (by decide +kernel)
set_option maxRecDepth 20000 in
theorem gX6_init_X3_init : GoodIn wsX6_init (wsX3_init) := ggX6_init_X3_init
theorem dX6_init_0 : decode cX6_init 0 = .ok (.aload_n 0, 1) := by decide +kernel
theorem dX6_init_1 : decode cX6_init 1 = .ok (.invokespecial 3, 3) := by decide +kernel
theorem dX6_init_4 : decode cX6_init 4 = .ok (.aload_n 0, 1) := by decide +kernel
theorem dX6_init_5 : decode cX6_init 5 = .ok (.new 9, 3) := by decide +kernel
theorem dX6_init_8 : decode cX6_init 8 = .ok (.dup, 1) := by decide +kernel
theorem dX6_init_9 : decode cX6_init 9 = .ok (.invokespecial 11, 3) := by decide +kernel
theorem dX6_init_12 : decode cX6_init 12 = .ok (.putfield 12, 3) := by decide +kernel
theorem dX6_init_15 : decode cX6_init 15 = .ok (.aload_n 0, 1) := by decide +kernel
theorem dX6_init_16 : decode cX6_init 16 = .ok (.new 9, 3) := by decide +kernel
theorem dX6_init_19 : decode cX6_init 19 = .ok (.dup, 1) := by decide +kernel
theorem dX6_init_20 : decode cX6_init 20 = .ok (.invokespecial 11, 3) := by decide +kernel
theorem dX6_init_23 : decode cX6_init 23 = .ok (.putfield 16, 3) := by decide +kernel
theorem dX6_init_26 : decode cX6_init 26 = .ok (.aload_n 0, 1) := by decide +kernel
theorem dX6_init_27 : decode cX6_init 27 = .ok (.new 19, 3) := by decide +kernel
theorem dX6_init_30 : decode cX6_init 30 = .ok (.dup, 1) := by decide +kernel
theorem dX6_init_31 : decode cX6_init 31 = .ok (.invokespecial 21, 3) := by decide +kernel
theorem dX6_init_34 : decode cX6_init 34 = .ok (.putfield 22, 3) := by decide +kernel
theorem dX6_init_37 : decode cX6_init 37 = .ok (.aload_n 0, 1) := by decide +kernel
theorem dX6_init_38 : decode cX6_init 38 = .ok (.new 26, 3) := by decide +kernel
theorem dX6_init_41 : decode cX6_init 41 = .ok (.dup, 1) := by decide +kernel
theorem dX6_init_42 : decode cX6_init 42 = .ok (.invokespecial 28, 3) := by decide +kernel
theorem dX6_init_45 : decode cX6_init 45 = .ok (.putfield 29, 3) := by decide +kernel
theorem dX6_init_48 : decode cX6_init 48 = .ok (.aload_n 0, 1) := by decide +kernel
theorem dX6_init_49 : decode cX6_init 49 = .ok (.new 33, 3) := by decide +kernel
theorem dX6_init_52 : decode cX6_init 52 = .ok (.dup, 1) := by decide +kernel
theorem dX6_init_53 : decode cX6_init 53 = .ok (.invokespecial 35, 3) := by decide +kernel
theorem dX6_init_56 : decode cX6_init 56 = .ok (.putfield 36, 3) := by decide +kernel
theorem dX6_init_59 : decode cX6_init 59 = .ok (.aload_n 0, 1) := by decide +kernel
theorem dX6_init_60 : decode cX6_init 60 = .ok (.new 40, 3) := by decide +kernel
theorem dX6_init_63 : decode cX6_init 63 = .ok (.dup, 1) := by decide +kernel
theorem dX6_init_64 : decode cX6_init 64 = .ok (.iconst 2, 1) := by decide +kernel
theorem dX6_init_65 : decode cX6_init 65 = .ok (.invokespecial 42, 3) := by decide +kernel
theorem dX6_init_68 : decode cX6_init 68 = .ok (.putfield 45, 3) := by decide +kernel
theorem dX6_init_71 : decode cX6_init 71 = .ok (.return_, 1) := by decide +kernel
set_option maxRecDepth 20000 in
theorem ggX6_append_X5_addCode : GoodIn wsX6_append wsX5_addCode := goodIn_r _ [11, 12, 13, 14, 15, 16, 23, 24] (by decide +kernel) (by decide +kernel)
set_option maxRecDepth 20000 in
theorem gX6_append_X5_addCode : GoodIn wsX6_append (wsV RX6 65 RX5 yX5_addCode wsX5_addCode) := goodIn_app (goodIn_of _ (by decide +kernel)) ggX6_append_X5_addCode
theorem dX6_append_0 : decode cX6_append 0 = .ok (.iload_n 1, 1) := by decide +kernel
theorem dX6_append_1 : decode cX6_append 1 = .ok (.ifCond .lt 10, 3) := by decide +kernel
theorem dX6_append_4 : decode cX6_append 4 = .ok (.iload_n 1, 1) := by decide +kernel
theorem dX6_append_5 : decode cX6_append 5 = .ok (.sipush 255, 3) := by decide +kernel
theorem dX6_append_8 : decode cX6_append 8 = .ok (.if_icmp .le 13, 3) := by decide +kernel
theorem dX6_append_11 : decode cX6_append 11 = .ok (.new 49, 3) := by decide +kernel
theorem dX6_append_14 : decode cX6_append 14 = .ok (.dup, 1) := by decide +kernel
theorem dX6_append_15 : decode cX6_append 15 = .ok (.ldc 51, 2) := by decide +kernel
theorem dX6_append_17 : decode cX6_append 17 = .ok (.invokespecial 53, 3) := by decide +kernel
theorem dX6_append_20 : decode cX6_append 20 = .ok (.athrow, 1) := by decide +kernel
theorem dX6_append_21 : decode cX6_append 21 = .ok (.aload_n 0, 1) := by decide +kernel
theorem dX6_append_22 : decode cX6_append 22 = .ok (.getfield 29, 3) := by decide +kernel
theorem dX6_append_25 : decode cX6_append 25 = .ok (.getfield 56, 3) := by decide +kernel
theorem dX6_append_28 : decode cX6_append 28 = .ok (.bipush 100, 2) := by decide +kernel
theorem dX6_append_30 : decode cX6_append 30 = .ok (.if_icmp .lt 13, 3) := by decide +kernel
theorem dX6_append_33 : decode cX6_append 33 = .ok (.new 60, 3) := by decide +kernel
theorem dX6_append_36 : decode cX6_append 36 = .ok (.dup, 1) := by decide +kernel
theorem dX6_append_37 : decode cX6_append 37 = .ok (.ldc 62, 2) := by decide +kernel
theorem dX6_append_39 : decode cX6_append 39 = .ok (.invokespecial 64, 3) := by decide +kernel
theorem dX6_append_42 : decode cX6_append 42 = .ok (.athrow, 1) := by decide +kernel
theorem dX6_append_43 : decode cX6_append 43 = .ok (.aload_n 0, 1) := by decide +kernel
theorem dX6_append_44 : decode cX6_append 44 = .ok (.getfield 29, 3) := by decide +kernel
theorem dX6_append_47 : decode cX6_append 47 = .ok (.iload_n 1, 1) := by decide +kernel
theorem dX6_append_48 : decode cX6_append 48 = .ok (.invokevirtual 65, 3) := by decide +kernel
theorem dX6_append_51 : decode cX6_append 51 = .ok (.aload_n 0, 1) := by decide +kernel
theorem dX6_append_52 : decode cX6_append 52 = .ok (.getfield 29, 3) := by decide +kernel
theorem dX6_append_55 : decode cX6_append 55 = .ok (.getfield 56, 3) := by decide +kernel
theorem dX6_append_58 : decode cX6_append 58 = .ok (.ireturn, 1) := by decide +kernel
theorem dX6_clearText_0 : decode cX6_clearText 0 = .ok (.aload_n 0, 1) := by decide +kernel
theorem dX6_clearText_1 : decode cX6_clearText 1 = .ok (.getfield 29, 3) := by decide +kernel
theorem dX6_clearText_4 : decode cX6_clearText 4 = .ok (.getfield 56, 3) := by decide +kernel
theorem dX6_clearText_7 : decode cX6_clearText 7 = .ok (.istore_n 1, 1) := by decide +kernel
theorem dX6_clearText_8 : decode cX6_clearText 8 = .ok (.aload_n 0, 1) := by decide +kernel
theorem dX6_clearText_9 : decode cX6_clearText 9 = .ok (.getfield 29, 3) := by decide +kernel
theorem dX6_clearText_12 : decode cX6_clearText 12 = .ok (.iconst 0, 1) := by decide +kernel
theorem dX6_clearText_13 : decode cX6_clearText 13 = .ok (.putfield 56, 3) := by decide +kernel
theorem dX6_clearText_16 : decode cX6_clearText 16 = .ok (.iload_n 1, 1) := by decide +kernel
theorem dX6_clearText_17 : decode cX6_clearText 17 = .ok (.ireturn, 1) := by decide +kernel
set_option maxRecDepth 20000 in
theorem ggX6_errorPosition_X5_firstError : GoodIn wsX6_errorPosition wsX5_firstError := goodIn_r _ [6, 7, 8, 9, 10, 11, 12, 13, 5, 14, 21, 22] (by decide +kernel) (by decide +kernel)
set_option maxRecDepth 20000 in
theorem gX6_errorPosition_X5_firstError : GoodIn wsX6_errorPosition (wsV RX6 68 RX5 yX5_firstError wsX5_firstError) := goodIn_app (goodIn_of _ (by decide +kernel)) ggX6_errorPosition_X5_firstError
theorem dX6_errorPosition_0 : decode cX6_errorPosition 0 = .ok (.aload_n 0, 1) := by decide +kernel
theorem dX6_errorPosition_1 : decode cX6_errorPosition 1 = .ok (.getfield 29, 3) := by decide +kernel
theorem dX6_errorPosition_4 : decode cX6_errorPosition 4 = .ok (.invokevirtual 68, 3) := by decide +kernel
theorem dX6_errorPosition_7 : decode cX6_errorPosition 7 = .ok (.ireturn, 1) := by decide +kernel
set_option maxRecDepth 20000 in
theorem ggX6_about_X0_strokesOf : GoodIn wsX6_about wsX0_strokesOf := goodIn_r _ [11, 12, 13, 14, 15, 53, 54, 55, 56, 57] (by decide +kernel) (by decide +kernel)
set_option maxRecDepth 20000 in
theorem gX6_about_X0_strokesOf : GoodIn wsX6_about (wsV RX6 76 RX0 yX0_strokesOf wsX0_strokesOf) := goodIn_app (goodIn_of _ (by decide +kernel)) ggX6_about_X0_strokesOf
set_option maxRecDepth 20000 in
theorem ggX6_about_X0_pointsOf : GoodIn wsX6_about wsX0_pointsOf := goodIn_r _ [19, 20, 8, 9, 10, 11, 12, 13, 14, 15, 21, 22, 23, 24, 25, 53, 54, 55, 56, 57] (by decide +kernel) (by decide +kernel)
set_option maxRecDepth 20000 in
theorem gX6_about_X0_pointsOf : GoodIn wsX6_about (wsV RX6 82 RX0 yX0_pointsOf wsX0_pointsOf) := goodIn_app (goodIn_of _ (by decide +kernel)) ggX6_about_X0_pointsOf
set_option maxRecDepth 20000 in
theorem ggX6_about_X0_signsOf : GoodIn wsX6_about wsX0_signsOf := goodIn_r _ [29, 30, 13, 14, 15, 53, 54, 55, 56, 57] (by decide +kernel) (by decide +kernel)
set_option maxRecDepth 20000 in
theorem gX6_about_X0_signsOf : GoodIn wsX6_about (wsV RX6 89 RX0 yX0_signsOf wsX0_signsOf) := goodIn_app (goodIn_of _ (by decide +kernel)) ggX6_about_X0_signsOf
set_option maxRecDepth 20000 in
theorem ggX6_about_X4_outcomesOf : GoodIn wsX6_about wsX4_outcomesOf := goodIn_r _ [35, 36, 37, 38, 34, 39, 40, 13, 14, 15, 47, 48, 49, 50, 51, 52] (by decide +kernel) (by decide +kernel)
set_option maxRecDepth 20000 in
theorem gX6_about_X4_outcomesOf : GoodIn wsX6_about (wsV RX6 95 RX4 yX4_outcomesOf wsX4_outcomesOf) := goodIn_app (goodIn_of _ (by decide +kernel)) ggX6_about_X4_outcomesOf
theorem dX6_about_0 : decode cX6_about 0 = .ok (.iload_n 1, 1) := by decide +kernel
theorem dX6_about_1 : decode cX6_about 1 = .ok (.tableswitch 155 0 7 #[47, 60, 73, 89, 102, 110, 137, 146], 47) := by decide +kernel
theorem dX6_about_48 : decode cX6_about 48 = .ok (.aload_n 0, 1) := by decide +kernel
theorem dX6_about_49 : decode cX6_about 49 = .ok (.getfield 12, 3) := by decide +kernel
theorem dX6_about_52 : decode cX6_about 52 = .ok (.getfield 72, 3) := by decide +kernel
theorem dX6_about_55 : decode cX6_about 55 = .ok (.bipush 16, 2) := by decide +kernel
theorem dX6_about_57 : decode cX6_about 57 = .ok (.invokevirtual 76, 3) := by decide +kernel
theorem dX6_about_60 : decode cX6_about 60 = .ok (.ireturn, 1) := by decide +kernel
theorem dX6_about_61 : decode cX6_about 61 = .ok (.aload_n 0, 1) := by decide +kernel
theorem dX6_about_62 : decode cX6_about 62 = .ok (.getfield 12, 3) := by decide +kernel
theorem dX6_about_65 : decode cX6_about 65 = .ok (.getfield 72, 3) := by decide +kernel
theorem dX6_about_68 : decode cX6_about 68 = .ok (.bipush 16, 2) := by decide +kernel
theorem dX6_about_70 : decode cX6_about 70 = .ok (.invokevirtual 82, 3) := by decide +kernel
theorem dX6_about_73 : decode cX6_about 73 = .ok (.ireturn, 1) := by decide +kernel
theorem dX6_about_74 : decode cX6_about 74 = .ok (.aload_n 0, 1) := by decide +kernel
theorem dX6_about_75 : decode cX6_about 75 = .ok (.getfield 12, 3) := by decide +kernel
theorem dX6_about_78 : decode cX6_about 78 = .ok (.getfield 85, 3) := by decide +kernel
theorem dX6_about_81 : decode cX6_about 81 = .ok (.ifCond .eq 7, 3) := by decide +kernel
theorem dX6_about_84 : decode cX6_about 84 = .ok (.iconst 1, 1) := by decide +kernel
theorem dX6_about_85 : decode cX6_about 85 = .ok (.goto 4, 3) := by decide +kernel
theorem dX6_about_88 : decode cX6_about 88 = .ok (.iconst 0, 1) := by decide +kernel
theorem dX6_about_89 : decode cX6_about 89 = .ok (.ireturn, 1) := by decide +kernel
theorem dX6_about_90 : decode cX6_about 90 = .ok (.aload_n 0, 1) := by decide +kernel
theorem dX6_about_91 : decode cX6_about 91 = .ok (.getfield 12, 3) := by decide +kernel
theorem dX6_about_94 : decode cX6_about 94 = .ok (.getfield 72, 3) := by decide +kernel
theorem dX6_about_97 : decode cX6_about 97 = .ok (.bipush 16, 2) := by decide +kernel
theorem dX6_about_99 : decode cX6_about 99 = .ok (.invokevirtual 89, 3) := by decide +kernel
theorem dX6_about_102 : decode cX6_about 102 = .ok (.ireturn, 1) := by decide +kernel
theorem dX6_about_103 : decode cX6_about 103 = .ok (.aload_n 0, 1) := by decide +kernel
theorem dX6_about_104 : decode cX6_about 104 = .ok (.getfield 12, 3) := by decide +kernel
theorem dX6_about_107 : decode cX6_about 107 = .ok (.getfield 92, 3) := by decide +kernel
theorem dX6_about_110 : decode cX6_about 110 = .ok (.ireturn, 1) := by decide +kernel
theorem dX6_about_111 : decode cX6_about 111 = .ok (.aload_n 0, 1) := by decide +kernel
theorem dX6_about_112 : decode cX6_about 112 = .ok (.getfield 12, 3) := by decide +kernel
theorem dX6_about_115 : decode cX6_about 115 = .ok (.iconst 0, 1) := by decide +kernel
theorem dX6_about_116 : decode cX6_about 116 = .ok (.invokevirtual 95, 3) := by decide +kernel
theorem dX6_about_119 : decode cX6_about 119 = .ok (.aload_n 0, 1) := by decide +kernel
theorem dX6_about_120 : decode cX6_about 120 = .ok (.getfield 12, 3) := by decide +kernel
theorem dX6_about_123 : decode cX6_about 123 = .ok (.iconst 1, 1) := by decide +kernel
theorem dX6_about_124 : decode cX6_about 124 = .ok (.invokevirtual 95, 3) := by decide +kernel
theorem dX6_about_127 : decode cX6_about 127 = .ok (.iadd, 1) := by decide +kernel
theorem dX6_about_128 : decode cX6_about 128 = .ok (.aload_n 0, 1) := by decide +kernel
theorem dX6_about_129 : decode cX6_about 129 = .ok (.getfield 12, 3) := by decide +kernel
theorem dX6_about_132 : decode cX6_about 132 = .ok (.iconst 2, 1) := by decide +kernel
theorem dX6_about_133 : decode cX6_about 133 = .ok (.invokevirtual 95, 3) := by decide +kernel
theorem dX6_about_136 : decode cX6_about 136 = .ok (.iadd, 1) := by decide +kernel
theorem dX6_about_137 : decode cX6_about 137 = .ok (.ireturn, 1) := by decide +kernel
theorem dX6_about_138 : decode cX6_about 138 = .ok (.aload_n 0, 1) := by decide +kernel
theorem dX6_about_139 : decode cX6_about 139 = .ok (.getfield 12, 3) := by decide +kernel
theorem dX6_about_142 : decode cX6_about 142 = .ok (.iconst 0, 1) := by decide +kernel
theorem dX6_about_143 : decode cX6_about 143 = .ok (.invokevirtual 95, 3) := by decide +kernel
theorem dX6_about_146 : decode cX6_about 146 = .ok (.ireturn, 1) := by decide +kernel
theorem dX6_about_147 : decode cX6_about 147 = .ok (.aload_n 0, 1) := by decide +kernel
theorem dX6_about_148 : decode cX6_about 148 = .ok (.getfield 12, 3) := by decide +kernel
theorem dX6_about_151 : decode cX6_about 151 = .ok (.iconst 1, 1) := by decide +kernel
theorem dX6_about_152 : decode cX6_about 152 = .ok (.invokevirtual 95, 3) := by decide +kernel
theorem dX6_about_155 : decode cX6_about 155 = .ok (.ireturn, 1) := by decide +kernel
theorem dX6_about_156 : decode cX6_about 156 = .ok (.new 49, 3) := by decide +kernel
theorem dX6_about_159 : decode cX6_about 159 = .ok (.dup, 1) := by decide +kernel
theorem dX6_about_160 : decode cX6_about 160 = .ok (.ldc 98, 2) := by decide +kernel
theorem dX6_about_162 : decode cX6_about 162 = .ok (.invokespecial 53, 3) := by decide +kernel
theorem dX6_about_165 : decode cX6_about 165 = .ok (.athrow, 1) := by decide +kernel
set_option maxRecDepth 20000 in
theorem ggX6_sign_X0_signAt : GoodIn wsX6_sign wsX0_signAt := goodIn_r _ [9, 10, 11, 12, 13, 14, 27, 28, 29, 30, 31] (by decide +kernel) (by decide +kernel)
set_option maxRecDepth 20000 in
theorem gX6_sign_X0_signAt : GoodIn wsX6_sign (wsV RX6 102 RX0 yX0_signAt wsX0_signAt) := goodIn_app (goodIn_of _ (by decide +kernel)) ggX6_sign_X0_signAt
theorem dX6_sign_0 : decode cX6_sign 0 = .ok (.iload_n 1, 1) := by decide +kernel
theorem dX6_sign_1 : decode cX6_sign 1 = .ok (.ifCond .ge 13, 3) := by decide +kernel
theorem dX6_sign_4 : decode cX6_sign 4 = .ok (.new 49, 3) := by decide +kernel
theorem dX6_sign_7 : decode cX6_sign 7 = .ok (.dup, 1) := by decide +kernel
theorem dX6_sign_8 : decode cX6_sign 8 = .ok (.ldc 100, 2) := by decide +kernel
theorem dX6_sign_10 : decode cX6_sign 10 = .ok (.invokespecial 53, 3) := by decide +kernel
theorem dX6_sign_13 : decode cX6_sign 13 = .ok (.athrow, 1) := by decide +kernel
theorem dX6_sign_14 : decode cX6_sign 14 = .ok (.aload_n 0, 1) := by decide +kernel
theorem dX6_sign_15 : decode cX6_sign 15 = .ok (.getfield 12, 3) := by decide +kernel
theorem dX6_sign_18 : decode cX6_sign 18 = .ok (.getfield 72, 3) := by decide +kernel
theorem dX6_sign_21 : decode cX6_sign 21 = .ok (.bipush 16, 2) := by decide +kernel
theorem dX6_sign_23 : decode cX6_sign 23 = .ok (.iload_n 1, 1) := by decide +kernel
theorem dX6_sign_24 : decode cX6_sign 24 = .ok (.invokevirtual 102, 3) := by decide +kernel
theorem dX6_sign_27 : decode cX6_sign 27 = .ok (.ireturn, 1) := by decide +kernel
set_option maxRecDepth 20000 in
theorem ggX6_sample_X4_hasSample : GoodIn wsX6_sample wsX4_hasSample := goodIn_r _ [11, 12, 48, 49, 50, 51, 52, 53] (by decide +kernel) (by decide +kernel)
set_option maxRecDepth 20000 in
theorem gX6_sample_X4_hasSample : GoodIn wsX6_sample (wsV RX6 106 RX4 yX4_hasSample wsX4_hasSample) := goodIn_app (goodIn_of _ (by decide +kernel)) ggX6_sample_X4_hasSample
set_option maxRecDepth 20000 in
theorem ggX6_sample_X4_nameOf : GoodIn wsX6_sample wsX4_nameOf := goodIn_r _ [16, 17, 18, 19, 20, 48, 49, 50, 51, 52, 53] (by decide +kernel) (by decide +kernel)
set_option maxRecDepth 20000 in
theorem gX6_sample_X4_nameOf : GoodIn wsX6_sample (wsV RX6 115 RX4 yX4_nameOf wsX4_nameOf) := goodIn_app (goodIn_of _ (by decide +kernel)) ggX6_sample_X4_nameOf
set_option maxRecDepth 20000 in
theorem ggX6_sample_X0_strokesOf : GoodIn wsX6_sample wsX0_strokesOf := goodIn_r _ [25, 26, 18, 19, 20, 54, 55, 56, 57, 58] (by decide +kernel) (by decide +kernel)
set_option maxRecDepth 20000 in
theorem gX6_sample_X0_strokesOf : GoodIn wsX6_sample (wsV RX6 76 RX0 yX0_strokesOf wsX0_strokesOf) := goodIn_app (goodIn_of _ (by decide +kernel)) ggX6_sample_X0_strokesOf
set_option maxRecDepth 20000 in
theorem ggX6_sample_X0_pointsOf : GoodIn wsX6_sample wsX0_pointsOf := goodIn_r _ [30, 31, 22, 23, 24, 25, 26, 18, 19, 20, 32, 33, 34, 35, 36, 54, 55, 56, 57, 58] (by decide +kernel) (by decide +kernel)
set_option maxRecDepth 20000 in
theorem gX6_sample_X0_pointsOf : GoodIn wsX6_sample (wsV RX6 82 RX0 yX0_pointsOf wsX0_pointsOf) := goodIn_app (goodIn_of _ (by decide +kernel)) ggX6_sample_X0_pointsOf
set_option maxRecDepth 20000 in
theorem ggX6_sample_X0_signsOf : GoodIn wsX6_sample wsX0_signsOf := goodIn_r _ [40, 41, 18, 19, 20, 54, 55, 56, 57, 58] (by decide +kernel) (by decide +kernel)
set_option maxRecDepth 20000 in
theorem gX6_sample_X0_signsOf : GoodIn wsX6_sample (wsV RX6 89 RX0 yX0_signsOf wsX0_signsOf) := goodIn_app (goodIn_of _ (by decide +kernel)) ggX6_sample_X0_signsOf
theorem dX6_sample_0 : decode cX6_sample 0 = .ok (.aload_n 0, 1) := by decide +kernel
theorem dX6_sample_1 : decode cX6_sample 1 = .ok (.getfield 12, 3) := by decide +kernel
theorem dX6_sample_4 : decode cX6_sample 4 = .ok (.iload_n 1, 1) := by decide +kernel
theorem dX6_sample_5 : decode cX6_sample 5 = .ok (.invokevirtual 106, 3) := by decide +kernel
theorem dX6_sample_8 : decode cX6_sample 8 = .ok (.ifCond .ne 13, 3) := by decide +kernel
theorem dX6_sample_11 : decode cX6_sample 11 = .ok (.new 110, 3) := by decide +kernel
theorem dX6_sample_14 : decode cX6_sample 14 = .ok (.dup, 1) := by decide +kernel
theorem dX6_sample_15 : decode cX6_sample 15 = .ok (.ldc 112, 2) := by decide +kernel
theorem dX6_sample_17 : decode cX6_sample 17 = .ok (.invokespecial 114, 3) := by decide +kernel
theorem dX6_sample_20 : decode cX6_sample 20 = .ok (.athrow, 1) := by decide +kernel
theorem dX6_sample_21 : decode cX6_sample 21 = .ok (.iload_n 2, 1) := by decide +kernel
theorem dX6_sample_22 : decode cX6_sample 22 = .ok (.tableswitch 75 0 3 #[30, 39, 51, 63], 30) := by decide +kernel
theorem dX6_sample_52 : decode cX6_sample 52 = .ok (.aload_n 0, 1) := by decide +kernel
theorem dX6_sample_53 : decode cX6_sample 53 = .ok (.getfield 12, 3) := by decide +kernel
theorem dX6_sample_56 : decode cX6_sample 56 = .ok (.iload_n 1, 1) := by decide +kernel
theorem dX6_sample_57 : decode cX6_sample 57 = .ok (.invokevirtual 115, 3) := by decide +kernel
theorem dX6_sample_60 : decode cX6_sample 60 = .ok (.ireturn, 1) := by decide +kernel
theorem dX6_sample_61 : decode cX6_sample 61 = .ok (.aload_n 0, 1) := by decide +kernel
theorem dX6_sample_62 : decode cX6_sample 62 = .ok (.getfield 12, 3) := by decide +kernel
theorem dX6_sample_65 : decode cX6_sample 65 = .ok (.getfield 72, 3) := by decide +kernel
theorem dX6_sample_68 : decode cX6_sample 68 = .ok (.iload_n 1, 1) := by decide +kernel
theorem dX6_sample_69 : decode cX6_sample 69 = .ok (.invokevirtual 76, 3) := by decide +kernel
theorem dX6_sample_72 : decode cX6_sample 72 = .ok (.ireturn, 1) := by decide +kernel
theorem dX6_sample_73 : decode cX6_sample 73 = .ok (.aload_n 0, 1) := by decide +kernel
theorem dX6_sample_74 : decode cX6_sample 74 = .ok (.getfield 12, 3) := by decide +kernel
theorem dX6_sample_77 : decode cX6_sample 77 = .ok (.getfield 72, 3) := by decide +kernel
theorem dX6_sample_80 : decode cX6_sample 80 = .ok (.iload_n 1, 1) := by decide +kernel
theorem dX6_sample_81 : decode cX6_sample 81 = .ok (.invokevirtual 82, 3) := by decide +kernel
theorem dX6_sample_84 : decode cX6_sample 84 = .ok (.ireturn, 1) := by decide +kernel
theorem dX6_sample_85 : decode cX6_sample 85 = .ok (.aload_n 0, 1) := by decide +kernel
theorem dX6_sample_86 : decode cX6_sample 86 = .ok (.getfield 12, 3) := by decide +kernel
theorem dX6_sample_89 : decode cX6_sample 89 = .ok (.getfield 72, 3) := by decide +kernel
theorem dX6_sample_92 : decode cX6_sample 92 = .ok (.iload_n 1, 1) := by decide +kernel
theorem dX6_sample_93 : decode cX6_sample 93 = .ok (.invokevirtual 89, 3) := by decide +kernel
theorem dX6_sample_96 : decode cX6_sample 96 = .ok (.ireturn, 1) := by decide +kernel
theorem dX6_sample_97 : decode cX6_sample 97 = .ok (.new 49, 3) := by decide +kernel
theorem dX6_sample_100 : decode cX6_sample 100 = .ok (.dup, 1) := by decide +kernel
theorem dX6_sample_101 : decode cX6_sample 101 = .ok (.ldc 118, 2) := by decide +kernel
theorem dX6_sample_103 : decode cX6_sample 103 = .ok (.invokespecial 53, 3) := by decide +kernel
theorem dX6_sample_106 : decode cX6_sample 106 = .ok (.athrow, 1) := by decide +kernel
set_option maxRecDepth 20000 in
theorem ggX6_signOf_X4_hasSample : GoodIn wsX6_signOf wsX4_hasSample := goodIn_r _ [11, 12, 29, 30, 31, 32, 33, 34] (by decide +kernel) (by decide +kernel)
set_option maxRecDepth 20000 in
theorem gX6_signOf_X4_hasSample : GoodIn wsX6_signOf (wsV RX6 106 RX4 yX4_hasSample wsX4_hasSample) := goodIn_app (goodIn_of _ (by decide +kernel)) ggX6_signOf_X4_hasSample
set_option maxRecDepth 20000 in
theorem ggX6_signOf_X0_signAt : GoodIn wsX6_signOf wsX0_signAt := goodIn_r _ [17, 18, 19, 20, 21, 22, 35, 36, 37, 38, 39] (by decide +kernel) (by decide +kernel)
set_option maxRecDepth 20000 in
theorem gX6_signOf_X0_signAt : GoodIn wsX6_signOf (wsV RX6 102 RX0 yX0_signAt wsX0_signAt) := goodIn_app (goodIn_of _ (by decide +kernel)) ggX6_signOf_X0_signAt
theorem dX6_signOf_0 : decode cX6_signOf 0 = .ok (.aload_n 0, 1) := by decide +kernel
theorem dX6_signOf_1 : decode cX6_signOf 1 = .ok (.getfield 12, 3) := by decide +kernel
theorem dX6_signOf_4 : decode cX6_signOf 4 = .ok (.iload_n 1, 1) := by decide +kernel
theorem dX6_signOf_5 : decode cX6_signOf 5 = .ok (.invokevirtual 106, 3) := by decide +kernel
theorem dX6_signOf_8 : decode cX6_signOf 8 = .ok (.ifCond .ne 13, 3) := by decide +kernel
theorem dX6_signOf_11 : decode cX6_signOf 11 = .ok (.new 110, 3) := by decide +kernel
theorem dX6_signOf_14 : decode cX6_signOf 14 = .ok (.dup, 1) := by decide +kernel
theorem dX6_signOf_15 : decode cX6_signOf 15 = .ok (.ldc 112, 2) := by decide +kernel
theorem dX6_signOf_17 : decode cX6_signOf 17 = .ok (.invokespecial 114, 3) := by decide +kernel
theorem dX6_signOf_20 : decode cX6_signOf 20 = .ok (.athrow, 1) := by decide +kernel
theorem dX6_signOf_21 : decode cX6_signOf 21 = .ok (.iload_n 2, 1) := by decide +kernel
theorem dX6_signOf_22 : decode cX6_signOf 22 = .ok (.ifCond .ge 13, 3) := by decide +kernel
theorem dX6_signOf_25 : decode cX6_signOf 25 = .ok (.new 49, 3) := by decide +kernel
theorem dX6_signOf_28 : decode cX6_signOf 28 = .ok (.dup, 1) := by decide +kernel
theorem dX6_signOf_29 : decode cX6_signOf 29 = .ok (.ldc 100, 2) := by decide +kernel
theorem dX6_signOf_31 : decode cX6_signOf 31 = .ok (.invokespecial 53, 3) := by decide +kernel
theorem dX6_signOf_34 : decode cX6_signOf 34 = .ok (.athrow, 1) := by decide +kernel
theorem dX6_signOf_35 : decode cX6_signOf 35 = .ok (.aload_n 0, 1) := by decide +kernel
theorem dX6_signOf_36 : decode cX6_signOf 36 = .ok (.getfield 12, 3) := by decide +kernel
theorem dX6_signOf_39 : decode cX6_signOf 39 = .ok (.getfield 72, 3) := by decide +kernel
theorem dX6_signOf_42 : decode cX6_signOf 42 = .ok (.iload_n 1, 1) := by decide +kernel
theorem dX6_signOf_43 : decode cX6_signOf 43 = .ok (.iload_n 2, 1) := by decide +kernel
theorem dX6_signOf_44 : decode cX6_signOf 44 = .ok (.invokevirtual 102, 3) := by decide +kernel
theorem dX6_signOf_47 : decode cX6_signOf 47 = .ok (.ireturn, 1) := by decide +kernel
set_option maxRecDepth 20000 in
theorem ggX6_practised_X6_isName : GoodIn wsX6_practised wsX6_isName := goodIn_r _ [7] (by decide +kernel) (by decide +kernel)
set_option maxRecDepth 20000 in
theorem gX6_practised_X6_isName : GoodIn wsX6_practised (va_wsS RX6 120 yX6_isName wsX6_isName) := goodIn_app (goodIn_of _ (by decide +kernel)) ggX6_practised_X6_isName
set_option maxRecDepth 20000 in
theorem ggX6_practised_X4_outcomeOf : GoodIn wsX6_practised wsX4_outcomeOf := goodIn_r _ [12, 13, 14, 6, 15, 22, 23, 24, 25, 26, 27] (by decide +kernel) (by decide +kernel)
set_option maxRecDepth 20000 in
theorem gX6_practised_X4_outcomeOf : GoodIn wsX6_practised (wsV RX6 127 RX4 yX4_outcomeOf wsX4_outcomeOf) := goodIn_app (goodIn_of _ (by decide +kernel)) ggX6_practised_X4_outcomeOf
theorem dX6_practised_0 : decode cX6_practised 0 = .ok (.iload_n 1, 1) := by decide +kernel
theorem dX6_practised_1 : decode cX6_practised 1 = .ok (.invokestatic 120, 3) := by decide +kernel
theorem dX6_practised_4 : decode cX6_practised 4 = .ok (.ifCond .ne 13, 3) := by decide +kernel
theorem dX6_practised_7 : decode cX6_practised 7 = .ok (.new 49, 3) := by decide +kernel
theorem dX6_practised_10 : decode cX6_practised 10 = .ok (.dup, 1) := by decide +kernel
theorem dX6_practised_11 : decode cX6_practised 11 = .ok (.ldc 123, 2) := by decide +kernel
theorem dX6_practised_13 : decode cX6_practised 13 = .ok (.invokespecial 53, 3) := by decide +kernel
theorem dX6_practised_16 : decode cX6_practised 16 = .ok (.athrow, 1) := by decide +kernel
theorem dX6_practised_17 : decode cX6_practised 17 = .ok (.iload_n 2, 1) := by decide +kernel
theorem dX6_practised_18 : decode cX6_practised 18 = .ok (.ifCond .lt 8, 3) := by decide +kernel
theorem dX6_practised_21 : decode cX6_practised 21 = .ok (.iload_n 2, 1) := by decide +kernel
theorem dX6_practised_22 : decode cX6_practised 22 = .ok (.iconst 3, 1) := by decide +kernel
theorem dX6_practised_23 : decode cX6_practised 23 = .ok (.if_icmp .lt 13, 3) := by decide +kernel
theorem dX6_practised_26 : decode cX6_practised 26 = .ok (.new 49, 3) := by decide +kernel
theorem dX6_practised_29 : decode cX6_practised 29 = .ok (.dup, 1) := by decide +kernel
theorem dX6_practised_30 : decode cX6_practised 30 = .ok (.ldc 125, 2) := by decide +kernel
theorem dX6_practised_32 : decode cX6_practised 32 = .ok (.invokespecial 53, 3) := by decide +kernel
theorem dX6_practised_35 : decode cX6_practised 35 = .ok (.athrow, 1) := by decide +kernel
theorem dX6_practised_36 : decode cX6_practised 36 = .ok (.aload_n 0, 1) := by decide +kernel
theorem dX6_practised_37 : decode cX6_practised 37 = .ok (.getfield 12, 3) := by decide +kernel
theorem dX6_practised_40 : decode cX6_practised 40 = .ok (.iload_n 1, 1) := by decide +kernel
theorem dX6_practised_41 : decode cX6_practised 41 = .ok (.iload_n 2, 1) := by decide +kernel
theorem dX6_practised_42 : decode cX6_practised 42 = .ok (.invokevirtual 127, 3) := by decide +kernel
theorem dX6_practised_45 : decode cX6_practised 45 = .ok (.ireturn, 1) := by decide +kernel
set_option maxRecDepth 20000 in
theorem ggX6_setting_X4_settingOf : GoodIn wsX6_setting wsX4_settingOf := goodIn_r _ [8, 9, 10, 11, 12, 19, 20, 21, 22, 23, 24] (by decide +kernel) (by decide +kernel)
set_option maxRecDepth 20000 in
theorem gX6_setting_X4_settingOf : GoodIn wsX6_setting (wsV RX6 130 RX4 yX4_settingOf wsX4_settingOf) := goodIn_app (goodIn_of _ (by decide +kernel)) ggX6_setting_X4_settingOf
theorem dX6_setting_0 : decode cX6_setting 0 = .ok (.iload_n 1, 1) := by decide +kernel
theorem dX6_setting_1 : decode cX6_setting 1 = .ok (.ifCond .lt 8, 3) := by decide +kernel
theorem dX6_setting_4 : decode cX6_setting 4 = .ok (.iload_n 1, 1) := by decide +kernel
theorem dX6_setting_5 : decode cX6_setting 5 = .ok (.iconst 3, 1) := by decide +kernel
theorem dX6_setting_6 : decode cX6_setting 6 = .ok (.if_icmp .lt 13, 3) := by decide +kernel
theorem dX6_setting_9 : decode cX6_setting 9 = .ok (.new 49, 3) := by decide +kernel
theorem dX6_setting_12 : decode cX6_setting 12 = .ok (.dup, 1) := by decide +kernel
theorem dX6_setting_13 : decode cX6_setting 13 = .ok (.ldc 125, 2) := by decide +kernel
theorem dX6_setting_15 : decode cX6_setting 15 = .ok (.invokespecial 53, 3) := by decide +kernel
theorem dX6_setting_18 : decode cX6_setting 18 = .ok (.athrow, 1) := by decide +kernel
theorem dX6_setting_19 : decode cX6_setting 19 = .ok (.aload_n 0, 1) := by decide +kernel
theorem dX6_setting_20 : decode cX6_setting 20 = .ok (.getfield 12, 3) := by decide +kernel
theorem dX6_setting_23 : decode cX6_setting 23 = .ok (.iload_n 1, 1) := by decide +kernel
theorem dX6_setting_24 : decode cX6_setting 24 = .ok (.invokevirtual 130, 3) := by decide +kernel
theorem dX6_setting_27 : decode cX6_setting 27 = .ok (.ireturn, 1) := by decide +kernel
set_option maxRecDepth 20000 in
theorem ggX6_point_X6_isOnGrid : GoodIn wsX6_point wsX6_isOnGrid := goodIn_r _ [11] (by decide +kernel) (by decide +kernel)
set_option maxRecDepth 20000 in
theorem gX6_point_X6_isOnGrid : GoodIn wsX6_point (va_wsS RX6 133 yX6_isOnGrid wsX6_isOnGrid) := goodIn_app (goodIn_of _ (by decide +kernel)) ggX6_point_X6_isOnGrid
set_option maxRecDepth 20000 in
theorem ggX6_point_X1_prepare_p0 : GoodIn wsX6_point [.code yX1_prepare cX1_prepare 2 none] := goodIn_r _ [16] (by decide +kernel) (by decide +kernel)
theorem ggX6_point_X1_prepare_p1 : GoodIn wsX6_point wsX1_prepare_r1 := goodIn_r _ [17, 18, 19, 20, 21, 22, 23, 24, 25, 26, 27, 28, 29, 30, 31, 32, 33, 34, 35, 36, 37, 38, 39, 40] (by decide +kernel) (by decide +kernel)
theorem ggX6_point_X1_prepare_p2 : GoodIn wsX6_point wsX1_prepare_r2 := goodIn_r _ [41, 42, 43, 44, 45, 46, 47, 48, 49, 50, 51, 52, 53, 54, 55, 56, 57, 58, 59, 10, 60, 61, 62, 63] (by decide +kernel) (by decide +kernel)
theorem ggX6_point_X1_prepare_p3 : GoodIn wsX6_point wsX1_prepare_r3 := goodIn_r _ [64, 65, 66, 67, 68] (by decide +kernel) (by decide +kernel)
theorem ggX6_point_X1_prepare_p4 : GoodIn wsX6_point wsX10 := goodIn_r _ [148, 149, 150] (by decide +kernel) (by decide +kernel)
theorem ggX6_point_X1_prepare_p5 : GoodIn wsX6_point wsX30 := goodIn_r _ [151] (by decide +kernel) (by decide +kernel)
theorem ggX6_point_X1_prepare_p6 : GoodIn wsX6_point wsX40 := goodIn_r _ [142, 143, 144, 145, 146, 147] (by decide +kernel) (by decide +kernel)
theorem ggX6_point_X1_prepare_p7 : GoodIn wsX6_point wsX00 := goodIn_r _ [152, 153, 154, 155, 156] (by decide +kernel) (by decide +kernel)
theorem ggX6_point_X1_prepare : GoodIn wsX6_point wsX1_prepare := (goodIn_c2 ggX6_point_X1_prepare_p0 (goodIn_app (goodIn_app (goodIn_app (goodIn_app (goodIn_app ggX6_point_X1_prepare_p1 (goodIn_app ggX6_point_X1_prepare_p2 ggX6_point_X1_prepare_p3)) ggX6_point_X1_prepare_p4) ggX6_point_X1_prepare_p5) ggX6_point_X1_prepare_p6) ggX6_point_X1_prepare_p7))
set_option maxRecDepth 20000 in
theorem gX6_point_X1_prepare : GoodIn wsX6_point (wsV RX6 138 RX1 yX1_prepare wsX1_prepare) := goodIn_app (goodIn_of _ (by decide +kernel)) ggX6_point_X1_prepare
set_option maxRecDepth 20000 in
theorem ggX6_point_X4_addPoint_p0 : GoodIn wsX6_point [.code yX4_addPoint cX4_addPoint 5 (some .boolean)] := goodIn_r _ [72] (by decide +kernel) (by decide +kernel)
theorem ggX6_point_X4_addPoint_p1 : GoodIn wsX6_point wsX4_addPoint_r1 := goodIn_r _ [54, 36, 9, 10, 11, 73, 74, 75, 27, 76, 39, 77, 78, 79, 80, 81, 35, 82, 45, 83, 84, 85, 86, 44] (by decide +kernel) (by decide +kernel)
theorem ggX6_point_X4_addPoint_p2 : GoodIn wsX6_point wsX4_addPoint_r2 := goodIn_r _ [87, 88, 89, 90, 91, 92, 93, 94, 46, 95, 96, 97, 98, 47, 99, 100, 101, 102, 103, 104, 105, 106, 63, 107] (by decide +kernel) (by decide +kernel)
theorem ggX6_point_X4_addPoint_p3 : GoodIn wsX6_point wsX4_addPoint_r3 := goodIn_r _ [108, 109, 110, 111, 112, 113, 114, 115, 116, 117, 118, 119, 120, 121, 122, 123, 124, 48, 125, 126, 127, 128] (by decide +kernel) (by decide +kernel)
theorem ggX6_point_X4_addPoint_p4 : GoodIn wsX6_point wsX40 := goodIn_r _ [142, 143, 144, 145, 146, 147] (by decide +kernel) (by decide +kernel)
theorem ggX6_point_X4_addPoint_p5 : GoodIn wsX6_point wsX00 := goodIn_r _ [152, 153, 154, 155, 156] (by decide +kernel) (by decide +kernel)
theorem ggX6_point_X4_addPoint : GoodIn wsX6_point wsX4_addPoint := (goodIn_c2 ggX6_point_X4_addPoint_p0 (goodIn_app (goodIn_app (goodIn_app ggX6_point_X4_addPoint_p1 (goodIn_app ggX6_point_X4_addPoint_p2 ggX6_point_X4_addPoint_p3)) ggX6_point_X4_addPoint_p4) ggX6_point_X4_addPoint_p5))
set_option maxRecDepth 20000 in
theorem gX6_point_X4_addPoint : GoodIn wsX6_point (wsV RX6 142 RX4 yX4_addPoint wsX4_addPoint) := goodIn_app (goodIn_of _ (by decide +kernel)) ggX6_point_X4_addPoint
set_option maxRecDepth 20000 in
theorem ggX6_point_X1_commit : GoodIn wsX6_point wsX1_commit := goodIn_r _ [132, 18, 133, 134, 62, 63, 64, 148, 149, 150] (by decide +kernel) (by decide +kernel)
set_option maxRecDepth 20000 in
theorem gX6_point_X1_commit : GoodIn wsX6_point (wsV RX6 148 RX1 yX1_commit wsX1_commit) := goodIn_app (goodIn_of _ (by decide +kernel)) ggX6_point_X1_commit
set_option maxRecDepth 20000 in
theorem ggX6_point_X0_signsOf : GoodIn wsX6_point wsX0_signsOf := goodIn_r _ [98, 47, 77, 10, 78, 152, 153, 154, 155, 156] (by decide +kernel) (by decide +kernel)
set_option maxRecDepth 20000 in
theorem gX6_point_X0_signsOf : GoodIn wsX6_point (wsV RX6 89 RX0 yX0_signsOf wsX0_signsOf) := goodIn_app (goodIn_of _ (by decide +kernel)) ggX6_point_X0_signsOf
theorem dX6_point_0 : decode cX6_point 0 = .ok (.iload_n 1, 1) := by decide +kernel
theorem dX6_point_1 : decode cX6_point 1 = .ok (.invokestatic 133, 3) := by decide +kernel
theorem dX6_point_4 : decode cX6_point 4 = .ok (.ifCond .eq 10, 3) := by decide +kernel
theorem dX6_point_7 : decode cX6_point 7 = .ok (.iload_n 2, 1) := by decide +kernel
theorem dX6_point_8 : decode cX6_point 8 = .ok (.invokestatic 133, 3) := by decide +kernel
theorem dX6_point_11 : decode cX6_point 11 = .ok (.ifCond .ne 13, 3) := by decide +kernel
theorem dX6_point_14 : decode cX6_point 14 = .ok (.new 49, 3) := by decide +kernel
theorem dX6_point_17 : decode cX6_point 17 = .ok (.dup, 1) := by decide +kernel
theorem dX6_point_18 : decode cX6_point 18 = .ok (.ldc 136, 2) := by decide +kernel
theorem dX6_point_20 : decode cX6_point 20 = .ok (.invokespecial 53, 3) := by decide +kernel
theorem dX6_point_23 : decode cX6_point 23 = .ok (.athrow, 1) := by decide +kernel
theorem dX6_point_24 : decode cX6_point 24 = .ok (.aload_n 0, 1) := by decide +kernel
theorem dX6_point_25 : decode cX6_point 25 = .ok (.getfield 36, 3) := by decide +kernel
theorem dX6_point_28 : decode cX6_point 28 = .ok (.aload_n 0, 1) := by decide +kernel
theorem dX6_point_29 : decode cX6_point 29 = .ok (.getfield 12, 3) := by decide +kernel
theorem dX6_point_32 : decode cX6_point 32 = .ok (.invokevirtual 138, 3) := by decide +kernel
theorem dX6_point_35 : decode cX6_point 35 = .ok (.aload_n 0, 1) := by decide +kernel
theorem dX6_point_36 : decode cX6_point 36 = .ok (.getfield 12, 3) := by decide +kernel
theorem dX6_point_39 : decode cX6_point 39 = .ok (.iload_n 1, 1) := by decide +kernel
theorem dX6_point_40 : decode cX6_point 40 = .ok (.iload_n 2, 1) := by decide +kernel
theorem dX6_point_41 : decode cX6_point 41 = .ok (.invokevirtual 142, 3) := by decide +kernel
theorem dX6_point_44 : decode cX6_point 44 = .ok (.ifCond .ne 13, 3) := by decide +kernel
theorem dX6_point_47 : decode cX6_point 47 = .ok (.new 60, 3) := by decide +kernel
theorem dX6_point_50 : decode cX6_point 50 = .ok (.dup, 1) := by decide +kernel
theorem dX6_point_51 : decode cX6_point 51 = .ok (.ldc 146, 2) := by decide +kernel
theorem dX6_point_53 : decode cX6_point 53 = .ok (.invokespecial 64, 3) := by decide +kernel
theorem dX6_point_56 : decode cX6_point 56 = .ok (.athrow, 1) := by decide +kernel
theorem dX6_point_57 : decode cX6_point 57 = .ok (.aload_n 0, 1) := by decide +kernel
theorem dX6_point_58 : decode cX6_point 58 = .ok (.getfield 36, 3) := by decide +kernel
theorem dX6_point_61 : decode cX6_point 61 = .ok (.invokevirtual 148, 3) := by decide +kernel
theorem dX6_point_64 : decode cX6_point 64 = .ok (.aload_n 0, 1) := by decide +kernel
theorem dX6_point_65 : decode cX6_point 65 = .ok (.getfield 12, 3) := by decide +kernel
theorem dX6_point_68 : decode cX6_point 68 = .ok (.getfield 72, 3) := by decide +kernel
theorem dX6_point_71 : decode cX6_point 71 = .ok (.bipush 16, 2) := by decide +kernel
theorem dX6_point_73 : decode cX6_point 73 = .ok (.invokevirtual 89, 3) := by decide +kernel
theorem dX6_point_76 : decode cX6_point 76 = .ok (.ireturn, 1) := by decide +kernel
set_option maxRecDepth 20000 in
theorem ggX6_lift_X1_remember_p0 : GoodIn wsX6_lift [.code yX1_remember cX1_remember 2 none] := goodIn_r _ [8] (by decide +kernel) (by decide +kernel)
theorem ggX6_lift_X1_remember_p1 : GoodIn wsX6_lift wsX1_remember_r1 := goodIn_r _ [9, 10, 11, 7, 12, 13, 14, 15, 16, 17, 18, 19, 20, 21, 22, 23, 24, 25, 26, 27, 28, 29, 30, 31] (by decide +kernel) (by decide +kernel)
theorem ggX6_lift_X1_remember_p2 : GoodIn wsX6_lift wsX1_remember_r2 := goodIn_r _ [32, 33, 34, 35, 36, 37, 38, 39, 40, 41, 42, 43, 44, 45, 46, 47, 48, 49, 50, 51, 52, 53, 54, 55] (by decide +kernel) (by decide +kernel)
theorem ggX6_lift_X1_remember_p3 : GoodIn wsX6_lift wsX1_remember_r3 := goodIn_r _ [56, 57, 58, 59, 60, 61, 62, 63, 64, 65, 66, 67, 68, 69, 70, 71] (by decide +kernel) (by decide +kernel)
theorem ggX6_lift_X1_remember_p4 : GoodIn wsX6_lift wsX10 := goodIn_r _ [94, 95, 96] (by decide +kernel) (by decide +kernel)
theorem ggX6_lift_X1_remember_p5 : GoodIn wsX6_lift wsX30 := goodIn_r _ [97] (by decide +kernel) (by decide +kernel)
theorem ggX6_lift_X1_remember_p6 : GoodIn wsX6_lift wsX40 := goodIn_r _ [88, 89, 90, 91, 92, 93] (by decide +kernel) (by decide +kernel)
theorem ggX6_lift_X1_remember_p7 : GoodIn wsX6_lift wsX00 := goodIn_r _ [98, 99, 100, 101, 102] (by decide +kernel) (by decide +kernel)
theorem ggX6_lift_X1_remember : GoodIn wsX6_lift wsX1_remember := (goodIn_c2 ggX6_lift_X1_remember_p0 (goodIn_app (goodIn_app (goodIn_app (goodIn_app (goodIn_app ggX6_lift_X1_remember_p1 (goodIn_app ggX6_lift_X1_remember_p2 ggX6_lift_X1_remember_p3)) ggX6_lift_X1_remember_p4) ggX6_lift_X1_remember_p5) ggX6_lift_X1_remember_p6) ggX6_lift_X1_remember_p7))
set_option maxRecDepth 20000 in
theorem gX6_lift_X1_remember : GoodIn wsX6_lift (wsV RX6 151 RX1 yX1_remember wsX1_remember) := goodIn_app (goodIn_of _ (by decide +kernel)) ggX6_lift_X1_remember
set_option maxRecDepth 20000 in
theorem ggX6_lift_X4_liftPen : GoodIn wsX6_lift wsX4_liftPen := goodIn_r _ [75, 50, 88, 89, 90, 91, 92, 93] (by decide +kernel) (by decide +kernel)
set_option maxRecDepth 20000 in
theorem gX6_lift_X4_liftPen : GoodIn wsX6_lift (wsV RX6 154 RX4 yX4_liftPen wsX4_liftPen) := goodIn_app (goodIn_of _ (by decide +kernel)) ggX6_lift_X4_liftPen
set_option maxRecDepth 20000 in
theorem ggX6_lift_X0_strokesOf : GoodIn wsX6_lift wsX0_strokesOf := goodIn_r _ [79, 40, 80, 56, 81, 98, 99, 100, 101, 102] (by decide +kernel) (by decide +kernel)
set_option maxRecDepth 20000 in
theorem gX6_lift_X0_strokesOf : GoodIn wsX6_lift (wsV RX6 76 RX0 yX0_strokesOf wsX0_strokesOf) := goodIn_app (goodIn_of _ (by decide +kernel)) ggX6_lift_X0_strokesOf
theorem dX6_lift_0 : decode cX6_lift 0 = .ok (.aload_n 0, 1) := by decide +kernel
theorem dX6_lift_1 : decode cX6_lift 1 = .ok (.getfield 36, 3) := by decide +kernel
theorem dX6_lift_4 : decode cX6_lift 4 = .ok (.aload_n 0, 1) := by decide +kernel
theorem dX6_lift_5 : decode cX6_lift 5 = .ok (.getfield 12, 3) := by decide +kernel
theorem dX6_lift_8 : decode cX6_lift 8 = .ok (.invokevirtual 151, 3) := by decide +kernel
theorem dX6_lift_11 : decode cX6_lift 11 = .ok (.aload_n 0, 1) := by decide +kernel
theorem dX6_lift_12 : decode cX6_lift 12 = .ok (.getfield 12, 3) := by decide +kernel
theorem dX6_lift_15 : decode cX6_lift 15 = .ok (.invokevirtual 154, 3) := by decide +kernel
theorem dX6_lift_18 : decode cX6_lift 18 = .ok (.aload_n 0, 1) := by decide +kernel
theorem dX6_lift_19 : decode cX6_lift 19 = .ok (.getfield 12, 3) := by decide +kernel
theorem dX6_lift_22 : decode cX6_lift 22 = .ok (.getfield 72, 3) := by decide +kernel
theorem dX6_lift_25 : decode cX6_lift 25 = .ok (.bipush 16, 2) := by decide +kernel
theorem dX6_lift_27 : decode cX6_lift 27 = .ok (.invokevirtual 76, 3) := by decide +kernel
theorem dX6_lift_30 : decode cX6_lift 30 = .ok (.ireturn, 1) := by decide +kernel
set_option maxRecDepth 20000 in
theorem ggX6_draw_X5_firstError : GoodIn wsX6_draw wsX5_firstError := goodIn_r _ [12, 13, 14, 15, 16, 17, 18, 19, 11, 20, 178, 179] (by decide +kernel) (by decide +kernel)
set_option maxRecDepth 20000 in
theorem gX6_draw_X5_firstError : GoodIn wsX6_draw (wsV RX6 68 RX5 yX5_firstError wsX5_firstError) := goodIn_app (goodIn_of _ (by decide +kernel)) ggX6_draw_X5_firstError
set_option maxRecDepth 20000 in
theorem ggX6_draw_X4_copyFrom_p0 : GoodIn wsX6_draw [.code yX4_copyFrom cX4_copyFrom 2 none] := goodIn_r _ [25] (by decide +kernel) (by decide +kernel)
theorem ggX6_draw_X4_copyFrom_p1 : GoodIn wsX6_draw wsX4_copyFrom_r1 := goodIn_r _ [26, 27, 28, 29, 30, 31, 32, 33, 34, 35, 36, 37, 38, 39, 40, 41, 42, 16, 43, 44, 45, 46, 47, 48] (by decide +kernel) (by decide +kernel)
theorem ggX6_draw_X4_copyFrom_p2 : GoodIn wsX6_draw wsX4_copyFrom_r2 := goodIn_r _ [49, 50, 51] (by decide +kernel) (by decide +kernel)
theorem ggX6_draw_X4_copyFrom_p3 : GoodIn wsX6_draw wsX40 := goodIn_r _ [172, 173, 174, 175, 176, 177] (by decide +kernel) (by decide +kernel)
theorem ggX6_draw_X4_copyFrom_p4 : GoodIn wsX6_draw wsX00 := goodIn_r _ [180, 181, 182, 183, 184] (by decide +kernel) (by decide +kernel)
theorem ggX6_draw_X4_copyFrom : GoodIn wsX6_draw wsX4_copyFrom := (goodIn_c2 ggX6_draw_X4_copyFrom_p0 (goodIn_app (goodIn_app (goodIn_app ggX6_draw_X4_copyFrom_p1 ggX6_draw_X4_copyFrom_p2) ggX6_draw_X4_copyFrom_p3) ggX6_draw_X4_copyFrom_p4))
set_option maxRecDepth 20000 in
theorem gX6_draw_X4_copyFrom : GoodIn wsX6_draw (wsV RX6 159 RX4 yX4_copyFrom wsX4_copyFrom) := goodIn_app (goodIn_of _ (by decide +kernel)) ggX6_draw_X4_copyFrom
set_option maxRecDepth 20000 in
theorem ggX6_draw_X4_clearHand : GoodIn wsX6_draw wsX4_clearHand := goodIn_r _ [55, 26, 31, 56, 57, 58, 35, 59, 37, 40, 60, 16, 61, 172, 173, 174, 175, 176, 177, 180, 181, 182, 183, 184] (by decide +kernel) (by decide +kernel)
set_option maxRecDepth 20000 in
theorem gX6_draw_X4_clearHand : GoodIn wsX6_draw (wsV RX6 162 RX4 yX4_clearHand wsX4_clearHand) := goodIn_app (goodIn_of _ (by decide +kernel)) ggX6_draw_X4_clearHand
set_option maxRecDepth 20000 in
theorem ggX6_draw_X5_drawOn_p0 : GoodIn wsX6_draw [.code yX5_drawOn cX5_drawOn 6 (some .boolean)] := goodIn_r _ [65] (by decide +kernel) (by decide +kernel)
theorem ggX6_draw_X5_drawOn_p1 : GoodIn wsX6_draw wsX5_drawOn_r1 := goodIn_r _ [13, 14, 15, 16, 17, 66, 67, 68, 24, 69, 31, 26, 70, 71, 72, 73, 74, 75, 28, 76, 77, 78, 35, 79] (by decide +kernel) (by decide +kernel)
theorem ggX6_draw_X5_drawOn_p2 : GoodIn wsX6_draw wsX5_drawOn_r2 := goodIn_r _ [38, 80, 81, 82, 83, 37, 84, 85, 86, 87, 88, 89, 90, 91, 39, 92, 93, 94, 95, 40, 96, 97, 98, 99] (by decide +kernel) (by decide +kernel)
theorem ggX6_draw_X5_drawOn_p3 : GoodIn wsX6_draw wsX5_drawOn_r3 := goodIn_r _ [100, 101, 102, 103, 46, 104, 60, 61, 105, 106, 107, 108, 109, 110, 111, 112, 113, 114, 115, 116, 117, 118, 119, 41] (by decide +kernel) (by decide +kernel)
theorem ggX6_draw_X5_drawOn_p4 : GoodIn wsX6_draw wsX5_drawOn_r4 := goodIn_r _ [120, 121, 122, 123, 124, 125, 126, 127] (by decide +kernel) (by decide +kernel)
theorem ggX6_draw_X5_drawOn_p5 : GoodIn wsX6_draw wsX50 := goodIn_r _ [178, 179] (by decide +kernel) (by decide +kernel)
theorem ggX6_draw_X5_drawOn_p6 : GoodIn wsX6_draw wsX40 := goodIn_r _ [172, 173, 174, 175, 176, 177] (by decide +kernel) (by decide +kernel)
theorem ggX6_draw_X5_drawOn_p7 : GoodIn wsX6_draw wsX00 := goodIn_r _ [180, 181, 182, 183, 184] (by decide +kernel) (by decide +kernel)
theorem ggX6_draw_X5_drawOn : GoodIn wsX6_draw wsX5_drawOn := (goodIn_c2 ggX6_draw_X5_drawOn_p0 (goodIn_app (goodIn_app (goodIn_app (goodIn_app ggX6_draw_X5_drawOn_p1 (goodIn_app ggX6_draw_X5_drawOn_p2 (goodIn_app ggX6_draw_X5_drawOn_p3 ggX6_draw_X5_drawOn_p4))) ggX6_draw_X5_drawOn_p5) ggX6_draw_X5_drawOn_p6) ggX6_draw_X5_drawOn_p7))
set_option maxRecDepth 20000 in
theorem gX6_draw_X5_drawOn : GoodIn wsX6_draw (wsV RX6 165 RX5 yX5_drawOn wsX5_drawOn) := goodIn_app (goodIn_of _ (by decide +kernel)) ggX6_draw_X5_drawOn
set_option maxRecDepth 20000 in
theorem ggX6_draw_X1_remember_p0 : GoodIn wsX6_draw [.code yX1_remember cX1_remember 2 none] := goodIn_r _ [132] (by decide +kernel) (by decide +kernel)
theorem ggX6_draw_X1_remember_p1 : GoodIn wsX6_draw wsX1_remember_r1 := goodIn_r _ [133, 134, 135, 131, 136, 137, 138, 139, 140, 141, 142, 143, 144, 145, 146, 24, 147, 148, 149, 150, 151, 152, 153, 35] (by decide +kernel) (by decide +kernel)
theorem ggX6_draw_X1_remember_p2 : GoodIn wsX6_draw wsX1_remember_r2 := goodIn_r _ [26, 154, 27, 28, 29, 155, 156, 157, 37, 38, 39, 40, 41, 158, 22, 23, 25, 30, 31, 32, 33, 34, 36, 42] (by decide +kernel) (by decide +kernel)
theorem ggX6_draw_X1_remember_p3 : GoodIn wsX6_draw wsX1_remember_r3 := goodIn_r _ [16, 43, 44, 45, 46, 47, 48, 49, 50, 51, 159, 160, 161, 162, 163, 164] (by decide +kernel) (by decide +kernel)
theorem ggX6_draw_X1_remember_p4 : GoodIn wsX6_draw wsX10 := goodIn_r _ [185, 186, 187] (by decide +kernel) (by decide +kernel)
theorem ggX6_draw_X1_remember_p5 : GoodIn wsX6_draw wsX30 := goodIn_r _ [188] (by decide +kernel) (by decide +kernel)
theorem ggX6_draw_X1_remember_p6 : GoodIn wsX6_draw wsX40 := goodIn_r _ [172, 173, 174, 175, 176, 177] (by decide +kernel) (by decide +kernel)
theorem ggX6_draw_X1_remember_p7 : GoodIn wsX6_draw wsX00 := goodIn_r _ [180, 181, 182, 183, 184] (by decide +kernel) (by decide +kernel)
theorem ggX6_draw_X1_remember : GoodIn wsX6_draw wsX1_remember := (goodIn_c2 ggX6_draw_X1_remember_p0 (goodIn_app (goodIn_app (goodIn_app (goodIn_app (goodIn_app ggX6_draw_X1_remember_p1 (goodIn_app ggX6_draw_X1_remember_p2 ggX6_draw_X1_remember_p3)) ggX6_draw_X1_remember_p4) ggX6_draw_X1_remember_p5) ggX6_draw_X1_remember_p6) ggX6_draw_X1_remember_p7))
set_option maxRecDepth 20000 in
theorem gX6_draw_X1_remember : GoodIn wsX6_draw (wsV RX6 151 RX1 yX1_remember wsX1_remember) := goodIn_app (goodIn_of _ (by decide +kernel)) ggX6_draw_X1_remember
set_option maxRecDepth 20000 in
theorem ggX6_draw_X0_signsOf : GoodIn wsX6_draw wsX0_signsOf := goodIn_r _ [95, 40, 15, 16, 17, 180, 181, 182, 183, 184] (by decide +kernel) (by decide +kernel)
set_option maxRecDepth 20000 in
theorem gX6_draw_X0_signsOf : GoodIn wsX6_draw (wsV RX6 89 RX0 yX0_signsOf wsX0_signsOf) := goodIn_app (goodIn_of _ (by decide +kernel)) ggX6_draw_X0_signsOf
theorem dX6_draw_0 : decode cX6_draw 0 = .ok (.aload_n 0, 1) := by decide +kernel
theorem dX6_draw_1 : decode cX6_draw 1 = .ok (.getfield 29, 3) := by decide +kernel
theorem dX6_draw_4 : decode cX6_draw 4 = .ok (.invokevirtual 68, 3) := by decide +kernel
theorem dX6_draw_7 : decode cX6_draw 7 = .ok (.iconst (-1), 1) := by decide +kernel
theorem dX6_draw_8 : decode cX6_draw 8 = .ok (.if_icmp .eq 13, 3) := by decide +kernel
theorem dX6_draw_11 : decode cX6_draw 11 = .ok (.new 60, 3) := by decide +kernel
theorem dX6_draw_14 : decode cX6_draw 14 = .ok (.dup, 1) := by decide +kernel
theorem dX6_draw_15 : decode cX6_draw 15 = .ok (.ldc 157, 2) := by decide +kernel
theorem dX6_draw_17 : decode cX6_draw 17 = .ok (.invokespecial 64, 3) := by decide +kernel
theorem dX6_draw_20 : decode cX6_draw 20 = .ok (.athrow, 1) := by decide +kernel
theorem dX6_draw_21 : decode cX6_draw 21 = .ok (.aload_n 0, 1) := by decide +kernel
theorem dX6_draw_22 : decode cX6_draw 22 = .ok (.getfield 16, 3) := by decide +kernel
theorem dX6_draw_25 : decode cX6_draw 25 = .ok (.aload_n 0, 1) := by decide +kernel
theorem dX6_draw_26 : decode cX6_draw 26 = .ok (.getfield 12, 3) := by decide +kernel
theorem dX6_draw_29 : decode cX6_draw 29 = .ok (.invokevirtual 159, 3) := by decide +kernel
theorem dX6_draw_32 : decode cX6_draw 32 = .ok (.aload_n 0, 1) := by decide +kernel
theorem dX6_draw_33 : decode cX6_draw 33 = .ok (.getfield 16, 3) := by decide +kernel
theorem dX6_draw_36 : decode cX6_draw 36 = .ok (.invokevirtual 162, 3) := by decide +kernel
theorem dX6_draw_39 : decode cX6_draw 39 = .ok (.aload_n 0, 1) := by decide +kernel
theorem dX6_draw_40 : decode cX6_draw 40 = .ok (.getfield 29, 3) := by decide +kernel
theorem dX6_draw_43 : decode cX6_draw 43 = .ok (.aload_n 0, 1) := by decide +kernel
theorem dX6_draw_44 : decode cX6_draw 44 = .ok (.getfield 16, 3) := by decide +kernel
theorem dX6_draw_47 : decode cX6_draw 47 = .ok (.invokevirtual 165, 3) := by decide +kernel
theorem dX6_draw_50 : decode cX6_draw 50 = .ok (.ifCond .ne 13, 3) := by decide +kernel
theorem dX6_draw_53 : decode cX6_draw 53 = .ok (.new 60, 3) := by decide +kernel
theorem dX6_draw_56 : decode cX6_draw 56 = .ok (.dup, 1) := by decide +kernel
theorem dX6_draw_57 : decode cX6_draw 57 = .ok (.ldc 169, 2) := by decide +kernel
theorem dX6_draw_59 : decode cX6_draw 59 = .ok (.invokespecial 64, 3) := by decide +kernel
theorem dX6_draw_62 : decode cX6_draw 62 = .ok (.athrow, 1) := by decide +kernel
theorem dX6_draw_63 : decode cX6_draw 63 = .ok (.aload_n 0, 1) := by decide +kernel
theorem dX6_draw_64 : decode cX6_draw 64 = .ok (.getfield 36, 3) := by decide +kernel
theorem dX6_draw_67 : decode cX6_draw 67 = .ok (.aload_n 0, 1) := by decide +kernel
theorem dX6_draw_68 : decode cX6_draw 68 = .ok (.getfield 12, 3) := by decide +kernel
theorem dX6_draw_71 : decode cX6_draw 71 = .ok (.invokevirtual 151, 3) := by decide +kernel
theorem dX6_draw_74 : decode cX6_draw 74 = .ok (.aload_n 0, 1) := by decide +kernel
theorem dX6_draw_75 : decode cX6_draw 75 = .ok (.getfield 12, 3) := by decide +kernel
theorem dX6_draw_78 : decode cX6_draw 78 = .ok (.aload_n 0, 1) := by decide +kernel
theorem dX6_draw_79 : decode cX6_draw 79 = .ok (.getfield 16, 3) := by decide +kernel
theorem dX6_draw_82 : decode cX6_draw 82 = .ok (.invokevirtual 159, 3) := by decide +kernel
theorem dX6_draw_85 : decode cX6_draw 85 = .ok (.aload_n 0, 1) := by decide +kernel
theorem dX6_draw_86 : decode cX6_draw 86 = .ok (.getfield 12, 3) := by decide +kernel
theorem dX6_draw_89 : decode cX6_draw 89 = .ok (.getfield 72, 3) := by decide +kernel
theorem dX6_draw_92 : decode cX6_draw 92 = .ok (.bipush 16, 2) := by decide +kernel
theorem dX6_draw_94 : decode cX6_draw 94 = .ok (.invokevirtual 89, 3) := by decide +kernel
theorem dX6_draw_97 : decode cX6_draw 97 = .ok (.ireturn, 1) := by decide +kernel
set_option maxRecDepth 20000 in
theorem ggX6_learn_X6_isName : GoodIn wsX6_learn wsX6_isName := goodIn_r _ [11] (by decide +kernel) (by decide +kernel)
set_option maxRecDepth 20000 in
theorem gX6_learn_X6_isName : GoodIn wsX6_learn (va_wsS RX6 120 yX6_isName wsX6_isName) := goodIn_app (goodIn_of _ (by decide +kernel)) ggX6_learn_X6_isName
set_option maxRecDepth 20000 in
theorem ggX6_learn_X1_prepare_p0 : GoodIn wsX6_learn [.code yX1_prepare cX1_prepare 2 none] := goodIn_r _ [16] (by decide +kernel) (by decide +kernel)
theorem ggX6_learn_X1_prepare_p1 : GoodIn wsX6_learn wsX1_prepare_r1 := goodIn_r _ [17, 18, 19, 20, 21, 22, 23, 24, 25, 26, 27, 28, 29, 30, 31, 32, 33, 34, 35, 36, 37, 38, 39, 40] (by decide +kernel) (by decide +kernel)
theorem ggX6_learn_X1_prepare_p2 : GoodIn wsX6_learn wsX1_prepare_r2 := goodIn_r _ [41, 42, 43, 44, 45, 46, 47, 48, 49, 50, 51, 52, 53, 54, 55, 56, 57, 58, 59, 10, 60, 61, 62, 63] (by decide +kernel) (by decide +kernel)
theorem ggX6_learn_X1_prepare_p3 : GoodIn wsX6_learn wsX1_prepare_r3 := goodIn_r _ [64, 65, 66, 67, 68] (by decide +kernel) (by decide +kernel)
theorem ggX6_learn_X1_prepare_p4 : GoodIn wsX6_learn wsX10 := goodIn_r _ [133, 134, 135] (by decide +kernel) (by decide +kernel)
theorem ggX6_learn_X1_prepare_p5 : GoodIn wsX6_learn wsX30 := goodIn_r _ [136] (by decide +kernel) (by decide +kernel)
theorem ggX6_learn_X1_prepare_p6 : GoodIn wsX6_learn wsX40 := goodIn_r _ [127, 128, 129, 130, 131, 132] (by decide +kernel) (by decide +kernel)
theorem ggX6_learn_X1_prepare_p7 : GoodIn wsX6_learn wsX00 := goodIn_r _ [137, 138, 139, 140, 141] (by decide +kernel) (by decide +kernel)
theorem ggX6_learn_X1_prepare : GoodIn wsX6_learn wsX1_prepare := (goodIn_c2 ggX6_learn_X1_prepare_p0 (goodIn_app (goodIn_app (goodIn_app (goodIn_app (goodIn_app ggX6_learn_X1_prepare_p1 (goodIn_app ggX6_learn_X1_prepare_p2 ggX6_learn_X1_prepare_p3)) ggX6_learn_X1_prepare_p4) ggX6_learn_X1_prepare_p5) ggX6_learn_X1_prepare_p6) ggX6_learn_X1_prepare_p7))
set_option maxRecDepth 20000 in
theorem gX6_learn_X1_prepare : GoodIn wsX6_learn (wsV RX6 138 RX1 yX1_prepare wsX1_prepare) := goodIn_app (goodIn_of _ (by decide +kernel)) ggX6_learn_X1_prepare
set_option maxRecDepth 20000 in
theorem ggX6_learn_X4_keepHand_p0 : GoodIn wsX6_learn [.code yX4_keepHand cX4_keepHand 2 (some .boolean)] := goodIn_r _ [72] (by decide +kernel) (by decide +kernel)
theorem ggX6_learn_X4_keepHand_p1 : GoodIn wsX6_learn wsX4_keepHand_r1 := goodIn_r _ [36, 53, 38, 73, 74, 75, 35, 76, 44, 77, 10, 78, 79, 80, 81, 27, 82, 83, 84, 85, 86, 87, 88, 89] (by decide +kernel) (by decide +kernel)
theorem ggX6_learn_X4_keepHand_p2 : GoodIn wsX6_learn wsX4_keepHand_r2 := goodIn_r _ [90, 91, 92, 93, 94, 47, 95, 96, 97, 98, 48, 99, 100, 101, 102, 45, 46, 103, 104, 65, 66, 67, 68, 105] (by decide +kernel) (by decide +kernel)
theorem ggX6_learn_X4_keepHand_p3 : GoodIn wsX6_learn wsX4_keepHand_r3 := goodIn_r _ [106, 107, 108, 109, 110, 54, 111, 112, 113, 114] (by decide +kernel) (by decide +kernel)
theorem ggX6_learn_X4_keepHand_p4 : GoodIn wsX6_learn wsX40 := goodIn_r _ [127, 128, 129, 130, 131, 132] (by decide +kernel) (by decide +kernel)
theorem ggX6_learn_X4_keepHand_p5 : GoodIn wsX6_learn wsX00 := goodIn_r _ [137, 138, 139, 140, 141] (by decide +kernel) (by decide +kernel)
theorem ggX6_learn_X4_keepHand : GoodIn wsX6_learn wsX4_keepHand := (goodIn_c2 ggX6_learn_X4_keepHand_p0 (goodIn_app (goodIn_app (goodIn_app ggX6_learn_X4_keepHand_p1 (goodIn_app ggX6_learn_X4_keepHand_p2 ggX6_learn_X4_keepHand_p3)) ggX6_learn_X4_keepHand_p4) ggX6_learn_X4_keepHand_p5))
set_option maxRecDepth 20000 in
theorem gX6_learn_X4_keepHand : GoodIn wsX6_learn (wsV RX6 171 RX4 yX4_keepHand wsX4_keepHand) := goodIn_app (goodIn_of _ (by decide +kernel)) ggX6_learn_X4_keepHand
set_option maxRecDepth 20000 in
theorem ggX6_learn_X1_commit : GoodIn wsX6_learn wsX1_commit := goodIn_r _ [118, 18, 119, 120, 62, 63, 64, 133, 134, 135] (by decide +kernel) (by decide +kernel)
set_option maxRecDepth 20000 in
theorem gX6_learn_X1_commit : GoodIn wsX6_learn (wsV RX6 148 RX1 yX1_commit wsX1_commit) := goodIn_app (goodIn_of _ (by decide +kernel)) ggX6_learn_X1_commit
theorem dX6_learn_0 : decode cX6_learn 0 = .ok (.iload_n 1, 1) := by decide +kernel
theorem dX6_learn_1 : decode cX6_learn 1 = .ok (.invokestatic 120, 3) := by decide +kernel
theorem dX6_learn_4 : decode cX6_learn 4 = .ok (.ifCond .ne 13, 3) := by decide +kernel
theorem dX6_learn_7 : decode cX6_learn 7 = .ok (.new 49, 3) := by decide +kernel
theorem dX6_learn_10 : decode cX6_learn 10 = .ok (.dup, 1) := by decide +kernel
theorem dX6_learn_11 : decode cX6_learn 11 = .ok (.ldc 123, 2) := by decide +kernel
theorem dX6_learn_13 : decode cX6_learn 13 = .ok (.invokespecial 53, 3) := by decide +kernel
theorem dX6_learn_16 : decode cX6_learn 16 = .ok (.athrow, 1) := by decide +kernel
theorem dX6_learn_17 : decode cX6_learn 17 = .ok (.aload_n 0, 1) := by decide +kernel
theorem dX6_learn_18 : decode cX6_learn 18 = .ok (.getfield 36, 3) := by decide +kernel
theorem dX6_learn_21 : decode cX6_learn 21 = .ok (.aload_n 0, 1) := by decide +kernel
theorem dX6_learn_22 : decode cX6_learn 22 = .ok (.getfield 12, 3) := by decide +kernel
theorem dX6_learn_25 : decode cX6_learn 25 = .ok (.invokevirtual 138, 3) := by decide +kernel
theorem dX6_learn_28 : decode cX6_learn 28 = .ok (.aload_n 0, 1) := by decide +kernel
theorem dX6_learn_29 : decode cX6_learn 29 = .ok (.getfield 12, 3) := by decide +kernel
theorem dX6_learn_32 : decode cX6_learn 32 = .ok (.iload_n 1, 1) := by decide +kernel
theorem dX6_learn_33 : decode cX6_learn 33 = .ok (.invokevirtual 171, 3) := by decide +kernel
theorem dX6_learn_36 : decode cX6_learn 36 = .ok (.ifCond .ne 13, 3) := by decide +kernel
theorem dX6_learn_39 : decode cX6_learn 39 = .ok (.new 60, 3) := by decide +kernel
theorem dX6_learn_42 : decode cX6_learn 42 = .ok (.dup, 1) := by decide +kernel
theorem dX6_learn_43 : decode cX6_learn 43 = .ok (.ldc 174, 2) := by decide +kernel
theorem dX6_learn_45 : decode cX6_learn 45 = .ok (.invokespecial 64, 3) := by decide +kernel
theorem dX6_learn_48 : decode cX6_learn 48 = .ok (.athrow, 1) := by decide +kernel
theorem dX6_learn_49 : decode cX6_learn 49 = .ok (.aload_n 0, 1) := by decide +kernel
theorem dX6_learn_50 : decode cX6_learn 50 = .ok (.getfield 36, 3) := by decide +kernel
theorem dX6_learn_53 : decode cX6_learn 53 = .ok (.invokevirtual 148, 3) := by decide +kernel
theorem dX6_learn_56 : decode cX6_learn 56 = .ok (.aload_n 0, 1) := by decide +kernel
theorem dX6_learn_57 : decode cX6_learn 57 = .ok (.getfield 12, 3) := by decide +kernel
theorem dX6_learn_60 : decode cX6_learn 60 = .ok (.getfield 92, 3) := by decide +kernel
theorem dX6_learn_63 : decode cX6_learn 63 = .ok (.iconst 1, 1) := by decide +kernel
theorem dX6_learn_64 : decode cX6_learn 64 = .ok (.isub, 1) := by decide +kernel
theorem dX6_learn_65 : decode cX6_learn 65 = .ok (.ireturn, 1) := by decide +kernel
set_option maxRecDepth 20000 in
theorem ggX6_forget_X1_prepare_p0 : GoodIn wsX6_forget [.code yX1_prepare cX1_prepare 2 none] := goodIn_r _ [10] (by decide +kernel) (by decide +kernel)
theorem ggX6_forget_X1_prepare_p1 : GoodIn wsX6_forget wsX1_prepare_r1 := goodIn_r _ [11, 12, 13, 14, 15, 16, 17, 18, 19, 20, 21, 22, 23, 24, 25, 26, 27, 28, 29, 30, 31, 32, 33, 34] (by decide +kernel) (by decide +kernel)
theorem ggX6_forget_X1_prepare_p2 : GoodIn wsX6_forget wsX1_prepare_r2 := goodIn_r _ [35, 36, 37, 38, 39, 40, 41, 42, 43, 44, 45, 46, 47, 48, 49, 50, 51, 52, 53, 54, 55, 56, 57, 58] (by decide +kernel) (by decide +kernel)
theorem ggX6_forget_X1_prepare_p3 : GoodIn wsX6_forget wsX1_prepare_r3 := goodIn_r _ [59, 60, 61, 62, 63] (by decide +kernel) (by decide +kernel)
theorem ggX6_forget_X1_prepare_p4 : GoodIn wsX6_forget wsX10 := goodIn_r _ [104, 105, 106] (by decide +kernel) (by decide +kernel)
theorem ggX6_forget_X1_prepare_p5 : GoodIn wsX6_forget wsX30 := goodIn_r _ [107] (by decide +kernel) (by decide +kernel)
theorem ggX6_forget_X1_prepare_p6 : GoodIn wsX6_forget wsX40 := goodIn_r _ [98, 99, 100, 101, 102, 103] (by decide +kernel) (by decide +kernel)
theorem ggX6_forget_X1_prepare_p7 : GoodIn wsX6_forget wsX00 := goodIn_r _ [108, 109, 110, 111, 112] (by decide +kernel) (by decide +kernel)
theorem ggX6_forget_X1_prepare : GoodIn wsX6_forget wsX1_prepare := (goodIn_c2 ggX6_forget_X1_prepare_p0 (goodIn_app (goodIn_app (goodIn_app (goodIn_app (goodIn_app ggX6_forget_X1_prepare_p1 (goodIn_app ggX6_forget_X1_prepare_p2 ggX6_forget_X1_prepare_p3)) ggX6_forget_X1_prepare_p4) ggX6_forget_X1_prepare_p5) ggX6_forget_X1_prepare_p6) ggX6_forget_X1_prepare_p7))
set_option maxRecDepth 20000 in
theorem gX6_forget_X1_prepare : GoodIn wsX6_forget (wsV RX6 138 RX1 yX1_prepare wsX1_prepare) := goodIn_app (goodIn_of _ (by decide +kernel)) ggX6_forget_X1_prepare
set_option maxRecDepth 20000 in
theorem ggX6_forget_X4_dropSample_p0 : GoodIn wsX6_forget [.code yX4_dropSample cX4_dropSample 3 (some .boolean)] := goodIn_r _ [67] (by decide +kernel) (by decide +kernel)
theorem ggX6_forget_X4_dropSample_p1 : GoodIn wsX6_forget wsX4_dropSample_r1 := goodIn_r _ [47, 30, 32, 68, 69, 70, 21, 71, 72, 73, 74, 29, 75, 38, 39, 40, 41, 42, 76, 54, 77, 60, 61, 62] (by decide +kernel) (by decide +kernel)
theorem ggX6_forget_X4_dropSample_p2 : GoodIn wsX6_forget wsX4_dropSample_r2 := goodIn_r _ [63, 78, 79, 80, 81, 82, 83, 84, 85] (by decide +kernel) (by decide +kernel)
theorem ggX6_forget_X4_dropSample_p3 : GoodIn wsX6_forget wsX40 := goodIn_r _ [98, 99, 100, 101, 102, 103] (by decide +kernel) (by decide +kernel)
theorem ggX6_forget_X4_dropSample_p4 : GoodIn wsX6_forget wsX00 := goodIn_r _ [108, 109, 110, 111, 112] (by decide +kernel) (by decide +kernel)
theorem ggX6_forget_X4_dropSample : GoodIn wsX6_forget wsX4_dropSample := (goodIn_c2 ggX6_forget_X4_dropSample_p0 (goodIn_app (goodIn_app (goodIn_app ggX6_forget_X4_dropSample_p1 ggX6_forget_X4_dropSample_p2) ggX6_forget_X4_dropSample_p3) ggX6_forget_X4_dropSample_p4))
set_option maxRecDepth 20000 in
theorem gX6_forget_X4_dropSample : GoodIn wsX6_forget (wsV RX6 176 RX4 yX4_dropSample wsX4_dropSample) := goodIn_app (goodIn_of _ (by decide +kernel)) ggX6_forget_X4_dropSample
set_option maxRecDepth 20000 in
theorem ggX6_forget_X1_commit : GoodIn wsX6_forget wsX1_commit := goodIn_r _ [89, 12, 90, 91, 57, 58, 59, 104, 105, 106] (by decide +kernel) (by decide +kernel)
set_option maxRecDepth 20000 in
theorem gX6_forget_X1_commit : GoodIn wsX6_forget (wsV RX6 148 RX1 yX1_commit wsX1_commit) := goodIn_app (goodIn_of _ (by decide +kernel)) ggX6_forget_X1_commit
theorem dX6_forget_0 : decode cX6_forget 0 = .ok (.aload_n 0, 1) := by decide +kernel
theorem dX6_forget_1 : decode cX6_forget 1 = .ok (.getfield 36, 3) := by decide +kernel
theorem dX6_forget_4 : decode cX6_forget 4 = .ok (.aload_n 0, 1) := by decide +kernel
theorem dX6_forget_5 : decode cX6_forget 5 = .ok (.getfield 12, 3) := by decide +kernel
theorem dX6_forget_8 : decode cX6_forget 8 = .ok (.invokevirtual 138, 3) := by decide +kernel
theorem dX6_forget_11 : decode cX6_forget 11 = .ok (.aload_n 0, 1) := by decide +kernel
theorem dX6_forget_12 : decode cX6_forget 12 = .ok (.getfield 12, 3) := by decide +kernel
theorem dX6_forget_15 : decode cX6_forget 15 = .ok (.iload_n 1, 1) := by decide +kernel
theorem dX6_forget_16 : decode cX6_forget 16 = .ok (.invokevirtual 176, 3) := by decide +kernel
theorem dX6_forget_19 : decode cX6_forget 19 = .ok (.ifCond .ne 13, 3) := by decide +kernel
theorem dX6_forget_22 : decode cX6_forget 22 = .ok (.new 110, 3) := by decide +kernel
theorem dX6_forget_25 : decode cX6_forget 25 = .ok (.dup, 1) := by decide +kernel
theorem dX6_forget_26 : decode cX6_forget 26 = .ok (.ldc 112, 2) := by decide +kernel
theorem dX6_forget_28 : decode cX6_forget 28 = .ok (.invokespecial 114, 3) := by decide +kernel
theorem dX6_forget_31 : decode cX6_forget 31 = .ok (.athrow, 1) := by decide +kernel
theorem dX6_forget_32 : decode cX6_forget 32 = .ok (.aload_n 0, 1) := by decide +kernel
theorem dX6_forget_33 : decode cX6_forget 33 = .ok (.getfield 36, 3) := by decide +kernel
theorem dX6_forget_36 : decode cX6_forget 36 = .ok (.invokevirtual 148, 3) := by decide +kernel
theorem dX6_forget_39 : decode cX6_forget 39 = .ok (.aload_n 0, 1) := by decide +kernel
theorem dX6_forget_40 : decode cX6_forget 40 = .ok (.getfield 12, 3) := by decide +kernel
theorem dX6_forget_43 : decode cX6_forget 43 = .ok (.getfield 92, 3) := by decide +kernel
theorem dX6_forget_46 : decode cX6_forget 46 = .ok (.ireturn, 1) := by decide +kernel
set_option maxRecDepth 20000 in
theorem ggX6_practise_X6_isName : GoodIn wsX6_practise wsX6_isName := goodIn_r _ [10] (by decide +kernel) (by decide +kernel)
set_option maxRecDepth 20000 in
theorem gX6_practise_X6_isName : GoodIn wsX6_practise (va_wsS RX6 120 yX6_isName wsX6_isName) := goodIn_app (goodIn_of _ (by decide +kernel)) ggX6_practise_X6_isName
set_option maxRecDepth 20000 in
theorem ggX6_practise_X1_prepare_p0 : GoodIn wsX6_practise [.code yX1_prepare cX1_prepare 2 none] := goodIn_r _ [15] (by decide +kernel) (by decide +kernel)
theorem ggX6_practise_X1_prepare_p1 : GoodIn wsX6_practise wsX1_prepare_r1 := goodIn_r _ [16, 17, 18, 19, 20, 21, 22, 23, 24, 25, 26, 27, 28, 29, 30, 31, 32, 33, 34, 35, 36, 37, 38, 39] (by decide +kernel) (by decide +kernel)
theorem ggX6_practise_X1_prepare_p2 : GoodIn wsX6_practise wsX1_prepare_r2 := goodIn_r _ [40, 41, 42, 43, 44, 45, 46, 47, 48, 49, 50, 51, 52, 53, 54, 55, 56, 57, 58, 9, 59, 60, 61, 62] (by decide +kernel) (by decide +kernel)
theorem ggX6_practise_X1_prepare_p3 : GoodIn wsX6_practise wsX1_prepare_r3 := goodIn_r _ [63, 64, 65, 66, 67] (by decide +kernel) (by decide +kernel)
theorem ggX6_practise_X1_prepare_p4 : GoodIn wsX6_practise wsX10 := goodIn_r _ [159, 160, 161] (by decide +kernel) (by decide +kernel)
theorem ggX6_practise_X1_prepare_p5 : GoodIn wsX6_practise wsX30 := goodIn_r _ [162] (by decide +kernel) (by decide +kernel)
theorem ggX6_practise_X1_prepare_p6 : GoodIn wsX6_practise wsX40 := goodIn_r _ [163, 164, 165, 166, 167, 168] (by decide +kernel) (by decide +kernel)
theorem ggX6_practise_X1_prepare_p7 : GoodIn wsX6_practise wsX00 := goodIn_r _ [169, 170, 171, 172, 173] (by decide +kernel) (by decide +kernel)
theorem ggX6_practise_X1_prepare : GoodIn wsX6_practise wsX1_prepare := (goodIn_c2 ggX6_practise_X1_prepare_p0 (goodIn_app (goodIn_app (goodIn_app (goodIn_app (goodIn_app ggX6_practise_X1_prepare_p1 (goodIn_app ggX6_practise_X1_prepare_p2 ggX6_practise_X1_prepare_p3)) ggX6_practise_X1_prepare_p4) ggX6_practise_X1_prepare_p5) ggX6_practise_X1_prepare_p6) ggX6_practise_X1_prepare_p7))
set_option maxRecDepth 20000 in
theorem gX6_practise_X1_prepare : GoodIn wsX6_practise (wsV RX6 138 RX1 yX1_prepare wsX1_prepare) := goodIn_app (goodIn_of _ (by decide +kernel)) ggX6_practise_X1_prepare
set_option maxRecDepth 20000 in
theorem ggX6_practise_X6_practiseOn_p0 : GoodIn wsX6_practise [.code yX6_practiseOn cX6_practiseOn 4 (some .int)] := goodIn_r _ [71] (by decide +kernel) (by decide +kernel)
theorem ggX6_practise_X6_practiseOn_p1 : GoodIn wsX6_practise wsX6_practiseOn_r1 := goodIn_r _ [72, 73, 74, 75, 76, 77, 78, 34, 79, 43, 80, 9, 81, 82, 83, 84, 85, 86, 87, 88, 89, 90, 91, 92] (by decide +kernel) (by decide +kernel)
theorem ggX6_practise_X6_practiseOn_p2 : GoodIn wsX6_practise wsX6_practiseOn_r2 := goodIn_r _ [93, 94, 95, 96, 97, 98, 99, 61, 62, 63, 100, 101, 102, 103, 46, 104, 105, 106, 107, 108, 109, 47, 110, 111] (by decide +kernel) (by decide +kernel)
theorem ggX6_practise_X6_practiseOn_p3 : GoodIn wsX6_practise wsX6_practiseOn_r3 := goodIn_r _ [112, 113, 114, 115, 116, 117, 118, 119, 120, 121, 26, 122, 38, 123, 124, 125, 126, 127, 128, 129, 130, 37, 131, 132] (by decide +kernel) (by decide +kernel)
theorem ggX6_practise_X6_practiseOn_p4 : GoodIn wsX6_practise wsX6_practiseOn_r4 := goodIn_r _ [133, 134, 39, 135, 136, 137, 138, 139, 140, 141, 142, 35, 53, 143, 144, 145, 146] (by decide +kernel) (by decide +kernel)
theorem ggX6_practise_X6_practiseOn_p5 : GoodIn wsX6_practise wsX40 := goodIn_r _ [163, 164, 165, 166, 167, 168] (by decide +kernel) (by decide +kernel)
theorem ggX6_practise_X6_practiseOn_p6 : GoodIn wsX6_practise wsX60 := goodIn_r _ [153, 154, 155, 156, 157, 158] (by decide +kernel) (by decide +kernel)
theorem ggX6_practise_X6_practiseOn_p7 : GoodIn wsX6_practise wsX20 := goodIn_r _ [174, 175, 176, 177, 178, 179] (by decide +kernel) (by decide +kernel)
theorem ggX6_practise_X6_practiseOn_p8 : GoodIn wsX6_practise wsX00 := goodIn_r _ [169, 170, 171, 172, 173] (by decide +kernel) (by decide +kernel)
theorem ggX6_practise_X6_practiseOn : GoodIn wsX6_practise wsX6_practiseOn := (goodIn_c2 ggX6_practise_X6_practiseOn_p0 (goodIn_app (goodIn_app (goodIn_app (goodIn_app (goodIn_app ggX6_practise_X6_practiseOn_p1 (goodIn_app ggX6_practise_X6_practiseOn_p2 (goodIn_app ggX6_practise_X6_practiseOn_p3 ggX6_practise_X6_practiseOn_p4))) ggX6_practise_X6_practiseOn_p5) ggX6_practise_X6_practiseOn_p6) ggX6_practise_X6_practiseOn_p7) ggX6_practise_X6_practiseOn_p8))
set_option maxRecDepth 20000 in
theorem gX6_practise_X6_practiseOn : GoodIn wsX6_practise (wsV RX6 179 RX6 yX6_practiseOn wsX6_practiseOn) := goodIn_app (goodIn_of _ (by decide +kernel)) ggX6_practise_X6_practiseOn
set_option maxRecDepth 20000 in
theorem ggX6_practise_X1_commit : GoodIn wsX6_practise wsX1_commit := goodIn_r _ [150, 17, 151, 152, 61, 62, 63, 159, 160, 161] (by decide +kernel) (by decide +kernel)
set_option maxRecDepth 20000 in
theorem gX6_practise_X1_commit : GoodIn wsX6_practise (wsV RX6 148 RX1 yX1_commit wsX1_commit) := goodIn_app (goodIn_of _ (by decide +kernel)) ggX6_practise_X1_commit
theorem dX6_practise_0 : decode cX6_practise 0 = .ok (.iload_n 1, 1) := by decide +kernel
theorem dX6_practise_1 : decode cX6_practise 1 = .ok (.invokestatic 120, 3) := by decide +kernel
theorem dX6_practise_4 : decode cX6_practise 4 = .ok (.ifCond .ne 13, 3) := by decide +kernel
theorem dX6_practise_7 : decode cX6_practise 7 = .ok (.new 49, 3) := by decide +kernel
theorem dX6_practise_10 : decode cX6_practise 10 = .ok (.dup, 1) := by decide +kernel
theorem dX6_practise_11 : decode cX6_practise 11 = .ok (.ldc 123, 2) := by decide +kernel
theorem dX6_practise_13 : decode cX6_practise 13 = .ok (.invokespecial 53, 3) := by decide +kernel
theorem dX6_practise_16 : decode cX6_practise 16 = .ok (.athrow, 1) := by decide +kernel
theorem dX6_practise_17 : decode cX6_practise 17 = .ok (.aload_n 0, 1) := by decide +kernel
theorem dX6_practise_18 : decode cX6_practise 18 = .ok (.getfield 36, 3) := by decide +kernel
theorem dX6_practise_21 : decode cX6_practise 21 = .ok (.aload_n 0, 1) := by decide +kernel
theorem dX6_practise_22 : decode cX6_practise 22 = .ok (.getfield 12, 3) := by decide +kernel
theorem dX6_practise_25 : decode cX6_practise 25 = .ok (.invokevirtual 138, 3) := by decide +kernel
theorem dX6_practise_28 : decode cX6_practise 28 = .ok (.aload_n 0, 1) := by decide +kernel
theorem dX6_practise_29 : decode cX6_practise 29 = .ok (.aload_n 0, 1) := by decide +kernel
theorem dX6_practise_30 : decode cX6_practise 30 = .ok (.getfield 12, 3) := by decide +kernel
theorem dX6_practise_33 : decode cX6_practise 33 = .ok (.iload_n 1, 1) := by decide +kernel
theorem dX6_practise_34 : decode cX6_practise 34 = .ok (.invokevirtual 179, 3) := by decide +kernel
theorem dX6_practise_37 : decode cX6_practise 37 = .ok (.istore_n 2, 1) := by decide +kernel
theorem dX6_practise_38 : decode cX6_practise 38 = .ok (.iload_n 2, 1) := by decide +kernel
theorem dX6_practise_39 : decode cX6_practise 39 = .ok (.iconst (-1), 1) := by decide +kernel
theorem dX6_practise_40 : decode cX6_practise 40 = .ok (.if_icmp .ne 13, 3) := by decide +kernel
theorem dX6_practise_43 : decode cX6_practise 43 = .ok (.new 60, 3) := by decide +kernel
theorem dX6_practise_46 : decode cX6_practise 46 = .ok (.dup, 1) := by decide +kernel
theorem dX6_practise_47 : decode cX6_practise 47 = .ok (.ldc 183, 2) := by decide +kernel
theorem dX6_practise_49 : decode cX6_practise 49 = .ok (.invokespecial 64, 3) := by decide +kernel
theorem dX6_practise_52 : decode cX6_practise 52 = .ok (.athrow, 1) := by decide +kernel
theorem dX6_practise_53 : decode cX6_practise 53 = .ok (.aload_n 0, 1) := by decide +kernel
theorem dX6_practise_54 : decode cX6_practise 54 = .ok (.getfield 36, 3) := by decide +kernel
theorem dX6_practise_57 : decode cX6_practise 57 = .ok (.invokevirtual 148, 3) := by decide +kernel
theorem dX6_practise_60 : decode cX6_practise 60 = .ok (.iload_n 2, 1) := by decide +kernel
theorem dX6_practise_61 : decode cX6_practise 61 = .ok (.ireturn, 1) := by decide +kernel
set_option maxRecDepth 20000 in
theorem ggX6_set_X6_isSetting : GoodIn wsX6_set wsX6_isSetting := goodIn_r _ [10] (by decide +kernel) (by decide +kernel)
set_option maxRecDepth 20000 in
theorem gX6_set_X6_isSetting : GoodIn wsX6_set (va_wsS RX6 185 yX6_isSetting wsX6_isSetting) := goodIn_app (goodIn_of _ (by decide +kernel)) ggX6_set_X6_isSetting
set_option maxRecDepth 20000 in
theorem ggX6_set_X4_settingOf : GoodIn wsX6_set wsX4_settingOf := goodIn_r _ [15, 16, 17, 9, 18, 143, 144, 145, 146, 147, 148] (by decide +kernel) (by decide +kernel)
set_option maxRecDepth 20000 in
theorem gX6_set_X4_settingOf : GoodIn wsX6_set (wsV RX6 130 RX4 yX4_settingOf wsX4_settingOf) := goodIn_app (goodIn_of _ (by decide +kernel)) ggX6_set_X4_settingOf
set_option maxRecDepth 20000 in
theorem ggX6_set_X1_prepare_p0 : GoodIn wsX6_set [.code yX1_prepare cX1_prepare 2 none] := goodIn_r _ [23] (by decide +kernel) (by decide +kernel)
theorem ggX6_set_X1_prepare_p1 : GoodIn wsX6_set wsX1_prepare_r1 := goodIn_r _ [24, 25, 26, 27, 28, 29, 30, 31, 32, 33, 14, 34, 35, 36, 37, 38, 39, 40, 41, 42, 43, 44, 16, 45] (by decide +kernel) (by decide +kernel)
theorem ggX6_set_X1_prepare_p2 : GoodIn wsX6_set wsX1_prepare_r2 := goodIn_r _ [46, 47, 48, 49, 50, 51, 52, 53, 54, 55, 56, 57, 58, 59, 60, 61, 62, 63, 64, 9, 65, 66, 67, 68] (by decide +kernel) (by decide +kernel)
theorem ggX6_set_X1_prepare_p3 : GoodIn wsX6_set wsX1_prepare_r3 := goodIn_r _ [69, 70, 71, 72, 73] (by decide +kernel) (by decide +kernel)
theorem ggX6_set_X1_prepare_p4 : GoodIn wsX6_set wsX10 := goodIn_r _ [149, 150, 151] (by decide +kernel) (by decide +kernel)
theorem ggX6_set_X1_prepare_p5 : GoodIn wsX6_set wsX30 := goodIn_r _ [152] (by decide +kernel) (by decide +kernel)
theorem ggX6_set_X1_prepare_p6 : GoodIn wsX6_set wsX40 := goodIn_r _ [143, 144, 145, 146, 147, 148] (by decide +kernel) (by decide +kernel)
theorem ggX6_set_X1_prepare_p7 : GoodIn wsX6_set wsX00 := goodIn_r _ [153, 154, 155, 156, 157] (by decide +kernel) (by decide +kernel)
theorem ggX6_set_X1_prepare : GoodIn wsX6_set wsX1_prepare := (goodIn_c2 ggX6_set_X1_prepare_p0 (goodIn_app (goodIn_app (goodIn_app (goodIn_app (goodIn_app ggX6_set_X1_prepare_p1 (goodIn_app ggX6_set_X1_prepare_p2 ggX6_set_X1_prepare_p3)) ggX6_set_X1_prepare_p4) ggX6_set_X1_prepare_p5) ggX6_set_X1_prepare_p6) ggX6_set_X1_prepare_p7))
set_option maxRecDepth 20000 in
theorem gX6_set_X1_prepare : GoodIn wsX6_set (wsV RX6 138 RX1 yX1_prepare wsX1_prepare) := goodIn_app (goodIn_of _ (by decide +kernel)) ggX6_set_X1_prepare
set_option maxRecDepth 20000 in
theorem ggX6_set_X4_changeSetting_p0 : GoodIn wsX6_set [.code yX4_changeSetting cX4_changeSetting 4 (some .boolean)] := goodIn_r _ [77] (by decide +kernel) (by decide +kernel)
theorem ggX6_set_X4_changeSetting_p1 : GoodIn wsX6_set wsX4_changeSetting_r1 := goodIn_r _ [16, 58, 42, 78, 79, 80, 14, 81, 82, 83, 84, 41, 85, 86, 87, 68, 88, 89, 90, 91, 92, 49, 17, 9] (by decide +kernel) (by decide +kernel)
theorem ggX6_set_X4_changeSetting_p2 : GoodIn wsX6_set wsX4_changeSetting_r2 := goodIn_r _ [18, 93, 94, 95, 96, 50, 97, 98, 99, 100, 51, 101, 102, 103, 104, 105, 106, 107, 108, 109, 110, 111, 112, 113] (by decide +kernel) (by decide +kernel)
theorem ggX6_set_X4_changeSetting_p3 : GoodIn wsX6_set wsX4_changeSetting_r3 := goodIn_r _ [114, 115, 52, 116, 117, 118, 119, 53, 120, 121, 122, 123, 124, 125, 126, 127, 128, 129, 130] (by decide +kernel) (by decide +kernel)
theorem ggX6_set_X4_changeSetting_p4 : GoodIn wsX6_set wsX40 := goodIn_r _ [143, 144, 145, 146, 147, 148] (by decide +kernel) (by decide +kernel)
theorem ggX6_set_X4_changeSetting_p5 : GoodIn wsX6_set wsX00 := goodIn_r _ [153, 154, 155, 156, 157] (by decide +kernel) (by decide +kernel)
theorem ggX6_set_X4_changeSetting : GoodIn wsX6_set wsX4_changeSetting := (goodIn_c2 ggX6_set_X4_changeSetting_p0 (goodIn_app (goodIn_app (goodIn_app ggX6_set_X4_changeSetting_p1 (goodIn_app ggX6_set_X4_changeSetting_p2 ggX6_set_X4_changeSetting_p3)) ggX6_set_X4_changeSetting_p4) ggX6_set_X4_changeSetting_p5))
set_option maxRecDepth 20000 in
theorem gX6_set_X4_changeSetting : GoodIn wsX6_set (wsV RX6 190 RX4 yX4_changeSetting wsX4_changeSetting) := goodIn_app (goodIn_of _ (by decide +kernel)) ggX6_set_X4_changeSetting
set_option maxRecDepth 20000 in
theorem ggX6_set_X1_commit : GoodIn wsX6_set wsX1_commit := goodIn_r _ [134, 25, 135, 136, 67, 68, 69, 149, 150, 151] (by decide +kernel) (by decide +kernel)
set_option maxRecDepth 20000 in
theorem gX6_set_X1_commit : GoodIn wsX6_set (wsV RX6 148 RX1 yX1_commit wsX1_commit) := goodIn_app (goodIn_of _ (by decide +kernel)) ggX6_set_X1_commit
theorem dX6_set_0 : decode cX6_set 0 = .ok (.iload_n 1, 1) := by decide +kernel
theorem dX6_set_1 : decode cX6_set 1 = .ok (.iload_n 2, 1) := by decide +kernel
theorem dX6_set_2 : decode cX6_set 2 = .ok (.invokestatic 185, 3) := by decide +kernel
theorem dX6_set_5 : decode cX6_set 5 = .ok (.ifCond .ne 13, 3) := by decide +kernel
theorem dX6_set_8 : decode cX6_set 8 = .ok (.new 49, 3) := by decide +kernel
theorem dX6_set_11 : decode cX6_set 11 = .ok (.dup, 1) := by decide +kernel
theorem dX6_set_12 : decode cX6_set 12 = .ok (.ldc 188, 2) := by decide +kernel
theorem dX6_set_14 : decode cX6_set 14 = .ok (.invokespecial 53, 3) := by decide +kernel
theorem dX6_set_17 : decode cX6_set 17 = .ok (.athrow, 1) := by decide +kernel
theorem dX6_set_18 : decode cX6_set 18 = .ok (.aload_n 0, 1) := by decide +kernel
theorem dX6_set_19 : decode cX6_set 19 = .ok (.getfield 12, 3) := by decide +kernel
theorem dX6_set_22 : decode cX6_set 22 = .ok (.iload_n 1, 1) := by decide +kernel
theorem dX6_set_23 : decode cX6_set 23 = .ok (.invokevirtual 130, 3) := by decide +kernel
theorem dX6_set_26 : decode cX6_set 26 = .ok (.istore_n 3, 1) := by decide +kernel
theorem dX6_set_27 : decode cX6_set 27 = .ok (.aload_n 0, 1) := by decide +kernel
theorem dX6_set_28 : decode cX6_set 28 = .ok (.getfield 36, 3) := by decide +kernel
theorem dX6_set_31 : decode cX6_set 31 = .ok (.aload_n 0, 1) := by decide +kernel
theorem dX6_set_32 : decode cX6_set 32 = .ok (.getfield 12, 3) := by decide +kernel
theorem dX6_set_35 : decode cX6_set 35 = .ok (.invokevirtual 138, 3) := by decide +kernel
theorem dX6_set_38 : decode cX6_set 38 = .ok (.aload_n 0, 1) := by decide +kernel
theorem dX6_set_39 : decode cX6_set 39 = .ok (.getfield 12, 3) := by decide +kernel
theorem dX6_set_42 : decode cX6_set 42 = .ok (.iload_n 1, 1) := by decide +kernel
theorem dX6_set_43 : decode cX6_set 43 = .ok (.iload_n 2, 1) := by decide +kernel
theorem dX6_set_44 : decode cX6_set 44 = .ok (.invokevirtual 190, 3) := by decide +kernel
theorem dX6_set_47 : decode cX6_set 47 = .ok (.ifCond .ne 13, 3) := by decide +kernel
theorem dX6_set_50 : decode cX6_set 50 = .ok (.new 60, 3) := by decide +kernel
theorem dX6_set_53 : decode cX6_set 53 = .ok (.dup, 1) := by decide +kernel
theorem dX6_set_54 : decode cX6_set 54 = .ok (.ldc 193, 2) := by decide +kernel
theorem dX6_set_56 : decode cX6_set 56 = .ok (.invokespecial 64, 3) := by decide +kernel
theorem dX6_set_59 : decode cX6_set 59 = .ok (.athrow, 1) := by decide +kernel
theorem dX6_set_60 : decode cX6_set 60 = .ok (.aload_n 0, 1) := by decide +kernel
theorem dX6_set_61 : decode cX6_set 61 = .ok (.getfield 36, 3) := by decide +kernel
theorem dX6_set_64 : decode cX6_set 64 = .ok (.invokevirtual 148, 3) := by decide +kernel
theorem dX6_set_67 : decode cX6_set 67 = .ok (.iload_n 3, 1) := by decide +kernel
theorem dX6_set_68 : decode cX6_set 68 = .ok (.ireturn, 1) := by decide +kernel
set_option maxRecDepth 20000 in
theorem ggX6_undo_X1_newestState : GoodIn wsX6_undo wsX1_newestState := goodIn_r _ [10, 11, 12, 13, 14, 15, 16, 17, 18, 19, 62, 63, 64, 65] (by decide +kernel) (by decide +kernel)
set_option maxRecDepth 20000 in
theorem gX6_undo_X1_newestState : GoodIn wsX6_undo (wsV RX6 195 RX1 yX1_newestState wsX1_newestState) := goodIn_app (goodIn_of _ (by decide +kernel)) ggX6_undo_X1_newestState
set_option maxRecDepth 20000 in
theorem ggX6_undo_X4_copyFrom_p0 : GoodIn wsX6_undo [.code yX4_copyFrom cX4_copyFrom 2 none] := goodIn_r _ [24] (by decide +kernel) (by decide +kernel)
theorem ggX6_undo_X4_copyFrom_p1 : GoodIn wsX6_undo wsX4_copyFrom_r1 := goodIn_r _ [25, 26, 27, 28, 29, 30, 31, 32, 33, 34, 35, 36, 37, 38, 39, 40, 41, 42, 43, 44, 45, 46, 47, 48] (by decide +kernel) (by decide +kernel)
theorem ggX6_undo_X4_copyFrom_p2 : GoodIn wsX6_undo wsX4_copyFrom_r2 := goodIn_r _ [49, 50, 51] (by decide +kernel) (by decide +kernel)
theorem ggX6_undo_X4_copyFrom_p3 : GoodIn wsX6_undo wsX40 := goodIn_r _ [66, 67, 68, 69, 70, 71] (by decide +kernel) (by decide +kernel)
theorem ggX6_undo_X4_copyFrom_p4 : GoodIn wsX6_undo wsX00 := goodIn_r _ [72, 73, 74, 75, 76] (by decide +kernel) (by decide +kernel)
theorem ggX6_undo_X4_copyFrom : GoodIn wsX6_undo wsX4_copyFrom := (goodIn_c2 ggX6_undo_X4_copyFrom_p0 (goodIn_app (goodIn_app (goodIn_app ggX6_undo_X4_copyFrom_p1 ggX6_undo_X4_copyFrom_p2) ggX6_undo_X4_copyFrom_p3) ggX6_undo_X4_copyFrom_p4))
set_option maxRecDepth 20000 in
theorem gX6_undo_X4_copyFrom : GoodIn wsX6_undo (wsV RX6 159 RX4 yX4_copyFrom wsX4_copyFrom) := goodIn_app (goodIn_of _ (by decide +kernel)) ggX6_undo_X4_copyFrom
set_option maxRecDepth 20000 in
theorem ggX6_undo_X1_dropNewest : GoodIn wsX6_undo wsX1_dropNewest := goodIn_r _ [55, 13, 11, 62, 63, 64] (by decide +kernel) (by decide +kernel)
set_option maxRecDepth 20000 in
theorem gX6_undo_X1_dropNewest : GoodIn wsX6_undo (wsV RX6 201 RX1 yX1_dropNewest wsX1_dropNewest) := goodIn_app (goodIn_of _ (by decide +kernel)) ggX6_undo_X1_dropNewest
theorem dX6_undo_0 : decode cX6_undo 0 = .ok (.aload_n 0, 1) := by decide +kernel
theorem dX6_undo_1 : decode cX6_undo 1 = .ok (.getfield 36, 3) := by decide +kernel
theorem dX6_undo_4 : decode cX6_undo 4 = .ok (.invokevirtual 195, 3) := by decide +kernel
theorem dX6_undo_7 : decode cX6_undo 7 = .ok (.astore_n 1, 1) := by decide +kernel
theorem dX6_undo_8 : decode cX6_undo 8 = .ok (.aload_n 1, 1) := by decide +kernel
theorem dX6_undo_9 : decode cX6_undo 9 = .ok (.ifnonnull 13, 3) := by decide +kernel
theorem dX6_undo_12 : decode cX6_undo 12 = .ok (.new 60, 3) := by decide +kernel
theorem dX6_undo_15 : decode cX6_undo 15 = .ok (.dup, 1) := by decide +kernel
theorem dX6_undo_16 : decode cX6_undo 16 = .ok (.ldc 199, 2) := by decide +kernel
theorem dX6_undo_18 : decode cX6_undo 18 = .ok (.invokespecial 64, 3) := by decide +kernel
theorem dX6_undo_21 : decode cX6_undo 21 = .ok (.athrow, 1) := by decide +kernel
theorem dX6_undo_22 : decode cX6_undo 22 = .ok (.aload_n 0, 1) := by decide +kernel
theorem dX6_undo_23 : decode cX6_undo 23 = .ok (.getfield 12, 3) := by decide +kernel
theorem dX6_undo_26 : decode cX6_undo 26 = .ok (.aload_n 1, 1) := by decide +kernel
theorem dX6_undo_27 : decode cX6_undo 27 = .ok (.invokevirtual 159, 3) := by decide +kernel
theorem dX6_undo_30 : decode cX6_undo 30 = .ok (.aload_n 0, 1) := by decide +kernel
theorem dX6_undo_31 : decode cX6_undo 31 = .ok (.getfield 36, 3) := by decide +kernel
theorem dX6_undo_34 : decode cX6_undo 34 = .ok (.invokevirtual 201, 3) := by decide +kernel
theorem dX6_undo_37 : decode cX6_undo 37 = .ok (.aload_n 0, 1) := by decide +kernel
theorem dX6_undo_38 : decode cX6_undo 38 = .ok (.getfield 36, 3) := by decide +kernel
theorem dX6_undo_41 : decode cX6_undo 41 = .ok (.getfield 204, 3) := by decide +kernel
theorem dX6_undo_44 : decode cX6_undo 44 = .ok (.ireturn, 1) := by decide +kernel
set_option maxRecDepth 20000 in
theorem ggX6_read_X2_readFigure_p0 : GoodIn wsX6_read [.code yX2_readFigure cX2_readFigure 6 none] := goodIn_r _ [13] (by decide +kernel) (by decide +kernel)
theorem ggX6_read_X2_readFigure_p1 : GoodIn wsX6_read wsX2_readFigure_r1 := goodIn_r _ [14, 15, 16, 17, 18, 19, 20, 21, 22, 23, 12, 24, 25, 26, 27, 28, 29, 30, 31, 32, 33, 34, 35, 36] (by decide +kernel) (by decide +kernel)
theorem ggX6_read_X2_readFigure_p2 : GoodIn wsX6_read wsX2_readFigure_r2 := goodIn_r _ [37, 38, 39, 40, 41, 42, 43, 44, 45, 46, 47, 48, 49, 50, 51, 52, 53, 54, 55, 56, 57, 58, 59, 60] (by decide +kernel) (by decide +kernel)
theorem ggX6_read_X2_readFigure_p3 : GoodIn wsX6_read wsX2_readFigure_r3 := goodIn_r _ [61, 62, 63, 64, 65, 66, 67, 68, 69] (by decide +kernel) (by decide +kernel)
theorem ggX6_read_X2_readFigure_p4 : GoodIn wsX6_read wsX20 := goodIn_r _ [76, 77, 78, 79, 80, 81] (by decide +kernel) (by decide +kernel)
theorem ggX6_read_X2_readFigure_p5 : GoodIn wsX6_read wsX40 := goodIn_r _ [82, 83, 84, 85, 86, 87] (by decide +kernel) (by decide +kernel)
theorem ggX6_read_X2_readFigure_p6 : GoodIn wsX6_read wsX00 := goodIn_r _ [88, 89, 90, 91, 92] (by decide +kernel) (by decide +kernel)
theorem ggX6_read_X2_readFigure : GoodIn wsX6_read wsX2_readFigure := (goodIn_c2 ggX6_read_X2_readFigure_p0 (goodIn_app (goodIn_app (goodIn_app (goodIn_app ggX6_read_X2_readFigure_p1 (goodIn_app ggX6_read_X2_readFigure_p2 ggX6_read_X2_readFigure_p3)) ggX6_read_X2_readFigure_p4) ggX6_read_X2_readFigure_p5) ggX6_read_X2_readFigure_p6))
set_option maxRecDepth 20000 in
theorem gX6_read_X2_readFigure : GoodIn wsX6_read (wsV RX6 207 RX2 yX2_readFigure wsX2_readFigure) := goodIn_app (goodIn_of _ (by decide +kernel)) ggX6_read_X2_readFigure
theorem dX6_read_0 : decode cX6_read 0 = .ok (.iload_n 1, 1) := by decide +kernel
theorem dX6_read_1 : decode cX6_read 1 = .ok (.ifCond .lt 8, 3) := by decide +kernel
theorem dX6_read_4 : decode cX6_read 4 = .ok (.iload_n 1, 1) := by decide +kernel
theorem dX6_read_5 : decode cX6_read 5 = .ok (.iconst 3, 1) := by decide +kernel
theorem dX6_read_6 : decode cX6_read 6 = .ok (.if_icmp .le 13, 3) := by decide +kernel
theorem dX6_read_9 : decode cX6_read 9 = .ok (.new 49, 3) := by decide +kernel
theorem dX6_read_12 : decode cX6_read 12 = .ok (.dup, 1) := by decide +kernel
theorem dX6_read_13 : decode cX6_read 13 = .ok (.ldc 118, 2) := by decide +kernel
theorem dX6_read_15 : decode cX6_read 15 = .ok (.invokespecial 53, 3) := by decide +kernel
theorem dX6_read_18 : decode cX6_read 18 = .ok (.athrow, 1) := by decide +kernel
theorem dX6_read_19 : decode cX6_read 19 = .ok (.aload_n 0, 1) := by decide +kernel
theorem dX6_read_20 : decode cX6_read 20 = .ok (.getfield 22, 3) := by decide +kernel
theorem dX6_read_23 : decode cX6_read 23 = .ok (.aload_n 0, 1) := by decide +kernel
theorem dX6_read_24 : decode cX6_read 24 = .ok (.getfield 12, 3) := by decide +kernel
theorem dX6_read_27 : decode cX6_read 27 = .ok (.bipush 16, 2) := by decide +kernel
theorem dX6_read_29 : decode cX6_read 29 = .ok (.iconst (-1), 1) := by decide +kernel
theorem dX6_read_30 : decode cX6_read 30 = .ok (.invokevirtual 207, 3) := by decide +kernel
theorem dX6_read_33 : decode cX6_read 33 = .ok (.iload_n 1, 1) := by decide +kernel
theorem dX6_read_34 : decode cX6_read 34 = .ok (.tableswitch 50 0 2 #[26, 34, 42], 26) := by decide +kernel
theorem dX6_read_60 : decode cX6_read 60 = .ok (.aload_n 0, 1) := by decide +kernel
theorem dX6_read_61 : decode cX6_read 61 = .ok (.getfield 22, 3) := by decide +kernel
theorem dX6_read_64 : decode cX6_read 64 = .ok (.getfield 211, 3) := by decide +kernel
theorem dX6_read_67 : decode cX6_read 67 = .ok (.ireturn, 1) := by decide +kernel
theorem dX6_read_68 : decode cX6_read 68 = .ok (.aload_n 0, 1) := by decide +kernel
theorem dX6_read_69 : decode cX6_read 69 = .ok (.getfield 22, 3) := by decide +kernel
theorem dX6_read_72 : decode cX6_read 72 = .ok (.getfield 214, 3) := by decide +kernel
theorem dX6_read_75 : decode cX6_read 75 = .ok (.ireturn, 1) := by decide +kernel
theorem dX6_read_76 : decode cX6_read 76 = .ok (.aload_n 0, 1) := by decide +kernel
theorem dX6_read_77 : decode cX6_read 77 = .ok (.getfield 22, 3) := by decide +kernel
theorem dX6_read_80 : decode cX6_read 80 = .ok (.getfield 217, 3) := by decide +kernel
theorem dX6_read_83 : decode cX6_read 83 = .ok (.ireturn, 1) := by decide +kernel
theorem dX6_read_84 : decode cX6_read 84 = .ok (.aload_n 0, 1) := by decide +kernel
theorem dX6_read_85 : decode cX6_read 85 = .ok (.getfield 22, 3) := by decide +kernel
theorem dX6_read_88 : decode cX6_read 88 = .ok (.getfield 220, 3) := by decide +kernel
theorem dX6_read_91 : decode cX6_read 91 = .ok (.ireturn, 1) := by decide +kernel
set_option maxRecDepth 20000 in
theorem ggX6_nearest_X4_hasSample : GoodIn wsX6_nearest wsX4_hasSample := goodIn_r _ [9, 10, 63, 64, 65, 66, 67, 68] (by decide +kernel) (by decide +kernel)
set_option maxRecDepth 20000 in
theorem gX6_nearest_X4_hasSample : GoodIn wsX6_nearest (wsV RX6 106 RX4 yX4_hasSample wsX4_hasSample) := goodIn_app (goodIn_of _ (by decide +kernel)) ggX6_nearest_X4_hasSample
set_option maxRecDepth 20000 in
theorem ggX6_nearest_X2_rankedSample_p0 : GoodIn wsX6_nearest [.code yX2_rankedSample cX2_rankedSample 4 (some .int)] := goodIn_r _ [15] (by decide +kernel) (by decide +kernel)
theorem ggX6_nearest_X2_rankedSample_p1 : GoodIn wsX6_nearest wsX2_rankedSample_r1 := goodIn_r _ [16, 17, 18, 19, 20, 21, 14, 22, 23, 24, 25, 26, 27, 28, 29, 30, 31, 32, 33, 34, 35, 36, 37, 38] (by decide +kernel) (by decide +kernel)
theorem ggX6_nearest_X2_rankedSample_p2 : GoodIn wsX6_nearest wsX2_rankedSample_r2 := goodIn_r _ [39, 40, 41, 42, 43, 44, 45, 46, 47, 48, 49, 50, 51, 52, 53, 54, 55, 56] (by decide +kernel) (by decide +kernel)
theorem ggX6_nearest_X2_rankedSample_p3 : GoodIn wsX6_nearest wsX40 := goodIn_r _ [63, 64, 65, 66, 67, 68] (by decide +kernel) (by decide +kernel)
theorem ggX6_nearest_X2_rankedSample_p4 : GoodIn wsX6_nearest wsX20 := goodIn_r _ [69, 70, 71, 72, 73, 74] (by decide +kernel) (by decide +kernel)
theorem ggX6_nearest_X2_rankedSample_p5 : GoodIn wsX6_nearest wsX00 := goodIn_r _ [75, 76, 77, 78, 79] (by decide +kernel) (by decide +kernel)
theorem ggX6_nearest_X2_rankedSample : GoodIn wsX6_nearest wsX2_rankedSample := (goodIn_c2 ggX6_nearest_X2_rankedSample_p0 (goodIn_app (goodIn_app (goodIn_app (goodIn_app ggX6_nearest_X2_rankedSample_p1 ggX6_nearest_X2_rankedSample_p2) ggX6_nearest_X2_rankedSample_p3) ggX6_nearest_X2_rankedSample_p4) ggX6_nearest_X2_rankedSample_p5))
set_option maxRecDepth 20000 in
theorem gX6_nearest_X2_rankedSample : GoodIn wsX6_nearest (wsV RX6 225 RX2 yX2_rankedSample wsX2_rankedSample) := goodIn_app (goodIn_of _ (by decide +kernel)) ggX6_nearest_X2_rankedSample
theorem dX6_nearest_0 : decode cX6_nearest 0 = .ok (.aload_n 0, 1) := by decide +kernel
theorem dX6_nearest_1 : decode cX6_nearest 1 = .ok (.getfield 12, 3) := by decide +kernel
theorem dX6_nearest_4 : decode cX6_nearest 4 = .ok (.iload_n 1, 1) := by decide +kernel
theorem dX6_nearest_5 : decode cX6_nearest 5 = .ok (.invokevirtual 106, 3) := by decide +kernel
theorem dX6_nearest_8 : decode cX6_nearest 8 = .ok (.ifCond .ne 13, 3) := by decide +kernel
theorem dX6_nearest_11 : decode cX6_nearest 11 = .ok (.new 110, 3) := by decide +kernel
theorem dX6_nearest_14 : decode cX6_nearest 14 = .ok (.dup, 1) := by decide +kernel
theorem dX6_nearest_15 : decode cX6_nearest 15 = .ok (.ldc 223, 2) := by decide +kernel
theorem dX6_nearest_17 : decode cX6_nearest 17 = .ok (.invokespecial 114, 3) := by decide +kernel
theorem dX6_nearest_20 : decode cX6_nearest 20 = .ok (.athrow, 1) := by decide +kernel
theorem dX6_nearest_21 : decode cX6_nearest 21 = .ok (.aload_n 0, 1) := by decide +kernel
theorem dX6_nearest_22 : decode cX6_nearest 22 = .ok (.getfield 22, 3) := by decide +kernel
theorem dX6_nearest_25 : decode cX6_nearest 25 = .ok (.aload_n 0, 1) := by decide +kernel
theorem dX6_nearest_26 : decode cX6_nearest 26 = .ok (.getfield 12, 3) := by decide +kernel
theorem dX6_nearest_29 : decode cX6_nearest 29 = .ok (.iload_n 1, 1) := by decide +kernel
theorem dX6_nearest_30 : decode cX6_nearest 30 = .ok (.invokevirtual 225, 3) := by decide +kernel
theorem dX6_nearest_33 : decode cX6_nearest 33 = .ok (.ireturn, 1) := by decide +kernel
set_option maxRecDepth 20000 in
theorem ggX6_between_X4_hasSample : GoodIn wsX6_between wsX4_hasSample := goodIn_r _ [10, 11, 53, 54, 55, 56, 57, 58] (by decide +kernel) (by decide +kernel)
set_option maxRecDepth 20000 in
theorem gX6_between_X4_hasSample : GoodIn wsX6_between (wsV RX6 106 RX4 yX4_hasSample wsX4_hasSample) := goodIn_app (goodIn_of _ (by decide +kernel)) ggX6_between_X4_hasSample
set_option maxRecDepth 20000 in
theorem ggX6_between_X2_distanceOf_p0 : GoodIn wsX6_between [.code yX2_distanceOf cX2_distanceOf 13 (some .int)] := goodIn_r _ [16] (by decide +kernel) (by decide +kernel)
theorem ggX6_between_X2_distanceOf_p1 : GoodIn wsX6_between wsX2_distanceOf_r1 := goodIn_r _ [17, 18, 19, 20, 21, 22, 23, 24, 25, 26, 27, 28, 29, 30, 31, 32, 33, 34, 35, 36, 37, 38, 39, 15] (by decide +kernel) (by decide +kernel)
theorem ggX6_between_X2_distanceOf_p2 : GoodIn wsX6_between wsX2_distanceOf_r2 := goodIn_r _ [40, 41, 42, 43, 44, 45, 46] (by decide +kernel) (by decide +kernel)
theorem ggX6_between_X2_distanceOf_p3 : GoodIn wsX6_between wsX20 := goodIn_r _ [59, 60, 61, 62, 63, 64] (by decide +kernel) (by decide +kernel)
theorem ggX6_between_X2_distanceOf_p4 : GoodIn wsX6_between wsX00 := goodIn_r _ [65, 66, 67, 68, 69] (by decide +kernel) (by decide +kernel)
theorem ggX6_between_X2_distanceOf : GoodIn wsX6_between wsX2_distanceOf := (goodIn_c2 ggX6_between_X2_distanceOf_p0 (goodIn_app (goodIn_app (goodIn_app ggX6_between_X2_distanceOf_p1 ggX6_between_X2_distanceOf_p2) ggX6_between_X2_distanceOf_p3) ggX6_between_X2_distanceOf_p4))
set_option maxRecDepth 20000 in
theorem gX6_between_X2_distanceOf : GoodIn wsX6_between (wsV RX6 228 RX2 yX2_distanceOf wsX2_distanceOf) := goodIn_app (goodIn_of _ (by decide +kernel)) ggX6_between_X2_distanceOf
theorem dX6_between_0 : decode cX6_between 0 = .ok (.aload_n 0, 1) := by decide +kernel
theorem dX6_between_1 : decode cX6_between 1 = .ok (.getfield 12, 3) := by decide +kernel
theorem dX6_between_4 : decode cX6_between 4 = .ok (.iload_n 1, 1) := by decide +kernel
theorem dX6_between_5 : decode cX6_between 5 = .ok (.invokevirtual 106, 3) := by decide +kernel
theorem dX6_between_8 : decode cX6_between 8 = .ok (.ifCond .eq 14, 3) := by decide +kernel
theorem dX6_between_11 : decode cX6_between 11 = .ok (.aload_n 0, 1) := by decide +kernel
theorem dX6_between_12 : decode cX6_between 12 = .ok (.getfield 12, 3) := by decide +kernel
theorem dX6_between_15 : decode cX6_between 15 = .ok (.iload_n 2, 1) := by decide +kernel
theorem dX6_between_16 : decode cX6_between 16 = .ok (.invokevirtual 106, 3) := by decide +kernel
theorem dX6_between_19 : decode cX6_between 19 = .ok (.ifCond .ne 13, 3) := by decide +kernel
theorem dX6_between_22 : decode cX6_between 22 = .ok (.new 110, 3) := by decide +kernel
theorem dX6_between_25 : decode cX6_between 25 = .ok (.dup, 1) := by decide +kernel
theorem dX6_between_26 : decode cX6_between 26 = .ok (.ldc 112, 2) := by decide +kernel
theorem dX6_between_28 : decode cX6_between 28 = .ok (.invokespecial 114, 3) := by decide +kernel
theorem dX6_between_31 : decode cX6_between 31 = .ok (.athrow, 1) := by decide +kernel
theorem dX6_between_32 : decode cX6_between 32 = .ok (.aload_n 0, 1) := by decide +kernel
theorem dX6_between_33 : decode cX6_between 33 = .ok (.getfield 22, 3) := by decide +kernel
theorem dX6_between_36 : decode cX6_between 36 = .ok (.aload_n 0, 1) := by decide +kernel
theorem dX6_between_37 : decode cX6_between 37 = .ok (.getfield 12, 3) := by decide +kernel
theorem dX6_between_40 : decode cX6_between 40 = .ok (.getfield 72, 3) := by decide +kernel
theorem dX6_between_43 : decode cX6_between 43 = .ok (.iload_n 1, 1) := by decide +kernel
theorem dX6_between_44 : decode cX6_between 44 = .ok (.iload_n 2, 1) := by decide +kernel
theorem dX6_between_45 : decode cX6_between 45 = .ok (.invokevirtual 228, 3) := by decide +kernel
theorem dX6_between_48 : decode cX6_between 48 = .ok (.ireturn, 1) := by decide +kernel
set_option maxRecDepth 20000 in
theorem ggX6_closest_X2_closestPair_p0 : GoodIn wsX6_closest [.code yX2_closestPair cX2_closestPair 8 (some .int)] := goodIn_r _ [7] (by decide +kernel) (by decide +kernel)
theorem ggX6_closest_X2_closestPair_p1 : GoodIn wsX6_closest wsX2_closestPair_r1 := goodIn_r _ [8, 9, 10, 11, 12, 13, 14, 15, 16, 17, 18, 19, 20, 21, 6, 22, 23, 24, 25, 26, 27, 28, 29, 30] (by decide +kernel) (by decide +kernel)
theorem ggX6_closest_X2_closestPair_p2 : GoodIn wsX6_closest wsX2_closestPair_r2 := goodIn_r _ [31, 32, 33, 34, 35, 36, 37, 38, 39, 40, 41, 42, 43, 44, 45, 46, 47, 48, 49] (by decide +kernel) (by decide +kernel)
theorem ggX6_closest_X2_closestPair_p3 : GoodIn wsX6_closest wsX40 := goodIn_r _ [56, 57, 58, 59, 60, 61] (by decide +kernel) (by decide +kernel)
theorem ggX6_closest_X2_closestPair_p4 : GoodIn wsX6_closest wsX20 := goodIn_r _ [62, 63, 64, 65, 66, 67] (by decide +kernel) (by decide +kernel)
theorem ggX6_closest_X2_closestPair_p5 : GoodIn wsX6_closest wsX00 := goodIn_r _ [68, 69, 70, 71, 72] (by decide +kernel) (by decide +kernel)
theorem ggX6_closest_X2_closestPair : GoodIn wsX6_closest wsX2_closestPair := (goodIn_c2 ggX6_closest_X2_closestPair_p0 (goodIn_app (goodIn_app (goodIn_app (goodIn_app ggX6_closest_X2_closestPair_p1 ggX6_closest_X2_closestPair_p2) ggX6_closest_X2_closestPair_p3) ggX6_closest_X2_closestPair_p4) ggX6_closest_X2_closestPair_p5))
set_option maxRecDepth 20000 in
theorem gX6_closest_X2_closestPair : GoodIn wsX6_closest (wsV RX6 232 RX2 yX2_closestPair wsX2_closestPair) := goodIn_app (goodIn_of _ (by decide +kernel)) ggX6_closest_X2_closestPair
theorem dX6_closest_0 : decode cX6_closest 0 = .ok (.aload_n 0, 1) := by decide +kernel
theorem dX6_closest_1 : decode cX6_closest 1 = .ok (.getfield 22, 3) := by decide +kernel
theorem dX6_closest_4 : decode cX6_closest 4 = .ok (.aload_n 0, 1) := by decide +kernel
theorem dX6_closest_5 : decode cX6_closest 5 = .ok (.getfield 12, 3) := by decide +kernel
theorem dX6_closest_8 : decode cX6_closest 8 = .ok (.iconst (-1), 1) := by decide +kernel
theorem dX6_closest_9 : decode cX6_closest 9 = .ok (.invokevirtual 232, 3) := by decide +kernel
theorem dX6_closest_12 : decode cX6_closest 12 = .ok (.ireturn, 1) := by decide +kernel
set_option maxRecDepth 20000 in
theorem ggX6_byOthers_X2_readFigure_p0 : GoodIn wsX6_byOthers [.code yX2_readFigure cX2_readFigure 6 none] := goodIn_r _ [9] (by decide +kernel) (by decide +kernel)
theorem ggX6_byOthers_X2_readFigure_p1 : GoodIn wsX6_byOthers wsX2_readFigure_r1 := goodIn_r _ [10, 11, 12, 13, 14, 15, 16, 17, 18, 19, 8, 20, 21, 22, 23, 24, 25, 26, 27, 28, 29, 30, 31, 32] (by decide +kernel) (by decide +kernel)
theorem ggX6_byOthers_X2_readFigure_p2 : GoodIn wsX6_byOthers wsX2_readFigure_r2 := goodIn_r _ [33, 34, 35, 36, 37, 38, 39, 40, 41, 42, 43, 44, 45, 46, 47, 48, 49, 50, 51, 52, 53, 54, 55, 56] (by decide +kernel) (by decide +kernel)
theorem ggX6_byOthers_X2_readFigure_p3 : GoodIn wsX6_byOthers wsX2_readFigure_r3 := goodIn_r _ [57, 58, 59, 60, 61, 62, 63, 64, 65] (by decide +kernel) (by decide +kernel)
theorem ggX6_byOthers_X2_readFigure_p4 : GoodIn wsX6_byOthers wsX20 := goodIn_r _ [79, 80, 81, 82, 83, 84] (by decide +kernel) (by decide +kernel)
theorem ggX6_byOthers_X2_readFigure_p5 : GoodIn wsX6_byOthers wsX40 := goodIn_r _ [73, 74, 75, 76, 77, 78] (by decide +kernel) (by decide +kernel)
theorem ggX6_byOthers_X2_readFigure_p6 : GoodIn wsX6_byOthers wsX00 := goodIn_r _ [85, 86, 87, 88, 89] (by decide +kernel) (by decide +kernel)
theorem ggX6_byOthers_X2_readFigure : GoodIn wsX6_byOthers wsX2_readFigure := (goodIn_c2 ggX6_byOthers_X2_readFigure_p0 (goodIn_app (goodIn_app (goodIn_app (goodIn_app ggX6_byOthers_X2_readFigure_p1 (goodIn_app ggX6_byOthers_X2_readFigure_p2 ggX6_byOthers_X2_readFigure_p3)) ggX6_byOthers_X2_readFigure_p4) ggX6_byOthers_X2_readFigure_p5) ggX6_byOthers_X2_readFigure_p6))
set_option maxRecDepth 20000 in
theorem gX6_byOthers_X2_readFigure : GoodIn wsX6_byOthers (wsV RX6 207 RX2 yX2_readFigure wsX2_readFigure) := goodIn_app (goodIn_of _ (by decide +kernel)) ggX6_byOthers_X2_readFigure
set_option maxRecDepth 20000 in
theorem ggX6_byOthers_X4_nameOf : GoodIn wsX6_byOthers wsX4_nameOf := goodIn_r _ [64, 65, 32, 33, 34, 73, 74, 75, 76, 77, 78] (by decide +kernel) (by decide +kernel)
set_option maxRecDepth 20000 in
theorem gX6_byOthers_X4_nameOf : GoodIn wsX6_byOthers (wsV RX6 115 RX4 yX4_nameOf wsX4_nameOf) := goodIn_app (goodIn_of _ (by decide +kernel)) ggX6_byOthers_X4_nameOf
theorem dX6_byOthers_0 : decode cX6_byOthers 0 = .ok (.iconst 0, 1) := by decide +kernel
theorem dX6_byOthers_1 : decode cX6_byOthers 1 = .ok (.istore_n 1, 1) := by decide +kernel
theorem dX6_byOthers_2 : decode cX6_byOthers 2 = .ok (.iconst 0, 1) := by decide +kernel
theorem dX6_byOthers_3 : decode cX6_byOthers 3 = .ok (.istore_n 2, 1) := by decide +kernel
theorem dX6_byOthers_4 : decode cX6_byOthers 4 = .ok (.iload_n 2, 1) := by decide +kernel
theorem dX6_byOthers_5 : decode cX6_byOthers 5 = .ok (.aload_n 0, 1) := by decide +kernel
theorem dX6_byOthers_6 : decode cX6_byOthers 6 = .ok (.getfield 12, 3) := by decide +kernel
theorem dX6_byOthers_9 : decode cX6_byOthers 9 = .ok (.getfield 92, 3) := by decide +kernel
theorem dX6_byOthers_12 : decode cX6_byOthers 12 = .ok (.if_icmp .ge 43, 3) := by decide +kernel
theorem dX6_byOthers_15 : decode cX6_byOthers 15 = .ok (.aload_n 0, 1) := by decide +kernel
theorem dX6_byOthers_16 : decode cX6_byOthers 16 = .ok (.getfield 22, 3) := by decide +kernel
theorem dX6_byOthers_19 : decode cX6_byOthers 19 = .ok (.aload_n 0, 1) := by decide +kernel
theorem dX6_byOthers_20 : decode cX6_byOthers 20 = .ok (.getfield 12, 3) := by decide +kernel
theorem dX6_byOthers_23 : decode cX6_byOthers 23 = .ok (.iload_n 2, 1) := by decide +kernel
theorem dX6_byOthers_24 : decode cX6_byOthers 24 = .ok (.iload_n 2, 1) := by decide +kernel
theorem dX6_byOthers_25 : decode cX6_byOthers 25 = .ok (.invokevirtual 207, 3) := by decide +kernel
theorem dX6_byOthers_28 : decode cX6_byOthers 28 = .ok (.aload_n 0, 1) := by decide +kernel
theorem dX6_byOthers_29 : decode cX6_byOthers 29 = .ok (.getfield 22, 3) := by decide +kernel
theorem dX6_byOthers_32 : decode cX6_byOthers 32 = .ok (.getfield 214, 3) := by decide +kernel
theorem dX6_byOthers_35 : decode cX6_byOthers 35 = .ok (.aload_n 0, 1) := by decide +kernel
theorem dX6_byOthers_36 : decode cX6_byOthers 36 = .ok (.getfield 12, 3) := by decide +kernel
theorem dX6_byOthers_39 : decode cX6_byOthers 39 = .ok (.iload_n 2, 1) := by decide +kernel
theorem dX6_byOthers_40 : decode cX6_byOthers 40 = .ok (.invokevirtual 115, 3) := by decide +kernel
theorem dX6_byOthers_43 : decode cX6_byOthers 43 = .ok (.if_icmp .ne 6, 3) := by decide +kernel
theorem dX6_byOthers_46 : decode cX6_byOthers 46 = .ok (.iinc 1 1, 3) := by decide +kernel
