theorem dX6_byOthers_49 : decode cX6_byOthers 49 = .ok (.iinc 2 1, 3) := by decide +kernel
theorem dX6_byOthers_52 : decode cX6_byOthers 52 = .ok (.goto (-48), 3) := by decide +kernel
theorem dX6_byOthers_55 : decode cX6_byOthers 55 = .ok (.iload_n 1, 1) := by decide +kernel
theorem dX6_byOthers_56 : decode cX6_byOthers 56 = .ok (.ireturn, 1) := by decide +kernel
set_option maxRecDepth 20000 in
theorem ggX6_bestRuling_X4_copyFrom_p0 : GoodIn wsX6_bestRuling [.code yX4_copyFrom cX4_copyFrom 2 none] := goodIn_r _ [7] (by decide +kernel) (by decide +kernel)
theorem ggX6_bestRuling_X4_copyFrom_p1 : GoodIn wsX6_bestRuling wsX4_copyFrom_r1 := goodIn_r _ [8, 9, 10, 11, 12, 13, 14, 15, 16, 17, 18, 19, 20, 21, 22, 23, 24, 25, 26, 27, 28, 29, 30, 31] (by decide +kernel) (by decide +kernel)
theorem ggX6_bestRuling_X4_copyFrom_p2 : GoodIn wsX6_bestRuling wsX4_copyFrom_r2 := goodIn_r _ [32, 33, 34] (by decide +kernel) (by decide +kernel)
theorem ggX6_bestRuling_X4_copyFrom_p3 : GoodIn wsX6_bestRuling wsX40 := goodIn_r _ [144, 145, 146, 147, 148, 149] (by decide +kernel) (by decide +kernel)
theorem ggX6_bestRuling_X4_copyFrom_p4 : GoodIn wsX6_bestRuling wsX00 := goodIn_r _ [150, 151, 152, 153, 154] (by decide +kernel) (by decide +kernel)
theorem ggX6_bestRuling_X4_copyFrom : GoodIn wsX6_bestRuling wsX4_copyFrom := (goodIn_c2 ggX6_bestRuling_X4_copyFrom_p0 (goodIn_app (goodIn_app (goodIn_app ggX6_bestRuling_X4_copyFrom_p1 ggX6_bestRuling_X4_copyFrom_p2) ggX6_bestRuling_X4_copyFrom_p3) ggX6_bestRuling_X4_copyFrom_p4))
set_option maxRecDepth 20000 in
theorem gX6_bestRuling_X4_copyFrom : GoodIn wsX6_bestRuling (wsV RX6 159 RX4 yX4_copyFrom wsX4_copyFrom) := goodIn_app (goodIn_of _ (by decide +kernel)) ggX6_bestRuling_X4_copyFrom
set_option maxRecDepth 20000 in
theorem ggX6_bestRuling_X4_clearHand : GoodIn wsX6_bestRuling wsX4_clearHand := goodIn_r _ [38, 8, 13, 39, 40, 41, 17, 42, 19, 22, 43, 25, 44, 144, 145, 146, 147, 148, 149, 150, 151, 152, 153, 154] (by decide +kernel) (by decide +kernel)
set_option maxRecDepth 20000 in
theorem gX6_bestRuling_X4_clearHand : GoodIn wsX6_bestRuling (wsV RX6 162 RX4 yX4_clearHand wsX4_clearHand) := goodIn_app (goodIn_of _ (by decide +kernel)) ggX6_bestRuling_X4_clearHand
set_option maxRecDepth 20000 in
theorem ggX6_bestRuling_X4_changeSetting_p0 : GoodIn wsX6_bestRuling [.code yX4_changeSetting cX4_changeSetting 4 (some .boolean)] := goodIn_r _ [48] (by decide +kernel) (by decide +kernel)
theorem ggX6_bestRuling_X4_changeSetting_p1 : GoodIn wsX6_bestRuling wsX4_changeSetting_r1 := goodIn_r _ [10, 12, 8, 49, 50, 51, 6, 52, 53, 54, 55, 17, 56, 57, 58, 29, 59, 60, 61, 62, 63, 19, 64, 25] (by decide +kernel) (by decide +kernel)
theorem ggX6_bestRuling_X4_changeSetting_p2 : GoodIn wsX6_bestRuling wsX4_changeSetting_r2 := goodIn_r _ [65, 66, 67, 68, 69, 20, 70, 71, 72, 73, 21, 74, 75, 76, 77, 78, 79, 80, 81, 82, 43, 44, 83, 84] (by decide +kernel) (by decide +kernel)
theorem ggX6_bestRuling_X4_changeSetting_p3 : GoodIn wsX6_bestRuling wsX4_changeSetting_r3 := goodIn_r _ [85, 86, 22, 87, 88, 89, 90, 23, 91, 92, 93, 94, 95, 96, 97, 98, 99, 100, 101] (by decide +kernel) (by decide +kernel)
theorem ggX6_bestRuling_X4_changeSetting_p4 : GoodIn wsX6_bestRuling wsX40 := goodIn_r _ [144, 145, 146, 147, 148, 149] (by decide +kernel) (by decide +kernel)
theorem ggX6_bestRuling_X4_changeSetting_p5 : GoodIn wsX6_bestRuling wsX00 := goodIn_r _ [150, 151, 152, 153, 154] (by decide +kernel) (by decide +kernel)
theorem ggX6_bestRuling_X4_changeSetting : GoodIn wsX6_bestRuling wsX4_changeSetting := (goodIn_c2 ggX6_bestRuling_X4_changeSetting_p0 (goodIn_app (goodIn_app (goodIn_app ggX6_bestRuling_X4_changeSetting_p1 (goodIn_app ggX6_bestRuling_X4_changeSetting_p2 ggX6_bestRuling_X4_changeSetting_p3)) ggX6_bestRuling_X4_changeSetting_p4) ggX6_bestRuling_X4_changeSetting_p5))
set_option maxRecDepth 20000 in
theorem gX6_bestRuling_X4_changeSetting : GoodIn wsX6_bestRuling (wsV RX6 190 RX4 yX4_changeSetting wsX4_changeSetting) := goodIn_app (goodIn_of _ (by decide +kernel)) ggX6_bestRuling_X4_changeSetting
set_option maxRecDepth 20000 in
theorem ggX6_bestRuling_X6_leastOfPairs_p0 : GoodIn wsX6_bestRuling [.code yX6_leastOfPairs cX6_leastOfPairs 4 (some .int)] := goodIn_r _ [105] (by decide +kernel) (by decide +kernel)
theorem ggX6_bestRuling_X6_leastOfPairs_p1 : GoodIn wsX6_bestRuling wsX6_leastOfPairs_r1 := goodIn_r _ [106, 107, 108, 109, 110, 111, 112, 113, 114, 115, 116, 117, 6, 118, 9, 64, 25, 65, 119, 120, 121, 122, 123, 124] (by decide +kernel) (by decide +kernel)
theorem ggX6_bestRuling_X6_leastOfPairs_p2 : GoodIn wsX6_bestRuling wsX6_leastOfPairs_r2 := goodIn_r _ [28, 29, 30, 125, 92, 93, 17, 94, 22, 43, 44, 126, 127, 128, 129, 23, 130, 131, 132, 133, 134, 135, 136, 81] (by decide +kernel) (by decide +kernel)
theorem ggX6_bestRuling_X6_leastOfPairs_p3 : GoodIn wsX6_bestRuling wsX6_leastOfPairs_r3 := goodIn_r _ [82, 137] (by decide +kernel) (by decide +kernel)
theorem ggX6_bestRuling_X6_leastOfPairs_p4 : GoodIn wsX6_bestRuling wsX60 := goodIn_r _ [138, 139, 140, 141, 142, 143] (by decide +kernel) (by decide +kernel)
theorem ggX6_bestRuling_X6_leastOfPairs_p5 : GoodIn wsX6_bestRuling wsX40 := goodIn_r _ [144, 145, 146, 147, 148, 149] (by decide +kernel) (by decide +kernel)
theorem ggX6_bestRuling_X6_leastOfPairs_p6 : GoodIn wsX6_bestRuling wsX20 := goodIn_r _ [155, 156, 157, 158, 159, 160] (by decide +kernel) (by decide +kernel)
theorem ggX6_bestRuling_X6_leastOfPairs_p7 : GoodIn wsX6_bestRuling wsX00 := goodIn_r _ [150, 151, 152, 153, 154] (by decide +kernel) (by decide +kernel)
theorem ggX6_bestRuling_X6_leastOfPairs : GoodIn wsX6_bestRuling wsX6_leastOfPairs := (goodIn_c2 ggX6_bestRuling_X6_leastOfPairs_p0 (goodIn_app (goodIn_app (goodIn_app (goodIn_app (goodIn_app ggX6_bestRuling_X6_leastOfPairs_p1 (goodIn_app ggX6_bestRuling_X6_leastOfPairs_p2 ggX6_bestRuling_X6_leastOfPairs_p3)) ggX6_bestRuling_X6_leastOfPairs_p4) ggX6_bestRuling_X6_leastOfPairs_p5) ggX6_bestRuling_X6_leastOfPairs_p6) ggX6_bestRuling_X6_leastOfPairs_p7))
set_option maxRecDepth 20000 in
theorem gX6_bestRuling_X6_leastOfPairs : GoodIn wsX6_bestRuling (wsV RX6 235 RX6 yX6_leastOfPairs wsX6_leastOfPairs) := goodIn_app (goodIn_of _ (by decide +kernel)) ggX6_bestRuling_X6_leastOfPairs
theorem dX6_bestRuling_0 : decode cX6_bestRuling 0 = .ok (.aload_n 0, 1) := by decide +kernel
theorem dX6_bestRuling_1 : decode cX6_bestRuling 1 = .ok (.getfield 16, 3) := by decide +kernel
theorem dX6_bestRuling_4 : decode cX6_bestRuling 4 = .ok (.aload_n 0, 1) := by decide +kernel
theorem dX6_bestRuling_5 : decode cX6_bestRuling 5 = .ok (.getfield 12, 3) := by decide +kernel
theorem dX6_bestRuling_8 : decode cX6_bestRuling 8 = .ok (.invokevirtual 159, 3) := by decide +kernel
theorem dX6_bestRuling_11 : decode cX6_bestRuling 11 = .ok (.aload_n 0, 1) := by decide +kernel
theorem dX6_bestRuling_12 : decode cX6_bestRuling 12 = .ok (.getfield 16, 3) := by decide +kernel
theorem dX6_bestRuling_15 : decode cX6_bestRuling 15 = .ok (.invokevirtual 162, 3) := by decide +kernel
theorem dX6_bestRuling_18 : decode cX6_bestRuling 18 = .ok (.iconst (-1), 1) := by decide +kernel
theorem dX6_bestRuling_19 : decode cX6_bestRuling 19 = .ok (.istore_n 1, 1) := by decide +kernel
theorem dX6_bestRuling_20 : decode cX6_bestRuling 20 = .ok (.iconst (-1), 1) := by decide +kernel
theorem dX6_bestRuling_21 : decode cX6_bestRuling 21 = .ok (.istore_n 2, 1) := by decide +kernel
theorem dX6_bestRuling_22 : decode cX6_bestRuling 22 = .ok (.iconst 5, 1) := by decide +kernel
theorem dX6_bestRuling_23 : decode cX6_bestRuling 23 = .ok (.istore_n 3, 1) := by decide +kernel
theorem dX6_bestRuling_24 : decode cX6_bestRuling 24 = .ok (.iload_n 3, 1) := by decide +kernel
theorem dX6_bestRuling_25 : decode cX6_bestRuling 25 = .ok (.bipush 20, 2) := by decide +kernel
theorem dX6_bestRuling_27 : decode cX6_bestRuling 27 = .ok (.if_icmp .gt 47, 3) := by decide +kernel
theorem dX6_bestRuling_30 : decode cX6_bestRuling 30 = .ok (.aload_n 0, 1) := by decide +kernel
theorem dX6_bestRuling_31 : decode cX6_bestRuling 31 = .ok (.getfield 16, 3) := by decide +kernel
theorem dX6_bestRuling_34 : decode cX6_bestRuling 34 = .ok (.iconst 0, 1) := by decide +kernel
theorem dX6_bestRuling_35 : decode cX6_bestRuling 35 = .ok (.iload_n 3, 1) := by decide +kernel
theorem dX6_bestRuling_36 : decode cX6_bestRuling 36 = .ok (.invokevirtual 190, 3) := by decide +kernel
theorem dX6_bestRuling_39 : decode cX6_bestRuling 39 = .ok (.ifCond .eq 15, 3) := by decide +kernel
theorem dX6_bestRuling_42 : decode cX6_bestRuling 42 = .ok (.aload_n 0, 1) := by decide +kernel
theorem dX6_bestRuling_43 : decode cX6_bestRuling 43 = .ok (.aload_n 0, 1) := by decide +kernel
theorem dX6_bestRuling_44 : decode cX6_bestRuling 44 = .ok (.getfield 16, 3) := by decide +kernel
theorem dX6_bestRuling_47 : decode cX6_bestRuling 47 = .ok (.iload_n 2, 1) := by decide +kernel
theorem dX6_bestRuling_48 : decode cX6_bestRuling 48 = .ok (.invokevirtual 235, 3) := by decide +kernel
theorem dX6_bestRuling_51 : decode cX6_bestRuling 51 = .ok (.goto 4, 3) := by decide +kernel
theorem dX6_bestRuling_54 : decode cX6_bestRuling 54 = .ok (.iconst (-1), 1) := by decide +kernel
theorem dX6_bestRuling_55 : decode cX6_bestRuling 55 = .ok (.istore 4, 2) := by decide +kernel
theorem dX6_bestRuling_57 : decode cX6_bestRuling 57 = .ok (.iload 4, 2) := by decide +kernel
theorem dX6_bestRuling_59 : decode cX6_bestRuling 59 = .ok (.iload_n 2, 1) := by decide +kernel
theorem dX6_bestRuling_60 : decode cX6_bestRuling 60 = .ok (.if_icmp .le 8, 3) := by decide +kernel
theorem dX6_bestRuling_63 : decode cX6_bestRuling 63 = .ok (.iload 4, 2) := by decide +kernel
theorem dX6_bestRuling_65 : decode cX6_bestRuling 65 = .ok (.istore_n 2, 1) := by decide +kernel
theorem dX6_bestRuling_66 : decode cX6_bestRuling 66 = .ok (.iload_n 3, 1) := by decide +kernel
theorem dX6_bestRuling_67 : decode cX6_bestRuling 67 = .ok (.istore_n 1, 1) := by decide +kernel
theorem dX6_bestRuling_68 : decode cX6_bestRuling 68 = .ok (.iinc 3 1, 3) := by decide +kernel
theorem dX6_bestRuling_71 : decode cX6_bestRuling 71 = .ok (.goto (-47), 3) := by decide +kernel
theorem dX6_bestRuling_74 : decode cX6_bestRuling 74 = .ok (.iload_n 1, 1) := by decide +kernel
theorem dX6_bestRuling_75 : decode cX6_bestRuling 75 = .ok (.ireturn, 1) := by decide +kernel
set_option maxRecDepth 20000 in
theorem ggX6_mirrored_X4_copyFrom_p0 : GoodIn wsX6_mirrored [.code yX4_copyFrom cX4_copyFrom 2 none] := goodIn_r _ [9] (by decide +kernel) (by decide +kernel)
theorem ggX6_mirrored_X4_copyFrom_p1 : GoodIn wsX6_mirrored wsX4_copyFrom_r1 := goodIn_r _ [10, 11, 12, 13, 14, 15, 16, 17, 18, 19, 20, 21, 22, 23, 24, 25, 26, 27, 28, 29, 30, 31, 32, 33] (by decide +kernel) (by decide +kernel)
theorem ggX6_mirrored_X4_copyFrom_p2 : GoodIn wsX6_mirrored wsX4_copyFrom_r2 := goodIn_r _ [34, 35, 36] (by decide +kernel) (by decide +kernel)
theorem ggX6_mirrored_X4_copyFrom_p3 : GoodIn wsX6_mirrored wsX40 := goodIn_r _ [155, 156, 157, 158, 159, 160] (by decide +kernel) (by decide +kernel)
theorem ggX6_mirrored_X4_copyFrom_p4 : GoodIn wsX6_mirrored wsX00 := goodIn_r _ [161, 162, 163, 164, 165] (by decide +kernel) (by decide +kernel)
theorem ggX6_mirrored_X4_copyFrom : GoodIn wsX6_mirrored wsX4_copyFrom := (goodIn_c2 ggX6_mirrored_X4_copyFrom_p0 (goodIn_app (goodIn_app (goodIn_app ggX6_mirrored_X4_copyFrom_p1 ggX6_mirrored_X4_copyFrom_p2) ggX6_mirrored_X4_copyFrom_p3) ggX6_mirrored_X4_copyFrom_p4))
set_option maxRecDepth 20000 in
theorem gX6_mirrored_X4_copyFrom : GoodIn wsX6_mirrored (wsV RX6 159 RX4 yX4_copyFrom wsX4_copyFrom) := goodIn_app (goodIn_of _ (by decide +kernel)) ggX6_mirrored_X4_copyFrom
set_option maxRecDepth 20000 in
theorem ggX6_mirrored_X4_mirrorHand_p0 : GoodIn wsX6_mirrored [.code yX4_mirrorHand cX4_mirrorHand 1 (some .boolean)] := goodIn_r _ [40] (by decide +kernel) (by decide +kernel)
theorem ggX6_mirrored_X4_mirrorHand_p1 : GoodIn wsX6_mirrored wsX4_mirrorHand_r1 := goodIn_r _ [10, 41, 42, 43, 19, 44, 45, 46, 47, 48, 21, 49, 27, 50, 51, 52, 53, 54, 22, 55, 56, 57, 58, 23] (by decide +kernel) (by decide +kernel)
theorem ggX6_mirrored_X4_mirrorHand_p2 : GoodIn wsX6_mirrored wsX4_mirrorHand_r2 := goodIn_r _ [59, 60, 61, 62, 63, 64, 65, 66, 67, 8, 68, 12, 69, 70, 71, 72, 73, 74, 31, 75, 76, 77, 78, 79] (by decide +kernel) (by decide +kernel)
theorem ggX6_mirrored_X4_mirrorHand_p3 : GoodIn wsX6_mirrored wsX4_mirrorHand_r3 := goodIn_r _ [80, 81, 82, 83, 84, 85, 86, 87, 88, 24, 89, 90, 91, 92, 25, 93, 94, 95, 96, 97, 98, 99, 100, 101] (by decide +kernel) (by decide +kernel)
theorem ggX6_mirrored_X4_mirrorHand_p4 : GoodIn wsX6_mirrored wsX4_mirrorHand_r4 := goodIn_r _ [102, 103] (by decide +kernel) (by decide +kernel)
theorem ggX6_mirrored_X4_mirrorHand_p5 : GoodIn wsX6_mirrored wsX40 := goodIn_r _ [155, 156, 157, 158, 159, 160] (by decide +kernel) (by decide +kernel)
theorem ggX6_mirrored_X4_mirrorHand_p6 : GoodIn wsX6_mirrored wsX00 := goodIn_r _ [161, 162, 163, 164, 165] (by decide +kernel) (by decide +kernel)
theorem ggX6_mirrored_X4_mirrorHand : GoodIn wsX6_mirrored wsX4_mirrorHand := (goodIn_c2 ggX6_mirrored_X4_mirrorHand_p0 (goodIn_app (goodIn_app (goodIn_app ggX6_mirrored_X4_mirrorHand_p1 (goodIn_app ggX6_mirrored_X4_mirrorHand_p2 (goodIn_app ggX6_mirrored_X4_mirrorHand_p3 ggX6_mirrored_X4_mirrorHand_p4))) ggX6_mirrored_X4_mirrorHand_p5) ggX6_mirrored_X4_mirrorHand_p6))
set_option maxRecDepth 20000 in
theorem gX6_mirrored_X4_mirrorHand : GoodIn wsX6_mirrored (wsV RX6 238 RX4 yX4_mirrorHand wsX4_mirrorHand) := goodIn_app (goodIn_of _ (by decide +kernel)) ggX6_mirrored_X4_mirrorHand
set_option maxRecDepth 20000 in
theorem ggX6_mirrored_X2_readFigure_p0 : GoodIn wsX6_mirrored [.code yX2_readFigure cX2_readFigure 6 none] := goodIn_r _ [108] (by decide +kernel) (by decide +kernel)
theorem ggX6_mirrored_X2_readFigure_p1 : GoodIn wsX6_mirrored wsX2_readFigure_r1 := goodIn_r _ [109, 110, 111, 112, 113, 114, 115, 116, 117, 118, 107, 119, 120, 121, 30, 31, 32, 122, 94, 95, 19, 96, 24, 49] (by decide +kernel) (by decide +kernel)
theorem ggX6_mirrored_X2_readFigure_p2 : GoodIn wsX6_mirrored wsX2_readFigure_r2 := goodIn_r _ [27, 50, 63, 64, 123, 124, 125, 126, 25, 127, 128, 129, 130, 131, 132, 133, 83, 84, 134, 66, 67, 8, 68, 12] (by decide +kernel) (by decide +kernel)
theorem ggX6_mirrored_X2_readFigure_p3 : GoodIn wsX6_mirrored wsX2_readFigure_r3 := goodIn_r _ [135, 136, 137, 138, 139, 140, 141, 142, 11] (by decide +kernel) (by decide +kernel)
theorem ggX6_mirrored_X2_readFigure_p4 : GoodIn wsX6_mirrored wsX20 := goodIn_r _ [149, 150, 151, 152, 153, 154] (by decide +kernel) (by decide +kernel)
theorem ggX6_mirrored_X2_readFigure_p5 : GoodIn wsX6_mirrored wsX40 := goodIn_r _ [155, 156, 157, 158, 159, 160] (by decide +kernel) (by decide +kernel)
theorem ggX6_mirrored_X2_readFigure_p6 : GoodIn wsX6_mirrored wsX00 := goodIn_r _ [161, 162, 163, 164, 165] (by decide +kernel) (by decide +kernel)
theorem ggX6_mirrored_X2_readFigure : GoodIn wsX6_mirrored wsX2_readFigure := (goodIn_c2 ggX6_mirrored_X2_readFigure_p0 (goodIn_app (goodIn_app (goodIn_app (goodIn_app ggX6_mirrored_X2_readFigure_p1 (goodIn_app ggX6_mirrored_X2_readFigure_p2 ggX6_mirrored_X2_readFigure_p3)) ggX6_mirrored_X2_readFigure_p4) ggX6_mirrored_X2_readFigure_p5) ggX6_mirrored_X2_readFigure_p6))
set_option maxRecDepth 20000 in
theorem gX6_mirrored_X2_readFigure : GoodIn wsX6_mirrored (wsV RX6 207 RX2 yX2_readFigure wsX2_readFigure) := goodIn_app (goodIn_of _ (by decide +kernel)) ggX6_mirrored_X2_readFigure
theorem dX6_mirrored_0 : decode cX6_mirrored 0 = .ok (.aload_n 0, 1) := by decide +kernel
theorem dX6_mirrored_1 : decode cX6_mirrored 1 = .ok (.getfield 16, 3) := by decide +kernel
theorem dX6_mirrored_4 : decode cX6_mirrored 4 = .ok (.aload_n 0, 1) := by decide +kernel
theorem dX6_mirrored_5 : decode cX6_mirrored 5 = .ok (.getfield 12, 3) := by decide +kernel
theorem dX6_mirrored_8 : decode cX6_mirrored 8 = .ok (.invokevirtual 159, 3) := by decide +kernel
theorem dX6_mirrored_11 : decode cX6_mirrored 11 = .ok (.aload_n 0, 1) := by decide +kernel
theorem dX6_mirrored_12 : decode cX6_mirrored 12 = .ok (.getfield 16, 3) := by decide +kernel
theorem dX6_mirrored_15 : decode cX6_mirrored 15 = .ok (.invokevirtual 238, 3) := by decide +kernel
theorem dX6_mirrored_18 : decode cX6_mirrored 18 = .ok (.ifCond .ne 5, 3) := by decide +kernel
theorem dX6_mirrored_21 : decode cX6_mirrored 21 = .ok (.iconst (-1), 1) := by decide +kernel
theorem dX6_mirrored_22 : decode cX6_mirrored 22 = .ok (.ireturn, 1) := by decide +kernel
theorem dX6_mirrored_23 : decode cX6_mirrored 23 = .ok (.aload_n 0, 1) := by decide +kernel
theorem dX6_mirrored_24 : decode cX6_mirrored 24 = .ok (.getfield 22, 3) := by decide +kernel
theorem dX6_mirrored_27 : decode cX6_mirrored 27 = .ok (.aload_n 0, 1) := by decide +kernel
theorem dX6_mirrored_28 : decode cX6_mirrored 28 = .ok (.getfield 16, 3) := by decide +kernel
theorem dX6_mirrored_31 : decode cX6_mirrored 31 = .ok (.bipush 16, 2) := by decide +kernel
theorem dX6_mirrored_33 : decode cX6_mirrored 33 = .ok (.iconst (-1), 1) := by decide +kernel
theorem dX6_mirrored_34 : decode cX6_mirrored 34 = .ok (.invokevirtual 207, 3) := by decide +kernel
theorem dX6_mirrored_37 : decode cX6_mirrored 37 = .ok (.aload_n 0, 1) := by decide +kernel
theorem dX6_mirrored_38 : decode cX6_mirrored 38 = .ok (.getfield 22, 3) := by decide +kernel
theorem dX6_mirrored_41 : decode cX6_mirrored 41 = .ok (.getfield 214, 3) := by decide +kernel
theorem dX6_mirrored_44 : decode cX6_mirrored 44 = .ok (.ireturn, 1) := by decide +kernel
set_option maxRecDepth 20000 in
theorem ggX6_runScript_X6_withoutGroups : GoodIn wsX6_runScript wsX6_withoutGroups := goodIn_r _ [9, 5] (by decide +kernel) (by decide +kernel)
set_option maxRecDepth 20000 in
theorem gX6_runScript_X6_withoutGroups : GoodIn wsX6_runScript (va_wsS RX6 244 yX6_withoutGroups wsX6_withoutGroups) := goodIn_app (goodIn_of _ (by decide +kernel)) ggX6_runScript_X6_withoutGroups
set_option maxRecDepth 20000 in
theorem ggX6_runScript_X4_copyFrom_p0 : GoodIn wsX6_runScript [.code yX4_copyFrom cX4_copyFrom 2 none] := goodIn_r _ [14] (by decide +kernel) (by decide +kernel)
theorem ggX6_runScript_X4_copyFrom_p1 : GoodIn wsX6_runScript wsX4_copyFrom_r1 := goodIn_r _ [15, 16, 17, 18, 19, 20, 21, 22, 23, 24, 25, 26, 27, 28, 29, 30, 31, 8, 32, 33, 34, 35, 36, 37] (by decide +kernel) (by decide +kernel)
theorem ggX6_runScript_X4_copyFrom_p2 : GoodIn wsX6_runScript wsX4_copyFrom_r2 := goodIn_r _ [38, 39, 40] (by decide +kernel) (by decide +kernel)
theorem ggX6_runScript_X4_copyFrom_p3 : GoodIn wsX6_runScript wsX40 := goodIn_r _ [237, 238, 239, 240, 241, 242] (by decide +kernel) (by decide +kernel)
theorem ggX6_runScript_X4_copyFrom_p4 : GoodIn wsX6_runScript wsX00 := goodIn_r _ [243, 244, 245, 246, 247] (by decide +kernel) (by decide +kernel)
theorem ggX6_runScript_X4_copyFrom : GoodIn wsX6_runScript wsX4_copyFrom := (goodIn_c2 ggX6_runScript_X4_copyFrom_p0 (goodIn_app (goodIn_app (goodIn_app ggX6_runScript_X4_copyFrom_p1 ggX6_runScript_X4_copyFrom_p2) ggX6_runScript_X4_copyFrom_p3) ggX6_runScript_X4_copyFrom_p4))
set_option maxRecDepth 20000 in
theorem gX6_runScript_X4_copyFrom : GoodIn wsX6_runScript (wsV RX6 159 RX4 yX4_copyFrom wsX4_copyFrom) := goodIn_app (goodIn_of _ (by decide +kernel)) ggX6_runScript_X4_copyFrom
set_option maxRecDepth 20000 in
theorem ggX6_runScript_X6_commandSucceeds_p0 : GoodIn wsX6_runScript [.code yX6_commandSucceeds cX6_commandSucceeds 7 (some .boolean)] := goodIn_r _ [44] (by decide +kernel) (by decide +kernel)
theorem ggX6_runScript_X6_commandSucceeds_p1 : GoodIn wsX6_runScript wsX6_commandSucceeds_r1 := goodIn_r _ [3, 45, 46, 47, 48, 49, 50, 51, 52, 13, 53, 20, 15, 54, 8, 55, 56, 57, 58, 59, 17, 60, 61, 62] (by decide +kernel) (by decide +kernel)
theorem ggX6_runScript_X6_commandSucceeds_p2 : GoodIn wsX6_runScript wsX6_commandSucceeds_r2 := goodIn_r _ [63, 64, 24, 65, 27, 66, 67, 68, 69, 26, 70, 71, 72, 73, 74, 75, 76, 77, 28, 78, 79, 80, 81, 29] (by decide +kernel) (by decide +kernel)
theorem ggX6_runScript_X6_commandSucceeds_p3 : GoodIn wsX6_runScript wsX6_commandSucceeds_r3 := goodIn_r _ [82, 83, 84, 85, 86, 87, 88, 89, 35, 90, 91, 92, 93, 94, 95, 96, 97, 98, 99, 100, 101, 102, 103, 104] (by decide +kernel) (by decide +kernel)
theorem ggX6_runScript_X6_commandSucceeds_p4 : GoodIn wsX6_runScript wsX6_commandSucceeds_r4 := goodIn_r _ [105, 106, 107, 30, 108, 109, 110, 111, 112, 113, 114, 115, 116, 117, 118, 119, 19, 16, 120, 121, 122, 123, 124, 125] (by decide +kernel) (by decide +kernel)
theorem ggX6_runScript_X6_commandSucceeds_p5 : GoodIn wsX6_runScript wsX6_commandSucceeds_r5 := goodIn_r _ [126, 127, 128, 129, 130, 131, 132, 133, 134, 135, 136, 137, 138, 139, 140, 141, 142, 143, 37, 38, 39, 40, 144, 145] (by decide +kernel) (by decide +kernel)
theorem ggX6_runScript_X6_commandSucceeds_p6 : GoodIn wsX6_runScript wsX6_commandSucceeds_r6 := goodIn_r _ [146, 147, 148, 149, 150, 151, 152, 153, 154, 155, 156, 157, 158, 159, 160, 161, 162, 163, 164, 165, 166, 167, 168, 169] (by decide +kernel) (by decide +kernel)
theorem ggX6_runScript_X6_commandSucceeds_p7 : GoodIn wsX6_runScript wsX6_commandSucceeds_r7 := goodIn_r _ [170, 171, 172, 173, 174, 175, 176, 177, 178, 179, 180, 181, 182, 183, 184, 185, 186, 187, 188, 189, 190, 191, 192, 193] (by decide +kernel) (by decide +kernel)
theorem ggX6_runScript_X6_commandSucceeds_p8 : GoodIn wsX6_runScript wsX6_commandSucceeds_r8 := goodIn_r _ [194, 195, 196, 197, 198, 199, 34, 36, 200, 201, 202, 203, 204, 205, 206, 207, 208, 209, 210, 211, 212, 213, 214, 215] (by decide +kernel) (by decide +kernel)
theorem ggX6_runScript_X6_commandSucceeds_p9 : GoodIn wsX6_runScript wsX6_commandSucceeds_r9 := goodIn_r _ [216, 217, 218, 219, 220, 221, 222, 223, 224, 225, 18, 226, 227, 228, 229, 230] (by decide +kernel) (by decide +kernel)
theorem ggX6_runScript_X6_commandSucceeds_p10 : GoodIn wsX6_runScript wsX60 := goodIn_r _ [231, 232, 233, 234, 235, 236] (by decide +kernel) (by decide +kernel)
theorem ggX6_runScript_X6_commandSucceeds_p11 : GoodIn wsX6_runScript wsX20 := goodIn_r _ [248, 249, 250, 251, 252, 253] (by decide +kernel) (by decide +kernel)
theorem ggX6_runScript_X6_commandSucceeds_p12 : GoodIn wsX6_runScript wsX40 := goodIn_r _ [237, 238, 239, 240, 241, 242] (by decide +kernel) (by decide +kernel)
theorem ggX6_runScript_X6_commandSucceeds_p13 : GoodIn wsX6_runScript wsX00 := goodIn_r _ [243, 244, 245, 246, 247] (by decide +kernel) (by decide +kernel)
theorem ggX6_runScript_X6_commandSucceeds : GoodIn wsX6_runScript wsX6_commandSucceeds := (goodIn_c2 ggX6_runScript_X6_commandSucceeds_p0 (goodIn_app (goodIn_app (goodIn_app (goodIn_app (goodIn_app ggX6_runScript_X6_commandSucceeds_p1 (goodIn_app ggX6_runScript_X6_commandSucceeds_p2 (goodIn_app ggX6_runScript_X6_commandSucceeds_p3 (goodIn_app ggX6_runScript_X6_commandSucceeds_p4 (goodIn_app ggX6_runScript_X6_commandSucceeds_p5 (goodIn_app ggX6_runScript_X6_commandSucceeds_p6 (goodIn_app ggX6_runScript_X6_commandSucceeds_p7 (goodIn_app ggX6_runScript_X6_commandSucceeds_p8 ggX6_runScript_X6_commandSucceeds_p9)))))))) ggX6_runScript_X6_commandSucceeds_p10) ggX6_runScript_X6_commandSucceeds_p11) ggX6_runScript_X6_commandSucceeds_p12) ggX6_runScript_X6_commandSucceeds_p13))
set_option maxRecDepth 20000 in
theorem gX6_runScript_X6_commandSucceeds : GoodIn wsX6_runScript (wsV RX6 252 RX6 yX6_commandSucceeds wsX6_commandSucceeds) := goodIn_app (goodIn_of _ (by decide +kernel)) ggX6_runScript_X6_commandSucceeds
theorem dX6_runScript_0 : decode cX6_runScript 0 = .ok (.iload_n 1, 1) := by decide +kernel
theorem dX6_runScript_1 : decode cX6_runScript 1 = .ok (.iconst 1, 1) := by decide +kernel
theorem dX6_runScript_2 : decode cX6_runScript 2 = .ok (.if_icmp .lt 8, 3) := by decide +kernel
theorem dX6_runScript_5 : decode cX6_runScript 5 = .ok (.iload_n 1, 1) := by decide +kernel
theorem dX6_runScript_6 : decode cX6_runScript 6 = .ok (.iconst 3, 1) := by decide +kernel
theorem dX6_runScript_7 : decode cX6_runScript 7 = .ok (.if_icmp .le 13, 3) := by decide +kernel
theorem dX6_runScript_10 : decode cX6_runScript 10 = .ok (.new 49, 3) := by decide +kernel
theorem dX6_runScript_13 : decode cX6_runScript 13 = .ok (.dup, 1) := by decide +kernel
theorem dX6_runScript_14 : decode cX6_runScript 14 = .ok (.ldc 242, 2) := by decide +kernel
theorem dX6_runScript_16 : decode cX6_runScript 16 = .ok (.invokespecial 53, 3) := by decide +kernel
theorem dX6_runScript_19 : decode cX6_runScript 19 = .ok (.athrow, 1) := by decide +kernel
theorem dX6_runScript_20 : decode cX6_runScript 20 = .ok (.lload_n 2, 1) := by decide +kernel
theorem dX6_runScript_21 : decode cX6_runScript 21 = .ok (.lconst 0, 1) := by decide +kernel
theorem dX6_runScript_22 : decode cX6_runScript 22 = .ok (.lcmp, 1) := by decide +kernel
theorem dX6_runScript_23 : decode cX6_runScript 23 = .ok (.ifCond .lt 13, 3) := by decide +kernel
theorem dX6_runScript_26 : decode cX6_runScript 26 = .ok (.lload_n 2, 1) := by decide +kernel
theorem dX6_runScript_27 : decode cX6_runScript 27 = .ok (.iload_n 1, 1) := by decide +kernel
theorem dX6_runScript_28 : decode cX6_runScript 28 = .ok (.invokestatic 244, 3) := by decide +kernel
theorem dX6_runScript_31 : decode cX6_runScript 31 = .ok (.lconst 0, 1) := by decide +kernel
theorem dX6_runScript_32 : decode cX6_runScript 32 = .ok (.lcmp, 1) := by decide +kernel
theorem dX6_runScript_33 : decode cX6_runScript 33 = .ok (.ifCond .eq 13, 3) := by decide +kernel
theorem dX6_runScript_36 : decode cX6_runScript 36 = .ok (.new 49, 3) := by decide +kernel
theorem dX6_runScript_39 : decode cX6_runScript 39 = .ok (.dup, 1) := by decide +kernel
theorem dX6_runScript_40 : decode cX6_runScript 40 = .ok (.ldc 248, 2) := by decide +kernel
theorem dX6_runScript_42 : decode cX6_runScript 42 = .ok (.invokespecial 53, 3) := by decide +kernel
theorem dX6_runScript_45 : decode cX6_runScript 45 = .ok (.athrow, 1) := by decide +kernel
theorem dX6_runScript_46 : decode cX6_runScript 46 = .ok (.aload_n 0, 1) := by decide +kernel
theorem dX6_runScript_47 : decode cX6_runScript 47 = .ok (.getfield 16, 3) := by decide +kernel
theorem dX6_runScript_50 : decode cX6_runScript 50 = .ok (.aload_n 0, 1) := by decide +kernel
theorem dX6_runScript_51 : decode cX6_runScript 51 = .ok (.getfield 12, 3) := by decide +kernel
theorem dX6_runScript_54 : decode cX6_runScript 54 = .ok (.invokevirtual 159, 3) := by decide +kernel
theorem dX6_runScript_57 : decode cX6_runScript 57 = .ok (.iconst 0, 1) := by decide +kernel
theorem dX6_runScript_58 : decode cX6_runScript 58 = .ok (.istore 4, 2) := by decide +kernel
theorem dX6_runScript_60 : decode cX6_runScript 60 = .ok (.iload 4, 2) := by decide +kernel
theorem dX6_runScript_62 : decode cX6_runScript 62 = .ok (.iload_n 1, 1) := by decide +kernel
theorem dX6_runScript_63 : decode cX6_runScript 63 = .ok (.if_icmp .ge 34, 3) := by decide +kernel
theorem dX6_runScript_66 : decode cX6_runScript 66 = .ok (.aload_n 0, 1) := by decide +kernel
theorem dX6_runScript_67 : decode cX6_runScript 67 = .ok (.lload_n 2, 1) := by decide +kernel
theorem dX6_runScript_68 : decode cX6_runScript 68 = .ok (.iload_n 1, 1) := by decide +kernel
theorem dX6_runScript_69 : decode cX6_runScript 69 = .ok (.iconst 1, 1) := by decide +kernel
theorem dX6_runScript_70 : decode cX6_runScript 70 = .ok (.isub, 1) := by decide +kernel
theorem dX6_runScript_71 : decode cX6_runScript 71 = .ok (.iload 4, 2) := by decide +kernel
theorem dX6_runScript_73 : decode cX6_runScript 73 = .ok (.isub, 1) := by decide +kernel
theorem dX6_runScript_74 : decode cX6_runScript 74 = .ok (.invokestatic 244, 3) := by decide +kernel
theorem dX6_runScript_77 : decode cX6_runScript 77 = .ok (.ldc2_w 250, 3) := by decide +kernel
theorem dX6_runScript_80 : decode cX6_runScript 80 = .ok (.lrem, 1) := by decide +kernel
theorem dX6_runScript_81 : decode cX6_runScript 81 = .ok (.l2i, 1) := by decide +kernel
theorem dX6_runScript_82 : decode cX6_runScript 82 = .ok (.invokevirtual 252, 3) := by decide +kernel
theorem dX6_runScript_85 : decode cX6_runScript 85 = .ok (.ifCond .ne 6, 3) := by decide +kernel
theorem dX6_runScript_88 : decode cX6_runScript 88 = .ok (.iload 4, 2) := by decide +kernel
theorem dX6_runScript_90 : decode cX6_runScript 90 = .ok (.ireturn, 1) := by decide +kernel
theorem dX6_runScript_91 : decode cX6_runScript 91 = .ok (.iinc 4 1, 3) := by decide +kernel
theorem dX6_runScript_94 : decode cX6_runScript 94 = .ok (.goto (-34), 3) := by decide +kernel
theorem dX6_runScript_97 : decode cX6_runScript 97 = .ok (.iconst (-1), 1) := by decide +kernel
theorem dX6_runScript_98 : decode cX6_runScript 98 = .ok (.ireturn, 1) := by decide +kernel
set_option maxRecDepth 20000 in
theorem ggX6_simulate_X4_copyFrom_p0 : GoodIn wsX6_simulate [.code yX4_copyFrom cX4_copyFrom 2 none] := goodIn_r _ [12] (by decide +kernel) (by decide +kernel)
theorem ggX6_simulate_X4_copyFrom_p1 : GoodIn wsX6_simulate wsX4_copyFrom_r1 := goodIn_r _ [13, 14, 15, 16, 17, 18, 19, 20, 21, 22, 23, 24, 25, 26, 27, 28, 29, 30, 31, 32, 33, 34, 35, 36] (by decide +kernel) (by decide +kernel)
theorem ggX6_simulate_X4_copyFrom_p2 : GoodIn wsX6_simulate wsX4_copyFrom_r2 := goodIn_r _ [37, 38, 39] (by decide +kernel) (by decide +kernel)
theorem ggX6_simulate_X4_copyFrom_p3 : GoodIn wsX6_simulate wsX40 := goodIn_r _ [208, 209, 210, 211, 212, 213] (by decide +kernel) (by decide +kernel)
theorem ggX6_simulate_X4_copyFrom_p4 : GoodIn wsX6_simulate wsX00 := goodIn_r _ [214, 215, 216, 217, 218] (by decide +kernel) (by decide +kernel)
theorem ggX6_simulate_X4_copyFrom : GoodIn wsX6_simulate wsX4_copyFrom := (goodIn_c2 ggX6_simulate_X4_copyFrom_p0 (goodIn_app (goodIn_app (goodIn_app ggX6_simulate_X4_copyFrom_p1 ggX6_simulate_X4_copyFrom_p2) ggX6_simulate_X4_copyFrom_p3) ggX6_simulate_X4_copyFrom_p4))
set_option maxRecDepth 20000 in
theorem gX6_simulate_X4_copyFrom : GoodIn wsX6_simulate (wsV RX6 159 RX4 yX4_copyFrom wsX4_copyFrom) := goodIn_app (goodIn_of _ (by decide +kernel)) ggX6_simulate_X4_copyFrom
set_option maxRecDepth 20000 in
theorem ggX6_simulate_X4_outcomesOf : GoodIn wsX6_simulate wsX4_outcomesOf := goodIn_r _ [43, 44, 45, 46, 11, 47, 16, 48, 30, 49, 208, 209, 210, 211, 212, 213] (by decide +kernel) (by decide +kernel)
set_option maxRecDepth 20000 in
theorem gX6_simulate_X4_outcomesOf : GoodIn wsX6_simulate (wsV RX6 95 RX4 yX4_outcomesOf wsX4_outcomesOf) := goodIn_app (goodIn_of _ (by decide +kernel)) ggX6_simulate_X4_outcomesOf
set_option maxRecDepth 20000 in
theorem ggX6_simulate_X6_takeTurn_p0 : GoodIn wsX6_simulate [.code yX6_takeTurn cX6_takeTurn 2 none] := goodIn_r _ [53] (by decide +kernel) (by decide +kernel)
theorem ggX6_simulate_X6_takeTurn_p1 : GoodIn wsX6_simulate wsX6_takeTurn_r1 := goodIn_r _ [3, 54, 55, 56, 57, 11, 58, 13, 17, 14, 59, 60, 61, 22, 62, 24, 48, 30, 49, 63, 64, 65, 66, 67] (by decide +kernel) (by decide +kernel)
theorem ggX6_simulate_X6_takeTurn_p2 : GoodIn wsX6_simulate wsX6_takeTurn_r2 := goodIn_r _ [68, 69, 70, 71, 72, 73, 74, 75, 76, 77, 78, 27, 79, 80, 81, 82, 28, 83, 84, 85, 86, 25, 26, 87] (by decide +kernel) (by decide +kernel)
theorem ggX6_simulate_X6_takeTurn_p3 : GoodIn wsX6_simulate wsX6_takeTurn_r3 := goodIn_r _ [88, 36, 37, 38, 39, 89, 90, 91, 92, 93, 94, 18, 95, 96, 97, 98, 99, 100, 101, 102, 103, 104, 105, 106] (by decide +kernel) (by decide +kernel)
theorem ggX6_simulate_X6_takeTurn_p4 : GoodIn wsX6_simulate wsX6_takeTurn_r4 := goodIn_r _ [107, 108, 109, 110, 111, 112, 113, 114, 115, 116, 117, 118, 119, 120, 121, 122, 123, 124, 125, 33, 34, 35, 126, 127] (by decide +kernel) (by decide +kernel)
theorem ggX6_simulate_X6_takeTurn_p5 : GoodIn wsX6_simulate wsX6_takeTurn_r5 := goodIn_r _ [128, 129, 130, 131, 132, 133, 134, 135, 136, 137, 138, 139, 140, 15, 141, 142, 143, 144, 145, 146, 147, 148, 149, 16] (by decide +kernel) (by decide +kernel)
theorem ggX6_simulate_X6_takeTurn_p6 : GoodIn wsX6_simulate wsX6_takeTurn_r6 := goodIn_r _ [44, 45, 46, 47, 150, 151, 152, 153, 154, 155, 156, 157, 158, 159, 160, 161, 162, 163, 164, 165, 166, 167, 168, 169] (by decide +kernel) (by decide +kernel)
theorem ggX6_simulate_X6_takeTurn_p7 : GoodIn wsX6_simulate wsX6_takeTurn_r7 := goodIn_r _ [170, 171, 172, 173, 174, 175, 176, 177, 178, 179, 180, 181, 182, 183, 184, 185, 186, 187, 188, 189, 190, 191, 192, 193] (by decide +kernel) (by decide +kernel)
theorem ggX6_simulate_X6_takeTurn_p8 : GoodIn wsX6_simulate wsX6_takeTurn_r8 := goodIn_r _ [194, 195, 196, 197, 198, 199, 200, 201] (by decide +kernel) (by decide +kernel)
theorem ggX6_simulate_X6_takeTurn_p9 : GoodIn wsX6_simulate wsX60 := goodIn_r _ [202, 203, 204, 205, 206, 207] (by decide +kernel) (by decide +kernel)
theorem ggX6_simulate_X6_takeTurn_p10 : GoodIn wsX6_simulate wsX40 := goodIn_r _ [208, 209, 210, 211, 212, 213] (by decide +kernel) (by decide +kernel)
theorem ggX6_simulate_X6_takeTurn_p11 : GoodIn wsX6_simulate wsX00 := goodIn_r _ [214, 215, 216, 217, 218] (by decide +kernel) (by decide +kernel)
theorem ggX6_simulate_X6_takeTurn_p12 : GoodIn wsX6_simulate wsX20 := goodIn_r _ [219, 220, 221, 222, 223, 224] (by decide +kernel) (by decide +kernel)
theorem ggX6_simulate_X6_takeTurn : GoodIn wsX6_simulate wsX6_takeTurn := (goodIn_c2 ggX6_simulate_X6_takeTurn_p0 (goodIn_app (goodIn_app (goodIn_app (goodIn_app (goodIn_app ggX6_simulate_X6_takeTurn_p1 (goodIn_app ggX6_simulate_X6_takeTurn_p2 (goodIn_app ggX6_simulate_X6_takeTurn_p3 (goodIn_app ggX6_simulate_X6_takeTurn_p4 (goodIn_app ggX6_simulate_X6_takeTurn_p5 (goodIn_app ggX6_simulate_X6_takeTurn_p6 (goodIn_app ggX6_simulate_X6_takeTurn_p7 ggX6_simulate_X6_takeTurn_p8))))))) ggX6_simulate_X6_takeTurn_p9) ggX6_simulate_X6_takeTurn_p10) ggX6_simulate_X6_takeTurn_p11) ggX6_simulate_X6_takeTurn_p12))
set_option maxRecDepth 20000 in
theorem gX6_simulate_X6_takeTurn : GoodIn wsX6_simulate (wsV RX6 261 RX6 yX6_takeTurn wsX6_takeTurn) := goodIn_app (goodIn_of _ (by decide +kernel)) ggX6_simulate_X6_takeTurn
theorem dX6_simulate_0 : decode cX6_simulate 0 = .ok (.iload_n 3, 1) := by decide +kernel
theorem dX6_simulate_1 : decode cX6_simulate 1 = .ok (.iconst 1, 1) := by decide +kernel
theorem dX6_simulate_2 : decode cX6_simulate 2 = .ok (.if_icmp .lt 9, 3) := by decide +kernel
theorem dX6_simulate_5 : decode cX6_simulate 5 = .ok (.iload_n 3, 1) := by decide +kernel
theorem dX6_simulate_6 : decode cX6_simulate 6 = .ok (.bipush 99, 2) := by decide +kernel
theorem dX6_simulate_8 : decode cX6_simulate 8 = .ok (.if_icmp .le 13, 3) := by decide +kernel
theorem dX6_simulate_11 : decode cX6_simulate 11 = .ok (.new 49, 3) := by decide +kernel
theorem dX6_simulate_14 : decode cX6_simulate 14 = .ok (.dup, 1) := by decide +kernel
theorem dX6_simulate_15 : decode cX6_simulate 15 = .ok (.ldc 255, 2) := by decide +kernel
theorem dX6_simulate_17 : decode cX6_simulate 17 = .ok (.invokespecial 53, 3) := by decide +kernel
theorem dX6_simulate_20 : decode cX6_simulate 20 = .ok (.athrow, 1) := by decide +kernel
theorem dX6_simulate_21 : decode cX6_simulate 21 = .ok (.aload_n 0, 1) := by decide +kernel
theorem dX6_simulate_22 : decode cX6_simulate 22 = .ok (.getfield 16, 3) := by decide +kernel
theorem dX6_simulate_25 : decode cX6_simulate 25 = .ok (.aload_n 0, 1) := by decide +kernel
theorem dX6_simulate_26 : decode cX6_simulate 26 = .ok (.getfield 12, 3) := by decide +kernel
theorem dX6_simulate_29 : decode cX6_simulate 29 = .ok (.invokevirtual 159, 3) := by decide +kernel
theorem dX6_simulate_32 : decode cX6_simulate 32 = .ok (.aload_n 0, 1) := by decide +kernel
theorem dX6_simulate_33 : decode cX6_simulate 33 = .ok (.getfield 16, 3) := by decide +kernel
theorem dX6_simulate_36 : decode cX6_simulate 36 = .ok (.iconst 0, 1) := by decide +kernel
theorem dX6_simulate_37 : decode cX6_simulate 37 = .ok (.invokevirtual 95, 3) := by decide +kernel
theorem dX6_simulate_40 : decode cX6_simulate 40 = .ok (.istore 4, 2) := by decide +kernel
theorem dX6_simulate_42 : decode cX6_simulate 42 = .ok (.lload_n 1, 1) := by decide +kernel
theorem dX6_simulate_43 : decode cX6_simulate 43 = .ok (.lstore 5, 2) := by decide +kernel
theorem dX6_simulate_45 : decode cX6_simulate 45 = .ok (.iconst 0, 1) := by decide +kernel
theorem dX6_simulate_46 : decode cX6_simulate 46 = .ok (.istore 7, 2) := by decide +kernel
theorem dX6_simulate_48 : decode cX6_simulate 48 = .ok (.iload 7, 2) := by decide +kernel
theorem dX6_simulate_50 : decode cX6_simulate 50 = .ok (.iload_n 3, 1) := by decide +kernel
theorem dX6_simulate_51 : decode cX6_simulate 51 = .ok (.if_icmp .ge 31, 3) := by decide +kernel
theorem dX6_simulate_54 : decode cX6_simulate 54 = .ok (.lload 5, 2) := by decide +kernel
theorem dX6_simulate_56 : decode cX6_simulate 56 = .ok (.ldc2_w 257, 3) := by decide +kernel
theorem dX6_simulate_59 : decode cX6_simulate 59 = .ok (.lmul, 1) := by decide +kernel
theorem dX6_simulate_60 : decode cX6_simulate 60 = .ok (.ldc2_w 259, 3) := by decide +kernel
theorem dX6_simulate_63 : decode cX6_simulate 63 = .ok (.ladd, 1) := by decide +kernel
theorem dX6_simulate_64 : decode cX6_simulate 64 = .ok (.lstore 5, 2) := by decide +kernel
theorem dX6_simulate_66 : decode cX6_simulate 66 = .ok (.aload_n 0, 1) := by decide +kernel
theorem dX6_simulate_67 : decode cX6_simulate 67 = .ok (.lload 5, 2) := by decide +kernel
theorem dX6_simulate_69 : decode cX6_simulate 69 = .ok (.bipush 33, 2) := by decide +kernel
theorem dX6_simulate_71 : decode cX6_simulate 71 = .ok (.lushr, 1) := by decide +kernel
theorem dX6_simulate_72 : decode cX6_simulate 72 = .ok (.l2i, 1) := by decide +kernel
theorem dX6_simulate_73 : decode cX6_simulate 73 = .ok (.invokevirtual 261, 3) := by decide +kernel
theorem dX6_simulate_76 : decode cX6_simulate 76 = .ok (.iinc 7 1, 3) := by decide +kernel
theorem dX6_simulate_79 : decode cX6_simulate 79 = .ok (.goto (-31), 3) := by decide +kernel
theorem dX6_simulate_82 : decode cX6_simulate 82 = .ok (.bipush 100, 2) := by decide +kernel
theorem dX6_simulate_84 : decode cX6_simulate 84 = .ok (.aload_n 0, 1) := by decide +kernel
theorem dX6_simulate_85 : decode cX6_simulate 85 = .ok (.getfield 16, 3) := by decide +kernel
theorem dX6_simulate_88 : decode cX6_simulate 88 = .ok (.getfield 92, 3) := by decide +kernel
theorem dX6_simulate_91 : decode cX6_simulate 91 = .ok (.imul, 1) := by decide +kernel
theorem dX6_simulate_92 : decode cX6_simulate 92 = .ok (.aload_n 0, 1) := by decide +kernel
theorem dX6_simulate_93 : decode cX6_simulate 93 = .ok (.getfield 16, 3) := by decide +kernel
theorem dX6_simulate_96 : decode cX6_simulate 96 = .ok (.iconst 0, 1) := by decide +kernel
theorem dX6_simulate_97 : decode cX6_simulate 97 = .ok (.invokevirtual 95, 3) := by decide +kernel
theorem dX6_simulate_100 : decode cX6_simulate 100 = .ok (.iadd, 1) := by decide +kernel
theorem dX6_simulate_101 : decode cX6_simulate 101 = .ok (.iload 4, 2) := by decide +kernel
theorem dX6_simulate_103 : decode cX6_simulate 103 = .ok (.isub, 1) := by decide +kernel
theorem dX6_simulate_104 : decode cX6_simulate 104 = .ok (.ireturn, 1) := by decide +kernel
set_option maxRecDepth 20000 in
theorem ggX6_save_X3_keepCopy_p0 : GoodIn wsX6_save [.code yX3_keepCopy cX3_keepCopy 4 none] := goodIn_r _ [10] (by decide +kernel) (by decide +kernel)
theorem ggX6_save_X3_keepCopy_p1 : GoodIn wsX6_save wsX3_keepCopy_r1 := goodIn_r _ [11, 12, 13, 14, 15, 16, 17, 18, 19, 20, 21, 22, 23, 24, 25, 26, 27, 28, 29, 30, 31, 32, 33, 34] (by decide +kernel) (by decide +kernel)
theorem ggX6_save_X3_keepCopy_p2 : GoodIn wsX6_save wsX3_keepCopy_r2 := goodIn_r _ [35, 36, 37, 38, 39, 40, 41, 42, 43, 44, 45, 46, 47, 48, 49, 50, 51, 52, 53, 54, 55, 56] (by decide +kernel) (by decide +kernel)
theorem ggX6_save_X3_keepCopy_p3 : GoodIn wsX6_save wsX30 := goodIn_r _ [69] (by decide +kernel) (by decide +kernel)
theorem ggX6_save_X3_keepCopy_p4 : GoodIn wsX6_save wsX40 := goodIn_r _ [63, 64, 65, 66, 67, 68] (by decide +kernel) (by decide +kernel)
theorem ggX6_save_X3_keepCopy_p5 : GoodIn wsX6_save wsX00 := goodIn_r _ [70, 71, 72, 73, 74] (by decide +kernel) (by decide +kernel)
theorem ggX6_save_X3_keepCopy : GoodIn wsX6_save wsX3_keepCopy := (goodIn_c2 ggX6_save_X3_keepCopy_p0 (goodIn_app (goodIn_app (goodIn_app (goodIn_app ggX6_save_X3_keepCopy_p1 ggX6_save_X3_keepCopy_p2) ggX6_save_X3_keepCopy_p3) ggX6_save_X3_keepCopy_p4) ggX6_save_X3_keepCopy_p5))
set_option maxRecDepth 20000 in
theorem gX6_save_X3_keepCopy : GoodIn wsX6_save (wsV RX6 266 RX3 yX3_keepCopy wsX3_keepCopy) := goodIn_app (goodIn_of _ (by decide +kernel)) ggX6_save_X3_keepCopy
theorem dX6_save_0 : decode cX6_save 0 = .ok (.iload_n 1, 1) := by decide +kernel
theorem dX6_save_1 : decode cX6_save 1 = .ok (.ifCond .lt 8, 3) := by decide +kernel
theorem dX6_save_4 : decode cX6_save 4 = .ok (.iload_n 1, 1) := by decide +kernel
theorem dX6_save_5 : decode cX6_save 5 = .ok (.iconst 2, 1) := by decide +kernel
theorem dX6_save_6 : decode cX6_save 6 = .ok (.if_icmp .lt 14, 3) := by decide +kernel
theorem dX6_save_9 : decode cX6_save 9 = .ok (.new 110, 3) := by decide +kernel
theorem dX6_save_12 : decode cX6_save 12 = .ok (.dup, 1) := by decide +kernel
theorem dX6_save_13 : decode cX6_save 13 = .ok (.ldc_w 264, 3) := by decide +kernel
theorem dX6_save_16 : decode cX6_save 16 = .ok (.invokespecial 114, 3) := by decide +kernel
theorem dX6_save_19 : decode cX6_save 19 = .ok (.athrow, 1) := by decide +kernel
theorem dX6_save_20 : decode cX6_save 20 = .ok (.aload_n 0, 1) := by decide +kernel
theorem dX6_save_21 : decode cX6_save 21 = .ok (.getfield 45, 3) := by decide +kernel
theorem dX6_save_24 : decode cX6_save 24 = .ok (.iload_n 1, 1) := by decide +kernel
theorem dX6_save_25 : decode cX6_save 25 = .ok (.aload_n 0, 1) := by decide +kernel
theorem dX6_save_26 : decode cX6_save 26 = .ok (.getfield 12, 3) := by decide +kernel
theorem dX6_save_29 : decode cX6_save 29 = .ok (.invokevirtual 266, 3) := by decide +kernel
theorem dX6_save_32 : decode cX6_save 32 = .ok (.aload_n 0, 1) := by decide +kernel
theorem dX6_save_33 : decode cX6_save 33 = .ok (.getfield 12, 3) := by decide +kernel
theorem dX6_save_36 : decode cX6_save 36 = .ok (.getfield 92, 3) := by decide +kernel
theorem dX6_save_39 : decode cX6_save 39 = .ok (.ireturn, 1) := by decide +kernel
set_option maxRecDepth 20000 in
theorem ggX6_restore_X3_copyAt : GoodIn wsX6_restore wsX3_copyAt := goodIn_r _ [13, 14, 65] (by decide +kernel) (by decide +kernel)
set_option maxRecDepth 20000 in
theorem gX6_restore_X3_copyAt : GoodIn wsX6_restore (wsV RX6 270 RX3 yX3_copyAt wsX3_copyAt) := goodIn_app (goodIn_of _ (by decide +kernel)) ggX6_restore_X3_copyAt
set_option maxRecDepth 20000 in
theorem ggX6_restore_X4_copyFrom_p0 : GoodIn wsX6_restore [.code yX4_copyFrom cX4_copyFrom 2 none] := goodIn_r _ [19] (by decide +kernel) (by decide +kernel)
theorem ggX6_restore_X4_copyFrom_p1 : GoodIn wsX6_restore wsX4_copyFrom_r1 := goodIn_r _ [20, 21, 22, 23, 24, 25, 26, 27, 28, 29, 30, 31, 32, 33, 34, 35, 36, 37, 38, 39, 40, 41, 42, 43] (by decide +kernel) (by decide +kernel)
theorem ggX6_restore_X4_copyFrom_p2 : GoodIn wsX6_restore wsX4_copyFrom_r2 := goodIn_r _ [44, 45, 46] (by decide +kernel) (by decide +kernel)
theorem ggX6_restore_X4_copyFrom_p3 : GoodIn wsX6_restore wsX40 := goodIn_r _ [59, 60, 61, 62, 63, 64] (by decide +kernel) (by decide +kernel)
theorem ggX6_restore_X4_copyFrom_p4 : GoodIn wsX6_restore wsX00 := goodIn_r _ [66, 67, 68, 69, 70] (by decide +kernel) (by decide +kernel)
theorem ggX6_restore_X4_copyFrom : GoodIn wsX6_restore wsX4_copyFrom := (goodIn_c2 ggX6_restore_X4_copyFrom_p0 (goodIn_app (goodIn_app (goodIn_app ggX6_restore_X4_copyFrom_p1 ggX6_restore_X4_copyFrom_p2) ggX6_restore_X4_copyFrom_p3) ggX6_restore_X4_copyFrom_p4))
set_option maxRecDepth 20000 in
theorem gX6_restore_X4_copyFrom : GoodIn wsX6_restore (wsV RX6 159 RX4 yX4_copyFrom wsX4_copyFrom) := goodIn_app (goodIn_of _ (by decide +kernel)) ggX6_restore_X4_copyFrom
set_option maxRecDepth 20000 in
theorem ggX6_restore_X1_forgetAll : GoodIn wsX6_restore wsX1_forgetAll := goodIn_r _ [51, 52, 71, 72, 73] (by decide +kernel) (by decide +kernel)
set_option maxRecDepth 20000 in
theorem gX6_restore_X1_forgetAll : GoodIn wsX6_restore (wsV RX6 276 RX1 yX1_forgetAll wsX1_forgetAll) := goodIn_app (goodIn_of _ (by decide +kernel)) ggX6_restore_X1_forgetAll
theorem dX6_restore_0 : decode cX6_restore 0 = .ok (.iload_n 1, 1) := by decide +kernel
theorem dX6_restore_1 : decode cX6_restore 1 = .ok (.ifCond .lt 8, 3) := by decide +kernel
theorem dX6_restore_4 : decode cX6_restore 4 = .ok (.iload_n 1, 1) := by decide +kernel
theorem dX6_restore_5 : decode cX6_restore 5 = .ok (.iconst 2, 1) := by decide +kernel
theorem dX6_restore_6 : decode cX6_restore 6 = .ok (.if_icmp .lt 14, 3) := by decide +kernel
theorem dX6_restore_9 : decode cX6_restore 9 = .ok (.new 110, 3) := by decide +kernel
theorem dX6_restore_12 : decode cX6_restore 12 = .ok (.dup, 1) := by decide +kernel
theorem dX6_restore_13 : decode cX6_restore 13 = .ok (.ldc_w 264, 3) := by decide +kernel
theorem dX6_restore_16 : decode cX6_restore 16 = .ok (.invokespecial 114, 3) := by decide +kernel
theorem dX6_restore_19 : decode cX6_restore 19 = .ok (.athrow, 1) := by decide +kernel
theorem dX6_restore_20 : decode cX6_restore 20 = .ok (.aload_n 0, 1) := by decide +kernel
theorem dX6_restore_21 : decode cX6_restore 21 = .ok (.getfield 45, 3) := by decide +kernel
theorem dX6_restore_24 : decode cX6_restore 24 = .ok (.iload_n 1, 1) := by decide +kernel
theorem dX6_restore_25 : decode cX6_restore 25 = .ok (.invokevirtual 270, 3) := by decide +kernel
theorem dX6_restore_28 : decode cX6_restore 28 = .ok (.astore_n 2, 1) := by decide +kernel
theorem dX6_restore_29 : decode cX6_restore 29 = .ok (.aload_n 2, 1) := by decide +kernel
theorem dX6_restore_30 : decode cX6_restore 30 = .ok (.ifnonnull 14, 3) := by decide +kernel
theorem dX6_restore_33 : decode cX6_restore 33 = .ok (.new 60, 3) := by decide +kernel
theorem dX6_restore_36 : decode cX6_restore 36 = .ok (.dup, 1) := by decide +kernel
theorem dX6_restore_37 : decode cX6_restore 37 = .ok (.ldc_w 274, 3) := by decide +kernel
theorem dX6_restore_40 : decode cX6_restore 40 = .ok (.invokespecial 64, 3) := by decide +kernel
theorem dX6_restore_43 : decode cX6_restore 43 = .ok (.athrow, 1) := by decide +kernel
theorem dX6_restore_44 : decode cX6_restore 44 = .ok (.aload_n 0, 1) := by decide +kernel
theorem dX6_restore_45 : decode cX6_restore 45 = .ok (.getfield 12, 3) := by decide +kernel
theorem dX6_restore_48 : decode cX6_restore 48 = .ok (.aload_n 2, 1) := by decide +kernel
theorem dX6_restore_49 : decode cX6_restore 49 = .ok (.invokevirtual 159, 3) := by decide +kernel
theorem dX6_restore_52 : decode cX6_restore 52 = .ok (.aload_n 0, 1) := by decide +kernel
theorem dX6_restore_53 : decode cX6_restore 53 = .ok (.getfield 36, 3) := by decide +kernel
theorem dX6_restore_56 : decode cX6_restore 56 = .ok (.invokevirtual 276, 3) := by decide +kernel
theorem dX6_restore_59 : decode cX6_restore 59 = .ok (.aload_n 0, 1) := by decide +kernel
theorem dX6_restore_60 : decode cX6_restore 60 = .ok (.getfield 12, 3) := by decide +kernel
theorem dX6_restore_63 : decode cX6_restore 63 = .ok (.getfield 92, 3) := by decide +kernel
theorem dX6_restore_66 : decode cX6_restore 66 = .ok (.ireturn, 1) := by decide +kernel
theorem dX6_isOnGrid_0 : decode cX6_isOnGrid 0 = .ok (.iload_n 0, 1) := by decide +kernel
theorem dX6_isOnGrid_1 : decode cX6_isOnGrid 1 = .ok (.ifCond .lt 13, 3) := by decide +kernel
theorem dX6_isOnGrid_4 : decode cX6_isOnGrid 4 = .ok (.iload_n 0, 1) := by decide +kernel
theorem dX6_isOnGrid_5 : decode cX6_isOnGrid 5 = .ok (.bipush 60, 2) := by decide +kernel
theorem dX6_isOnGrid_7 : decode cX6_isOnGrid 7 = .ok (.if_icmp .gt 7, 3) := by decide +kernel
theorem dX6_isOnGrid_10 : decode cX6_isOnGrid 10 = .ok (.iconst 1, 1) := by decide +kernel
theorem dX6_isOnGrid_11 : decode cX6_isOnGrid 11 = .ok (.goto 4, 3) := by decide +kernel
theorem dX6_isOnGrid_14 : decode cX6_isOnGrid 14 = .ok (.iconst 0, 1) := by decide +kernel
theorem dX6_isOnGrid_15 : decode cX6_isOnGrid 15 = .ok (.ireturn, 1) := by decide +kernel
theorem dX6_isName_0 : decode cX6_isName 0 = .ok (.iload_n 0, 1) := by decide +kernel
theorem dX6_isName_1 : decode cX6_isName 1 = .ok (.ifCond .lt 13, 3) := by decide +kernel
theorem dX6_isName_4 : decode cX6_isName 4 = .ok (.iload_n 0, 1) := by decide +kernel
theorem dX6_isName_5 : decode cX6_isName 5 = .ok (.bipush 10, 2) := by decide +kernel
theorem dX6_isName_7 : decode cX6_isName 7 = .ok (.if_icmp .ge 7, 3) := by decide +kernel
theorem dX6_isName_10 : decode cX6_isName 10 = .ok (.iconst 1, 1) := by decide +kernel
theorem dX6_isName_11 : decode cX6_isName 11 = .ok (.goto 4, 3) := by decide +kernel
theorem dX6_isName_14 : decode cX6_isName 14 = .ok (.iconst 0, 1) := by decide +kernel
theorem dX6_isName_15 : decode cX6_isName 15 = .ok (.ireturn, 1) := by decide +kernel
theorem dX6_isSetting_0 : decode cX6_isSetting 0 = .ok (.iload_n 0, 1) := by decide +kernel
theorem dX6_isSetting_1 : decode cX6_isSetting 1 = .ok (.tableswitch 77 0 2 #[27, 44, 60], 27) := by decide +kernel
theorem dX6_isSetting_28 : decode cX6_isSetting 28 = .ok (.iload_n 1, 1) := by decide +kernel
theorem dX6_isSetting_29 : decode cX6_isSetting 29 = .ok (.iconst 5, 1) := by decide +kernel
theorem dX6_isSetting_30 : decode cX6_isSetting 30 = .ok (.if_icmp .lt 13, 3) := by decide +kernel
theorem dX6_isSetting_33 : decode cX6_isSetting 33 = .ok (.iload_n 1, 1) := by decide +kernel
theorem dX6_isSetting_34 : decode cX6_isSetting 34 = .ok (.bipush 20, 2) := by decide +kernel
theorem dX6_isSetting_36 : decode cX6_isSetting 36 = .ok (.if_icmp .gt 7, 3) := by decide +kernel
theorem dX6_isSetting_39 : decode cX6_isSetting 39 = .ok (.iconst 1, 1) := by decide +kernel
theorem dX6_isSetting_40 : decode cX6_isSetting 40 = .ok (.goto 4, 3) := by decide +kernel
theorem dX6_isSetting_43 : decode cX6_isSetting 43 = .ok (.iconst 0, 1) := by decide +kernel
theorem dX6_isSetting_44 : decode cX6_isSetting 44 = .ok (.ireturn, 1) := by decide +kernel
theorem dX6_isSetting_45 : decode cX6_isSetting 45 = .ok (.iload_n 1, 1) := by decide +kernel
theorem dX6_isSetting_46 : decode cX6_isSetting 46 = .ok (.ifCond .lt 13, 3) := by decide +kernel
theorem dX6_isSetting_49 : decode cX6_isSetting 49 = .ok (.iload_n 1, 1) := by decide +kernel
theorem dX6_isSetting_50 : decode cX6_isSetting 50 = .ok (.bipush 99, 2) := by decide +kernel
theorem dX6_isSetting_52 : decode cX6_isSetting 52 = .ok (.if_icmp .gt 7, 3) := by decide +kernel
theorem dX6_isSetting_55 : decode cX6_isSetting 55 = .ok (.iconst 1, 1) := by decide +kernel
theorem dX6_isSetting_56 : decode cX6_isSetting 56 = .ok (.goto 4, 3) := by decide +kernel
theorem dX6_isSetting_59 : decode cX6_isSetting 59 = .ok (.iconst 0, 1) := by decide +kernel
theorem dX6_isSetting_60 : decode cX6_isSetting 60 = .ok (.ireturn, 1) := by decide +kernel
theorem dX6_isSetting_61 : decode cX6_isSetting 61 = .ok (.iload_n 1, 1) := by decide +kernel
theorem dX6_isSetting_62 : decode cX6_isSetting 62 = .ok (.iconst 1, 1) := by decide +kernel
theorem dX6_isSetting_63 : decode cX6_isSetting 63 = .ok (.if_icmp .lt 13, 3) := by decide +kernel
theorem dX6_isSetting_66 : decode cX6_isSetting 66 = .ok (.iload_n 1, 1) := by decide +kernel
theorem dX6_isSetting_67 : decode cX6_isSetting 67 = .ok (.bipush 20, 2) := by decide +kernel
theorem dX6_isSetting_69 : decode cX6_isSetting 69 = .ok (.if_icmp .gt 7, 3) := by decide +kernel
theorem dX6_isSetting_72 : decode cX6_isSetting 72 = .ok (.iconst 1, 1) := by decide +kernel
theorem dX6_isSetting_73 : decode cX6_isSetting 73 = .ok (.goto 4, 3) := by decide +kernel
theorem dX6_isSetting_76 : decode cX6_isSetting 76 = .ok (.iconst 0, 1) := by decide +kernel
theorem dX6_isSetting_77 : decode cX6_isSetting 77 = .ok (.ireturn, 1) := by decide +kernel
theorem dX6_isSetting_78 : decode cX6_isSetting 78 = .ok (.iconst 0, 1) := by decide +kernel
theorem dX6_isSetting_79 : decode cX6_isSetting 79 = .ok (.ireturn, 1) := by decide +kernel
theorem dX6_cell_0 : decode cX6_cell 0 = .ok (.iload_n 1, 1) := by decide +kernel
theorem dX6_cell_1 : decode cX6_cell 1 = .ok (.ifCond .lt 15, 3) := by decide +kernel
theorem dX6_cell_4 : decode cX6_cell 4 = .ok (.iload_n 1, 1) := by decide +kernel
theorem dX6_cell_5 : decode cX6_cell 5 = .ok (.aload_n 0, 1) := by decide +kernel
theorem dX6_cell_6 : decode cX6_cell 6 = .ok (.arraylength, 1) := by decide +kernel
theorem dX6_cell_7 : decode cX6_cell 7 = .ok (.if_icmp .ge 9, 3) := by decide +kernel
theorem dX6_cell_10 : decode cX6_cell 10 = .ok (.aload_n 0, 1) := by decide +kernel
theorem dX6_cell_11 : decode cX6_cell 11 = .ok (.iload_n 1, 1) := by decide +kernel
theorem dX6_cell_12 : decode cX6_cell 12 = .ok (.iaload, 1) := by decide +kernel
theorem dX6_cell_13 : decode cX6_cell 13 = .ok (.goto 4, 3) := by decide +kernel
theorem dX6_cell_16 : decode cX6_cell 16 = .ok (.iconst 0, 1) := by decide +kernel
theorem dX6_cell_17 : decode cX6_cell 17 = .ok (.ireturn, 1) := by decide +kernel
theorem dX6_putCell_0 : decode cX6_putCell 0 = .ok (.iload_n 1, 1) := by decide +kernel
theorem dX6_putCell_1 : decode cX6_putCell 1 = .ok (.ifCond .lt 13, 3) := by decide +kernel
theorem dX6_putCell_4 : decode cX6_putCell 4 = .ok (.iload_n 1, 1) := by decide +kernel
theorem dX6_putCell_5 : decode cX6_putCell 5 = .ok (.aload_n 0, 1) := by decide +kernel
theorem dX6_putCell_6 : decode cX6_putCell 6 = .ok (.arraylength, 1) := by decide +kernel
theorem dX6_putCell_7 : decode cX6_putCell 7 = .ok (.if_icmp .ge 7, 3) := by decide +kernel
theorem dX6_putCell_10 : decode cX6_putCell 10 = .ok (.aload_n 0, 1) := by decide +kernel
theorem dX6_putCell_11 : decode cX6_putCell 11 = .ok (.iload_n 1, 1) := by decide +kernel
theorem dX6_putCell_12 : decode cX6_putCell 12 = .ok (.iload_n 2, 1) := by decide +kernel
theorem dX6_putCell_13 : decode cX6_putCell 13 = .ok (.iastore, 1) := by decide +kernel
theorem dX6_putCell_14 : decode cX6_putCell 14 = .ok (.return_, 1) := by decide +kernel
theorem dX6_copyCells_0 : decode cX6_copyCells 0 = .ok (.iload 4, 2) := by decide +kernel
theorem dX6_copyCells_2 : decode cX6_copyCells 2 = .ok (.ifCond .lt 47, 3) := by decide +kernel
theorem dX6_copyCells_5 : decode cX6_copyCells 5 = .ok (.iload_n 1, 1) := by decide +kernel
theorem dX6_copyCells_6 : decode cX6_copyCells 6 = .ok (.ifCond .lt 43, 3) := by decide +kernel
theorem dX6_copyCells_9 : decode cX6_copyCells 9 = .ok (.iload_n 3, 1) := by decide +kernel
theorem dX6_copyCells_10 : decode cX6_copyCells 10 = .ok (.ifCond .lt 39, 3) := by decide +kernel
theorem dX6_copyCells_13 : decode cX6_copyCells 13 = .ok (.iload 4, 2) := by decide +kernel
theorem dX6_copyCells_15 : decode cX6_copyCells 15 = .ok (.aload_n 0, 1) := by decide +kernel
theorem dX6_copyCells_16 : decode cX6_copyCells 16 = .ok (.arraylength, 1) := by decide +kernel
theorem dX6_copyCells_17 : decode cX6_copyCells 17 = .ok (.if_icmp .gt 32, 3) := by decide +kernel
theorem dX6_copyCells_20 : decode cX6_copyCells 20 = .ok (.iload_n 1, 1) := by decide +kernel
theorem dX6_copyCells_21 : decode cX6_copyCells 21 = .ok (.aload_n 0, 1) := by decide +kernel
theorem dX6_copyCells_22 : decode cX6_copyCells 22 = .ok (.arraylength, 1) := by decide +kernel
theorem dX6_copyCells_23 : decode cX6_copyCells 23 = .ok (.iload 4, 2) := by decide +kernel
theorem dX6_copyCells_25 : decode cX6_copyCells 25 = .ok (.isub, 1) := by decide +kernel
theorem dX6_copyCells_26 : decode cX6_copyCells 26 = .ok (.if_icmp .gt 23, 3) := by decide +kernel
theorem dX6_copyCells_29 : decode cX6_copyCells 29 = .ok (.iload 4, 2) := by decide +kernel
theorem dX6_copyCells_31 : decode cX6_copyCells 31 = .ok (.aload_n 2, 1) := by decide +kernel
theorem dX6_copyCells_32 : decode cX6_copyCells 32 = .ok (.arraylength, 1) := by decide +kernel
theorem dX6_copyCells_33 : decode cX6_copyCells 33 = .ok (.if_icmp .gt 16, 3) := by decide +kernel
theorem dX6_copyCells_36 : decode cX6_copyCells 36 = .ok (.iload_n 3, 1) := by decide +kernel
theorem dX6_copyCells_37 : decode cX6_copyCells 37 = .ok (.aload_n 2, 1) := by decide +kernel
theorem dX6_copyCells_38 : decode cX6_copyCells 38 = .ok (.arraylength, 1) := by decide +kernel
theorem dX6_copyCells_39 : decode cX6_copyCells 39 = .ok (.iload 4, 2) := by decide +kernel
theorem dX6_copyCells_41 : decode cX6_copyCells 41 = .ok (.isub, 1) := by decide +kernel
theorem dX6_copyCells_42 : decode cX6_copyCells 42 = .ok (.if_icmp .gt 7, 3) := by decide +kernel
theorem dX6_copyCells_45 : decode cX6_copyCells 45 = .ok (.iconst 1, 1) := by decide +kernel
theorem dX6_copyCells_46 : decode cX6_copyCells 46 = .ok (.goto 4, 3) := by decide +kernel
theorem dX6_copyCells_49 : decode cX6_copyCells 49 = .ok (.iconst 0, 1) := by decide +kernel
theorem dX6_copyCells_50 : decode cX6_copyCells 50 = .ok (.istore 5, 2) := by decide +kernel
theorem dX6_copyCells_52 : decode cX6_copyCells 52 = .ok (.iload 5, 2) := by decide +kernel
theorem dX6_copyCells_54 : decode cX6_copyCells 54 = .ok (.ifCond .eq 12, 3) := by decide +kernel
theorem dX6_copyCells_57 : decode cX6_copyCells 57 = .ok (.aload_n 0, 1) := by decide +kernel
theorem dX6_copyCells_58 : decode cX6_copyCells 58 = .ok (.iload_n 1, 1) := by decide +kernel
theorem dX6_copyCells_59 : decode cX6_copyCells 59 = .ok (.aload_n 2, 1) := by decide +kernel
theorem dX6_copyCells_60 : decode cX6_copyCells 60 = .ok (.iload_n 3, 1) := by decide +kernel
theorem dX6_copyCells_61 : decode cX6_copyCells 61 = .ok (.iload 4, 2) := by decide +kernel
theorem dX6_copyCells_63 : decode cX6_copyCells 63 = .ok (.invokestatic 279, 3) := by decide +kernel
theorem dX6_copyCells_66 : decode cX6_copyCells 66 = .ok (.return_, 1) := by decide +kernel
theorem dX6_copyRow_0 : decode cX6_copyRow 0 = .ok (.aload_n 0, 1) := by decide +kernel
theorem dX6_copyRow_1 : decode cX6_copyRow 1 = .ok (.iconst 0, 1) := by decide +kernel
theorem dX6_copyRow_2 : decode cX6_copyRow 2 = .ok (.aload_n 1, 1) := by decide +kernel
theorem dX6_copyRow_3 : decode cX6_copyRow 3 = .ok (.iconst 0, 1) := by decide +kernel
theorem dX6_copyRow_4 : decode cX6_copyRow 4 = .ok (.aload_n 0, 1) := by decide +kernel
theorem dX6_copyRow_5 : decode cX6_copyRow 5 = .ok (.arraylength, 1) := by decide +kernel
theorem dX6_copyRow_6 : decode cX6_copyRow 6 = .ok (.aload_n 1, 1) := by decide +kernel
theorem dX6_copyRow_7 : decode cX6_copyRow 7 = .ok (.arraylength, 1) := by decide +kernel
theorem dX6_copyRow_8 : decode cX6_copyRow 8 = .ok (.invokestatic 285, 3) := by decide +kernel
theorem dX6_copyRow_11 : decode cX6_copyRow 11 = .ok (.invokestatic 279, 3) := by decide +kernel
theorem dX6_copyRow_14 : decode cX6_copyRow 14 = .ok (.return_, 1) := by decide +kernel
set_option maxRecDepth 20000 in
theorem ggX6_practiseOn_X0_strokesOf : GoodIn wsX6_practiseOn wsX0_strokesOf := goodIn_r _ [9, 10, 11, 12, 13, 108, 109, 110, 111, 112] (by decide +kernel) (by decide +kernel)
set_option maxRecDepth 20000 in
theorem gX6_practiseOn_X0_strokesOf : GoodIn wsX6_practiseOn (wsV RX6 76 RX0 yX0_strokesOf wsX0_strokesOf) := goodIn_app (goodIn_of _ (by decide +kernel)) ggX6_practiseOn_X0_strokesOf
set_option maxRecDepth 20000 in
theorem ggX6_practiseOn_X2_readFigure_p0 : GoodIn wsX6_practiseOn [.code yX2_readFigure cX2_readFigure 6 none] := goodIn_r _ [18] (by decide +kernel) (by decide +kernel)
theorem ggX6_practiseOn_X2_readFigure_p1 : GoodIn wsX6_practiseOn wsX2_readFigure_r1 := goodIn_r _ [19, 20, 21, 22, 23, 24, 25, 26, 27, 28, 17, 29, 30, 31, 32, 33, 34, 35, 36, 37, 8, 38, 39, 11] (by decide +kernel) (by decide +kernel)
theorem ggX6_practiseOn_X2_readFigure_p2 : GoodIn wsX6_practiseOn wsX2_readFigure_r2 := goodIn_r _ [12, 13, 40, 41, 42, 43, 44, 45, 46, 47, 48, 49, 50, 51, 52, 53, 54, 55, 56, 57, 58, 59, 60, 61] (by decide +kernel) (by decide +kernel)
theorem ggX6_practiseOn_X2_readFigure_p3 : GoodIn wsX6_practiseOn wsX2_readFigure_r3 := goodIn_r _ [62, 63, 64, 65, 66, 67, 68, 69, 70] (by decide +kernel) (by decide +kernel)
theorem ggX6_practiseOn_X2_readFigure_p4 : GoodIn wsX6_practiseOn wsX20 := goodIn_r _ [102, 103, 104, 105, 106, 107] (by decide +kernel) (by decide +kernel)
theorem ggX6_practiseOn_X2_readFigure_p5 : GoodIn wsX6_practiseOn wsX40 := goodIn_r _ [90, 91, 92, 93, 94, 95] (by decide +kernel) (by decide +kernel)
theorem ggX6_practiseOn_X2_readFigure_p6 : GoodIn wsX6_practiseOn wsX00 := goodIn_r _ [108, 109, 110, 111, 112] (by decide +kernel) (by decide +kernel)
theorem ggX6_practiseOn_X2_readFigure : GoodIn wsX6_practiseOn wsX2_readFigure := (goodIn_c2 ggX6_practiseOn_X2_readFigure_p0 (goodIn_app (goodIn_app (goodIn_app (goodIn_app ggX6_practiseOn_X2_readFigure_p1 (goodIn_app ggX6_practiseOn_X2_readFigure_p2 ggX6_practiseOn_X2_readFigure_p3)) ggX6_practiseOn_X2_readFigure_p4) ggX6_practiseOn_X2_readFigure_p5) ggX6_practiseOn_X2_readFigure_p6))
set_option maxRecDepth 20000 in
theorem gX6_practiseOn_X2_readFigure : GoodIn wsX6_practiseOn (wsV RX6 207 RX2 yX2_readFigure wsX2_readFigure) := goodIn_app (goodIn_of _ (by decide +kernel)) ggX6_practiseOn_X2_readFigure
set_option maxRecDepth 20000 in
theorem ggX6_practiseOn_X4_countOutcome : GoodIn wsX6_practiseOn wsX4_countOutcome := goodIn_r _ [74, 75, 76, 77, 78, 59, 79, 11, 12, 13, 40, 41, 90, 91, 92, 93, 94, 95] (by decide +kernel) (by decide +kernel)
set_option maxRecDepth 20000 in
theorem gX6_practiseOn_X4_countOutcome : GoodIn wsX6_practiseOn (wsV RX6 290 RX4 yX4_countOutcome wsX4_countOutcome) := goodIn_app (goodIn_of _ (by decide +kernel)) ggX6_practiseOn_X4_countOutcome
set_option maxRecDepth 20000 in
theorem ggX6_practiseOn_X4_clearHand : GoodIn wsX6_practiseOn wsX4_clearHand := goodIn_r _ [83, 84, 85, 86, 87, 88, 8, 89, 10, 39, 40, 12, 41, 90, 91, 92, 93, 94, 95, 108, 109, 110, 111, 112] (by decide +kernel) (by decide +kernel)
set_option maxRecDepth 20000 in
theorem gX6_practiseOn_X4_clearHand : GoodIn wsX6_practiseOn (wsV RX6 162 RX4 yX4_clearHand wsX4_clearHand) := goodIn_app (goodIn_of _ (by decide +kernel)) ggX6_practiseOn_X4_clearHand
theorem dX6_practiseOn_0 : decode cX6_practiseOn 0 = .ok (.aload_n 1, 1) := by decide +kernel
theorem dX6_practiseOn_1 : decode cX6_practiseOn 1 = .ok (.getfield 72, 3) := by decide +kernel
theorem dX6_practiseOn_4 : decode cX6_practiseOn 4 = .ok (.bipush 16, 2) := by decide +kernel
theorem dX6_practiseOn_6 : decode cX6_practiseOn 6 = .ok (.invokevirtual 76, 3) := by decide +kernel
theorem dX6_practiseOn_9 : decode cX6_practiseOn 9 = .ok (.ifCond .ne 5, 3) := by decide +kernel
theorem dX6_practiseOn_12 : decode cX6_practiseOn 12 = .ok (.iconst (-1), 1) := by decide +kernel
theorem dX6_practiseOn_13 : decode cX6_practiseOn 13 = .ok (.ireturn, 1) := by decide +kernel
theorem dX6_practiseOn_14 : decode cX6_practiseOn 14 = .ok (.aload_n 0, 1) := by decide +kernel
theorem dX6_practiseOn_15 : decode cX6_practiseOn 15 = .ok (.getfield 22, 3) := by decide +kernel
theorem dX6_practiseOn_18 : decode cX6_practiseOn 18 = .ok (.aload_n 1, 1) := by decide +kernel
theorem dX6_practiseOn_19 : decode cX6_practiseOn 19 = .ok (.bipush 16, 2) := by decide +kernel
theorem dX6_practiseOn_21 : decode cX6_practiseOn 21 = .ok (.iconst (-1), 1) := by decide +kernel
theorem dX6_practiseOn_22 : decode cX6_practiseOn 22 = .ok (.invokevirtual 207, 3) := by decide +kernel
theorem dX6_practiseOn_25 : decode cX6_practiseOn 25 = .ok (.iconst 2, 1) := by decide +kernel
theorem dX6_practiseOn_26 : decode cX6_practiseOn 26 = .ok (.istore_n 3, 1) := by decide +kernel
theorem dX6_practiseOn_27 : decode cX6_practiseOn 27 = .ok (.aload_n 0, 1) := by decide +kernel
theorem dX6_practiseOn_28 : decode cX6_practiseOn 28 = .ok (.getfield 22, 3) := by decide +kernel
theorem dX6_practiseOn_31 : decode cX6_practiseOn 31 = .ok (.getfield 211, 3) := by decide +kernel
theorem dX6_practiseOn_34 : decode cX6_practiseOn 34 = .ok (.ifCond .eq 8, 3) := by decide +kernel
theorem dX6_practiseOn_37 : decode cX6_practiseOn 37 = .ok (.iconst 1, 1) := by decide +kernel
theorem dX6_practiseOn_38 : decode cX6_practiseOn 38 = .ok (.istore_n 3, 1) := by decide +kernel
theorem dX6_practiseOn_39 : decode cX6_practiseOn 39 = .ok (.goto 16, 3) := by decide +kernel
theorem dX6_practiseOn_42 : decode cX6_practiseOn 42 = .ok (.aload_n 0, 1) := by decide +kernel
theorem dX6_practiseOn_43 : decode cX6_practiseOn 43 = .ok (.getfield 22, 3) := by decide +kernel
theorem dX6_practiseOn_46 : decode cX6_practiseOn 46 = .ok (.getfield 214, 3) := by decide +kernel
theorem dX6_practiseOn_49 : decode cX6_practiseOn 49 = .ok (.iload_n 2, 1) := by decide +kernel
theorem dX6_practiseOn_50 : decode cX6_practiseOn 50 = .ok (.if_icmp .ne 5, 3) := by decide +kernel
theorem dX6_practiseOn_53 : decode cX6_practiseOn 53 = .ok (.iconst 0, 1) := by decide +kernel
theorem dX6_practiseOn_54 : decode cX6_practiseOn 54 = .ok (.istore_n 3, 1) := by decide +kernel
theorem dX6_practiseOn_55 : decode cX6_practiseOn 55 = .ok (.aload_n 1, 1) := by decide +kernel
theorem dX6_practiseOn_56 : decode cX6_practiseOn 56 = .ok (.iload_n 2, 1) := by decide +kernel
theorem dX6_practiseOn_57 : decode cX6_practiseOn 57 = .ok (.iload_n 3, 1) := by decide +kernel
theorem dX6_practiseOn_58 : decode cX6_practiseOn 58 = .ok (.invokevirtual 290, 3) := by decide +kernel
theorem dX6_practiseOn_61 : decode cX6_practiseOn 61 = .ok (.aload_n 1, 1) := by decide +kernel
theorem dX6_practiseOn_62 : decode cX6_practiseOn 62 = .ok (.invokevirtual 162, 3) := by decide +kernel
theorem dX6_practiseOn_65 : decode cX6_practiseOn 65 = .ok (.iload_n 3, 1) := by decide +kernel
theorem dX6_practiseOn_66 : decode cX6_practiseOn 66 = .ok (.ireturn, 1) := by decide +kernel
set_option maxRecDepth 20000 in
theorem ggX6_leastOfPairs_X2_closestPair_p0 : GoodIn wsX6_leastOfPairs [.code yX2_closestPair cX2_closestPair 8 (some .int)] := goodIn_r _ [7] (by decide +kernel) (by decide +kernel)
theorem ggX6_leastOfPairs_X2_closestPair_p1 : GoodIn wsX6_leastOfPairs wsX2_closestPair_r1 := goodIn_r _ [8, 9, 10, 11, 12, 13, 14, 15, 16, 17, 18, 19, 20, 21, 6, 22, 23, 24, 25, 26, 27, 28, 29, 30] (by decide +kernel) (by decide +kernel)
theorem ggX6_leastOfPairs_X2_closestPair_p2 : GoodIn wsX6_leastOfPairs wsX2_closestPair_r2 := goodIn_r _ [31, 32, 33, 34, 35, 36, 37, 38, 39, 40, 41, 42, 43, 44, 45, 46, 47, 48, 49] (by decide +kernel) (by decide +kernel)
theorem ggX6_leastOfPairs_X2_closestPair_p3 : GoodIn wsX6_leastOfPairs wsX40 := goodIn_r _ [57, 58, 59, 60, 61, 62] (by decide +kernel) (by decide +kernel)
theorem ggX6_leastOfPairs_X2_closestPair_p4 : GoodIn wsX6_leastOfPairs wsX20 := goodIn_r _ [63, 64, 65, 66, 67, 68] (by decide +kernel) (by decide +kernel)
theorem ggX6_leastOfPairs_X2_closestPair_p5 : GoodIn wsX6_leastOfPairs wsX00 := goodIn_r _ [69, 70, 71, 72, 73] (by decide +kernel) (by decide +kernel)
theorem ggX6_leastOfPairs_X2_closestPair : GoodIn wsX6_leastOfPairs wsX2_closestPair := (goodIn_c2 ggX6_leastOfPairs_X2_closestPair_p0 (goodIn_app (goodIn_app (goodIn_app (goodIn_app ggX6_leastOfPairs_X2_closestPair_p1 ggX6_leastOfPairs_X2_closestPair_p2) ggX6_leastOfPairs_X2_closestPair_p3) ggX6_leastOfPairs_X2_closestPair_p4) ggX6_leastOfPairs_X2_closestPair_p5))
set_option maxRecDepth 20000 in
theorem gX6_leastOfPairs_X2_closestPair : GoodIn wsX6_leastOfPairs (wsV RX6 232 RX2 yX2_closestPair wsX2_closestPair) := goodIn_app (goodIn_of _ (by decide +kernel)) ggX6_leastOfPairs_X2_closestPair
set_option maxRecDepth 20000 in
theorem ggX6_leastOfPairs_X2_distanceOf_p0 : GoodIn wsX6_leastOfPairs [.code yX2_distanceOf cX2_distanceOf 13 (some .int)] := goodIn_r _ [22] (by decide +kernel) (by decide +kernel)
theorem ggX6_leastOfPairs_X2_distanceOf_p1 : GoodIn wsX6_leastOfPairs wsX2_distanceOf_r1 := goodIn_r _ [23, 24, 25, 26, 27, 28, 29, 30, 31, 32, 33, 16, 17, 18, 34, 35, 36, 37, 38, 39, 40, 41, 42, 6] (by decide +kernel) (by decide +kernel)
theorem ggX6_leastOfPairs_X2_distanceOf_p2 : GoodIn wsX6_leastOfPairs wsX2_distanceOf_r2 := goodIn_r _ [43, 44, 45, 46, 47, 48, 49] (by decide +kernel) (by decide +kernel)
theorem ggX6_leastOfPairs_X2_distanceOf_p3 : GoodIn wsX6_leastOfPairs wsX20 := goodIn_r _ [63, 64, 65, 66, 67, 68] (by decide +kernel) (by decide +kernel)
theorem ggX6_leastOfPairs_X2_distanceOf_p4 : GoodIn wsX6_leastOfPairs wsX00 := goodIn_r _ [69, 70, 71, 72, 73] (by decide +kernel) (by decide +kernel)
theorem ggX6_leastOfPairs_X2_distanceOf : GoodIn wsX6_leastOfPairs wsX2_distanceOf := (goodIn_c2 ggX6_leastOfPairs_X2_distanceOf_p0 (goodIn_app (goodIn_app (goodIn_app ggX6_leastOfPairs_X2_distanceOf_p1 ggX6_leastOfPairs_X2_distanceOf_p2) ggX6_leastOfPairs_X2_distanceOf_p3) ggX6_leastOfPairs_X2_distanceOf_p4))
set_option maxRecDepth 20000 in
theorem gX6_leastOfPairs_X2_distanceOf : GoodIn wsX6_leastOfPairs (wsV RX6 228 RX2 yX2_distanceOf wsX2_distanceOf) := goodIn_app (goodIn_of _ (by decide +kernel)) ggX6_leastOfPairs_X2_distanceOf
theorem dX6_leastOfPairs_0 : decode cX6_leastOfPairs 0 = .ok (.aload_n 0, 1) := by decide +kernel
theorem dX6_leastOfPairs_1 : decode cX6_leastOfPairs 1 = .ok (.getfield 22, 3) := by decide +kernel
theorem dX6_leastOfPairs_4 : decode cX6_leastOfPairs 4 = .ok (.aload_n 1, 1) := by decide +kernel
theorem dX6_leastOfPairs_5 : decode cX6_leastOfPairs 5 = .ok (.iload_n 2, 1) := by decide +kernel
theorem dX6_leastOfPairs_6 : decode cX6_leastOfPairs 6 = .ok (.invokevirtual 232, 3) := by decide +kernel
theorem dX6_leastOfPairs_9 : decode cX6_leastOfPairs 9 = .ok (.istore_n 3, 1) := by decide +kernel
theorem dX6_leastOfPairs_10 : decode cX6_leastOfPairs 10 = .ok (.iload_n 3, 1) := by decide +kernel
theorem dX6_leastOfPairs_11 : decode cX6_leastOfPairs 11 = .ok (.iconst (-1), 1) := by decide +kernel
theorem dX6_leastOfPairs_12 : decode cX6_leastOfPairs 12 = .ok (.if_icmp .ne 7, 3) := by decide +kernel
theorem dX6_leastOfPairs_15 : decode cX6_leastOfPairs 15 = .ok (.iconst (-1), 1) := by decide +kernel
theorem dX6_leastOfPairs_16 : decode cX6_leastOfPairs 16 = .ok (.goto 22, 3) := by decide +kernel
theorem dX6_leastOfPairs_19 : decode cX6_leastOfPairs 19 = .ok (.aload_n 0, 1) := by decide +kernel
theorem dX6_leastOfPairs_20 : decode cX6_leastOfPairs 20 = .ok (.getfield 22, 3) := by decide +kernel
theorem dX6_leastOfPairs_23 : decode cX6_leastOfPairs 23 = .ok (.aload_n 1, 1) := by decide +kernel
theorem dX6_leastOfPairs_24 : decode cX6_leastOfPairs 24 = .ok (.getfield 72, 3) := by decide +kernel
theorem dX6_leastOfPairs_27 : decode cX6_leastOfPairs 27 = .ok (.iload_n 3, 1) := by decide +kernel
theorem dX6_leastOfPairs_28 : decode cX6_leastOfPairs 28 = .ok (.bipush 100, 2) := by decide +kernel
theorem dX6_leastOfPairs_30 : decode cX6_leastOfPairs 30 = .ok (.idiv, 1) := by decide +kernel
theorem dX6_leastOfPairs_31 : decode cX6_leastOfPairs 31 = .ok (.iload_n 3, 1) := by decide +kernel
theorem dX6_leastOfPairs_32 : decode cX6_leastOfPairs 32 = .ok (.bipush 100, 2) := by decide +kernel
theorem dX6_leastOfPairs_34 : decode cX6_leastOfPairs 34 = .ok (.irem, 1) := by decide +kernel
theorem dX6_leastOfPairs_35 : decode cX6_leastOfPairs 35 = .ok (.invokevirtual 228, 3) := by decide +kernel
theorem dX6_leastOfPairs_38 : decode cX6_leastOfPairs 38 = .ok (.ireturn, 1) := by decide +kernel
theorem dX6_withoutGroups_0 : decode cX6_withoutGroups 0 = .ok (.lload_n 0, 1) := by decide +kernel
theorem dX6_withoutGroups_1 : decode cX6_withoutGroups 1 = .ok (.lstore_n 3, 1) := by decide +kernel
theorem dX6_withoutGroups_2 : decode cX6_withoutGroups 2 = .ok (.iconst 0, 1) := by decide +kernel
theorem dX6_withoutGroups_3 : decode cX6_withoutGroups 3 = .ok (.istore 5, 2) := by decide +kernel
theorem dX6_withoutGroups_5 : decode cX6_withoutGroups 5 = .ok (.iload 5, 2) := by decide +kernel
theorem dX6_withoutGroups_7 : decode cX6_withoutGroups 7 = .ok (.iload_n 2, 1) := by decide +kernel
theorem dX6_withoutGroups_8 : decode cX6_withoutGroups 8 = .ok (.if_icmp .ge 15, 3) := by decide +kernel
theorem dX6_withoutGroups_11 : decode cX6_withoutGroups 11 = .ok (.lload_n 3, 1) := by decide +kernel
theorem dX6_withoutGroups_12 : decode cX6_withoutGroups 12 = .ok (.ldc2_w 250, 3) := by decide +kernel
theorem dX6_withoutGroups_15 : decode cX6_withoutGroups 15 = .ok (.ldiv, 1) := by decide +kernel
theorem dX6_withoutGroups_16 : decode cX6_withoutGroups 16 = .ok (.lstore_n 3, 1) := by decide +kernel
theorem dX6_withoutGroups_17 : decode cX6_withoutGroups 17 = .ok (.iinc 5 1, 3) := by decide +kernel
theorem dX6_withoutGroups_20 : decode cX6_withoutGroups 20 = .ok (.goto (-15), 3) := by decide +kernel
theorem dX6_withoutGroups_23 : decode cX6_withoutGroups 23 = .ok (.lload_n 3, 1) := by decide +kernel
theorem dX6_withoutGroups_24 : decode cX6_withoutGroups 24 = .ok (.lreturn, 1) := by decide +kernel
set_option maxRecDepth 20000 in
theorem ggX6_commandSucceeds_X4_addPoint_p0 : GoodIn wsX6_commandSucceeds [.code yX4_addPoint cX4_addPoint 5 (some .boolean)] := goodIn_r _ [11] (by decide +kernel) (by decide +kernel)
theorem ggX6_commandSucceeds_X4_addPoint_p1 : GoodIn wsX6_commandSucceeds wsX4_addPoint_r1 := goodIn_r _ [12, 13, 14, 15, 16, 17, 18, 19, 10, 20, 21, 22, 23, 24, 25, 26, 27, 28, 29, 30, 31, 32, 33, 34] (by decide +kernel) (by decide +kernel)
theorem ggX6_commandSucceeds_X4_addPoint_p2 : GoodIn wsX6_commandSucceeds wsX4_addPoint_r2 := goodIn_r _ [35, 36, 37, 38, 39, 40, 41, 42, 43, 44, 45, 46, 47, 48, 49, 50, 51, 52, 53, 54, 55, 56, 57, 58] (by decide +kernel) (by decide +kernel)
theorem ggX6_commandSucceeds_X4_addPoint_p3 : GoodIn wsX6_commandSucceeds wsX4_addPoint_r3 := goodIn_r _ [59, 60, 61, 62, 63, 64, 65, 66, 67, 68, 69, 70, 71, 72, 73, 74, 75, 76, 77, 78, 79, 80] (by decide +kernel) (by decide +kernel)
theorem ggX6_commandSucceeds_X4_addPoint_p4 : GoodIn wsX6_commandSucceeds wsX40 := goodIn_r _ [221, 222, 223, 224, 225, 226] (by decide +kernel) (by decide +kernel)
theorem ggX6_commandSucceeds_X4_addPoint_p5 : GoodIn wsX6_commandSucceeds wsX00 := goodIn_r _ [227, 228, 229, 230, 231] (by decide +kernel) (by decide +kernel)
theorem ggX6_commandSucceeds_X4_addPoint : GoodIn wsX6_commandSucceeds wsX4_addPoint := (goodIn_c2 ggX6_commandSucceeds_X4_addPoint_p0 (goodIn_app (goodIn_app (goodIn_app ggX6_commandSucceeds_X4_addPoint_p1 (goodIn_app ggX6_commandSucceeds_X4_addPoint_p2 ggX6_commandSucceeds_X4_addPoint_p3)) ggX6_commandSucceeds_X4_addPoint_p4) ggX6_commandSucceeds_X4_addPoint_p5))
set_option maxRecDepth 20000 in
theorem gX6_commandSucceeds_X4_addPoint : GoodIn wsX6_commandSucceeds (wsV RX6 142 RX4 yX4_addPoint wsX4_addPoint) := goodIn_app (goodIn_of _ (by decide +kernel)) ggX6_commandSucceeds_X4_addPoint
set_option maxRecDepth 20000 in
theorem ggX6_commandSucceeds_X4_liftPen : GoodIn wsX6_commandSucceeds wsX4_liftPen := goodIn_r _ [84, 12, 221, 222, 223, 224, 225, 226] (by decide +kernel) (by decide +kernel)
set_option maxRecDepth 20000 in
theorem gX6_commandSucceeds_X4_liftPen : GoodIn wsX6_commandSucceeds (wsV RX6 154 RX4 yX4_liftPen wsX4_liftPen) := goodIn_app (goodIn_of _ (by decide +kernel)) ggX6_commandSucceeds_X4_liftPen
set_option maxRecDepth 20000 in
theorem ggX6_commandSucceeds_X4_keepHand_p0 : GoodIn wsX6_commandSucceeds [.code yX4_keepHand cX4_keepHand 2 (some .boolean)] := goodIn_r _ [88] (by decide +kernel) (by decide +kernel)
theorem ggX6_commandSucceeds_X4_keepHand_p1 : GoodIn wsX6_commandSucceeds wsX4_keepHand_r1 := goodIn_r _ [13, 89, 90, 91, 31, 32, 27, 33, 34, 22, 15, 23, 92, 93, 94, 10, 95, 96, 97, 98, 99, 100, 101, 102] (by decide +kernel) (by decide +kernel)
theorem ggX6_commandSucceeds_X4_keepHand_p2 : GoodIn wsX6_commandSucceeds wsX4_keepHand_r2 := goodIn_r _ [103, 104, 45, 46, 47, 48, 105, 106, 107, 108, 76, 109, 110, 111, 112, 29, 43, 113, 114, 115, 116, 117, 118, 59] (by decide +kernel) (by decide +kernel)
theorem ggX6_commandSucceeds_X4_keepHand_p3 : GoodIn wsX6_commandSucceeds wsX4_keepHand_r3 := goodIn_r _ [60, 119, 120, 121, 122, 12, 123, 124, 125, 126] (by decide +kernel) (by decide +kernel)
theorem ggX6_commandSucceeds_X4_keepHand_p4 : GoodIn wsX6_commandSucceeds wsX40 := goodIn_r _ [221, 222, 223, 224, 225, 226] (by decide +kernel) (by decide +kernel)
theorem ggX6_commandSucceeds_X4_keepHand_p5 : GoodIn wsX6_commandSucceeds wsX00 := goodIn_r _ [227, 228, 229, 230, 231] (by decide +kernel) (by decide +kernel)
theorem ggX6_commandSucceeds_X4_keepHand : GoodIn wsX6_commandSucceeds wsX4_keepHand := (goodIn_c2 ggX6_commandSucceeds_X4_keepHand_p0 (goodIn_app (goodIn_app (goodIn_app ggX6_commandSucceeds_X4_keepHand_p1 (goodIn_app ggX6_commandSucceeds_X4_keepHand_p2 ggX6_commandSucceeds_X4_keepHand_p3)) ggX6_commandSucceeds_X4_keepHand_p4) ggX6_commandSucceeds_X4_keepHand_p5))
set_option maxRecDepth 20000 in
theorem gX6_commandSucceeds_X4_keepHand : GoodIn wsX6_commandSucceeds (wsV RX6 171 RX4 yX4_keepHand wsX4_keepHand) := goodIn_app (goodIn_of _ (by decide +kernel)) ggX6_commandSucceeds_X4_keepHand
set_option maxRecDepth 20000 in
theorem ggX6_commandSucceeds_X4_dropSample_p0 : GoodIn wsX6_commandSucceeds [.code yX4_dropSample cX4_dropSample 3 (some .boolean)] := goodIn_r _ [130] (by decide +kernel) (by decide +kernel)
theorem ggX6_commandSucceeds_X4_dropSample_p1 : GoodIn wsX6_commandSucceeds wsX4_dropSample_r1 := goodIn_r _ [89, 13, 90, 131, 132, 133, 10, 134, 109, 110, 111, 27, 112, 34, 29, 43, 48, 76, 113, 15, 114, 115, 116, 117] (by decide +kernel) (by decide +kernel)
theorem ggX6_commandSucceeds_X4_dropSample_p2 : GoodIn wsX6_commandSucceeds wsX4_dropSample_r2 := goodIn_r _ [118, 96, 97, 98, 99, 22, 23, 59, 60] (by decide +kernel) (by decide +kernel)
theorem ggX6_commandSucceeds_X4_dropSample_p3 : GoodIn wsX6_commandSucceeds wsX40 := goodIn_r _ [221, 222, 223, 224, 225, 226] (by decide +kernel) (by decide +kernel)
theorem ggX6_commandSucceeds_X4_dropSample_p4 : GoodIn wsX6_commandSucceeds wsX00 := goodIn_r _ [227, 228, 229, 230, 231] (by decide +kernel) (by decide +kernel)
theorem ggX6_commandSucceeds_X4_dropSample : GoodIn wsX6_commandSucceeds wsX4_dropSample := (goodIn_c2 ggX6_commandSucceeds_X4_dropSample_p0 (goodIn_app (goodIn_app (goodIn_app ggX6_commandSucceeds_X4_dropSample_p1 ggX6_commandSucceeds_X4_dropSample_p2) ggX6_commandSucceeds_X4_dropSample_p3) ggX6_commandSucceeds_X4_dropSample_p4))
set_option maxRecDepth 20000 in
theorem gX6_commandSucceeds_X4_dropSample : GoodIn wsX6_commandSucceeds (wsV RX6 176 RX4 yX4_dropSample wsX4_dropSample) := goodIn_app (goodIn_of _ (by decide +kernel)) ggX6_commandSucceeds_X4_dropSample
set_option maxRecDepth 20000 in
theorem ggX6_commandSucceeds_X6_isSetting : GoodIn wsX6_commandSucceeds wsX6_isSetting := goodIn_r _ [137] (by decide +kernel) (by decide +kernel)
set_option maxRecDepth 20000 in
theorem gX6_commandSucceeds_X6_isSetting : GoodIn wsX6_commandSucceeds (va_wsS RX6 185 yX6_isSetting wsX6_isSetting) := goodIn_app (goodIn_of _ (by decide +kernel)) ggX6_commandSucceeds_X6_isSetting
set_option maxRecDepth 20000 in
theorem ggX6_commandSucceeds_X4_changeSetting_p0 : GoodIn wsX6_commandSucceeds [.code yX4_changeSetting cX4_changeSetting 4 (some .boolean)] := goodIn_r _ [141] (by decide +kernel) (by decide +kernel)
theorem ggX6_commandSucceeds_X4_changeSetting_p1 : GoodIn wsX6_commandSucceeds wsX4_changeSetting_r1 := goodIn_r _ [21, 89, 13, 142, 143, 144, 10, 145, 146, 147, 148, 27, 149, 150, 151, 57, 152, 30, 31, 32, 33, 34, 22, 15] (by decide +kernel) (by decide +kernel)
theorem ggX6_commandSucceeds_X4_changeSetting_p2 : GoodIn wsX6_commandSucceeds wsX4_changeSetting_r2 := goodIn_r _ [23, 35, 36, 37, 38, 29, 39, 40, 41, 42, 43, 49, 50, 51, 52, 53, 54, 55, 56, 58, 59, 60, 153, 154] (by decide +kernel) (by decide +kernel)
theorem ggX6_commandSucceeds_X4_changeSetting_p3 : GoodIn wsX6_commandSucceeds wsX4_changeSetting_r3 := goodIn_r _ [155, 156, 48, 72, 73, 74, 75, 76, 44, 45, 46, 47, 65, 66, 67, 68, 69, 70, 71] (by decide +kernel) (by decide +kernel)
theorem ggX6_commandSucceeds_X4_changeSetting_p4 : GoodIn wsX6_commandSucceeds wsX40 := goodIn_r _ [221, 222, 223, 224, 225, 226] (by decide +kernel) (by decide +kernel)
theorem ggX6_commandSucceeds_X4_changeSetting_p5 : GoodIn wsX6_commandSucceeds wsX00 := goodIn_r _ [227, 228, 229, 230, 231] (by decide +kernel) (by decide +kernel)
theorem ggX6_commandSucceeds_X4_changeSetting : GoodIn wsX6_commandSucceeds wsX4_changeSetting := (goodIn_c2 ggX6_commandSucceeds_X4_changeSetting_p0 (goodIn_app (goodIn_app (goodIn_app ggX6_commandSucceeds_X4_changeSetting_p1 (goodIn_app ggX6_commandSucceeds_X4_changeSetting_p2 ggX6_commandSucceeds_X4_changeSetting_p3)) ggX6_commandSucceeds_X4_changeSetting_p4) ggX6_commandSucceeds_X4_changeSetting_p5))
set_option maxRecDepth 20000 in
theorem gX6_commandSucceeds_X4_changeSetting : GoodIn wsX6_commandSucceeds (wsV RX6 190 RX4 yX4_changeSetting wsX4_changeSetting) := goodIn_app (goodIn_of _ (by decide +kernel)) ggX6_commandSucceeds_X4_changeSetting
set_option maxRecDepth 20000 in
theorem ggX6_commandSucceeds_X2_readFigure_p0 : GoodIn wsX6_commandSucceeds [.code yX2_readFigure cX2_readFigure 6 none] := goodIn_r _ [161] (by decide +kernel) (by decide +kernel)
theorem ggX6_commandSucceeds_X2_readFigure_p1 : GoodIn wsX6_commandSucceeds wsX2_readFigure_r1 := goodIn_r _ [162, 163, 164, 165, 166, 167, 168, 169, 170, 171, 160, 172, 173, 174, 175, 57, 176, 177, 45, 46, 27, 47, 48, 22] (by decide +kernel) (by decide +kernel)
theorem ggX6_commandSucceeds_X2_readFigure_p2 : GoodIn wsX6_commandSucceeds wsX2_readFigure_r2 := goodIn_r _ [15, 23, 59, 60, 178, 106, 107, 108, 76, 179, 180, 181, 182, 183, 184, 185, 56, 58, 186, 18, 19, 10, 20, 21] (by decide +kernel) (by decide +kernel)
theorem ggX6_commandSucceeds_X2_readFigure_p3 : GoodIn wsX6_commandSucceeds wsX2_readFigure_r3 := goodIn_r _ [187, 188, 189, 190, 191, 97, 98, 99, 90] (by decide +kernel) (by decide +kernel)
theorem ggX6_commandSucceeds_X2_readFigure_p4 : GoodIn wsX6_commandSucceeds wsX20 := goodIn_r _ [215, 216, 217, 218, 219, 220] (by decide +kernel) (by decide +kernel)
theorem ggX6_commandSucceeds_X2_readFigure_p5 : GoodIn wsX6_commandSucceeds wsX40 := goodIn_r _ [221, 222, 223, 224, 225, 226] (by decide +kernel) (by decide +kernel)
theorem ggX6_commandSucceeds_X2_readFigure_p6 : GoodIn wsX6_commandSucceeds wsX00 := goodIn_r _ [227, 228, 229, 230, 231] (by decide +kernel) (by decide +kernel)
theorem ggX6_commandSucceeds_X2_readFigure : GoodIn wsX6_commandSucceeds wsX2_readFigure := (goodIn_c2 ggX6_commandSucceeds_X2_readFigure_p0 (goodIn_app (goodIn_app (goodIn_app (goodIn_app ggX6_commandSucceeds_X2_readFigure_p1 (goodIn_app ggX6_commandSucceeds_X2_readFigure_p2 ggX6_commandSucceeds_X2_readFigure_p3)) ggX6_commandSucceeds_X2_readFigure_p4) ggX6_commandSucceeds_X2_readFigure_p5) ggX6_commandSucceeds_X2_readFigure_p6))
set_option maxRecDepth 20000 in
theorem gX6_commandSucceeds_X2_readFigure : GoodIn wsX6_commandSucceeds (wsV RX6 207 RX2 yX2_readFigure wsX2_readFigure) := goodIn_app (goodIn_of _ (by decide +kernel)) ggX6_commandSucceeds_X2_readFigure
set_option maxRecDepth 20000 in
theorem ggX6_commandSucceeds_X6_practiseOn_p0 : GoodIn wsX6_commandSucceeds [.code yX6_practiseOn cX6_practiseOn 4 (some .int)] := goodIn_r _ [195] (by decide +kernel) (by decide +kernel)
theorem ggX6_commandSucceeds_X6_practiseOn_p1 : GoodIn wsX6_commandSucceeds wsX6_practiseOn_r1 := goodIn_r _ [196, 2, 197, 3, 198, 31, 32, 27, 33, 34, 22, 15, 23, 157, 158, 159, 160, 161, 162, 163, 164, 165, 166, 167] (by decide +kernel) (by decide +kernel)
theorem ggX6_commandSucceeds_X6_practiseOn_p2 : GoodIn wsX6_commandSucceeds wsX6_practiseOn_r2 := goodIn_r _ [168, 169, 170, 171, 172, 173, 174, 175, 57, 176, 177, 45, 46, 47, 48, 59, 60, 178, 106, 107, 108, 76, 179, 180] (by decide +kernel) (by decide +kernel)
theorem ggX6_commandSucceeds_X6_practiseOn_p3 : GoodIn wsX6_commandSucceeds wsX6_practiseOn_r3 := goodIn_r _ [181, 182, 183, 184, 185, 56, 58, 186, 18, 19, 10, 20, 21, 187, 188, 189, 190, 191, 97, 98, 99, 90, 199, 200] (by decide +kernel) (by decide +kernel)
theorem ggX6_commandSucceeds_X6_practiseOn_p4 : GoodIn wsX6_commandSucceeds wsX6_practiseOn_r4 := goodIn_r _ [201, 202, 203, 204, 205, 206, 207, 208, 120, 121, 122, 13, 12, 123, 124, 125, 126] (by decide +kernel) (by decide +kernel)
theorem ggX6_commandSucceeds_X6_practiseOn_p5 : GoodIn wsX6_commandSucceeds wsX40 := goodIn_r _ [221, 222, 223, 224, 225, 226] (by decide +kernel) (by decide +kernel)
theorem ggX6_commandSucceeds_X6_practiseOn_p6 : GoodIn wsX6_commandSucceeds wsX60 := goodIn_r _ [209, 210, 211, 212, 213, 214] (by decide +kernel) (by decide +kernel)
theorem ggX6_commandSucceeds_X6_practiseOn_p7 : GoodIn wsX6_commandSucceeds wsX20 := goodIn_r _ [215, 216, 217, 218, 219, 220] (by decide +kernel) (by decide +kernel)
theorem ggX6_commandSucceeds_X6_practiseOn_p8 : GoodIn wsX6_commandSucceeds wsX00 := goodIn_r _ [227, 228, 229, 230, 231] (by decide +kernel) (by decide +kernel)
theorem ggX6_commandSucceeds_X6_practiseOn : GoodIn wsX6_commandSucceeds wsX6_practiseOn := (goodIn_c2 ggX6_commandSucceeds_X6_practiseOn_p0 (goodIn_app (goodIn_app (goodIn_app (goodIn_app (goodIn_app ggX6_commandSucceeds_X6_practiseOn_p1 (goodIn_app ggX6_commandSucceeds_X6_practiseOn_p2 (goodIn_app ggX6_commandSucceeds_X6_practiseOn_p3 ggX6_commandSucceeds_X6_practiseOn_p4))) ggX6_commandSucceeds_X6_practiseOn_p5) ggX6_commandSucceeds_X6_practiseOn_p6) ggX6_commandSucceeds_X6_practiseOn_p7) ggX6_commandSucceeds_X6_practiseOn_p8))
set_option maxRecDepth 20000 in
theorem gX6_commandSucceeds_X6_practiseOn : GoodIn wsX6_commandSucceeds (wsV RX6 179 RX6 yX6_practiseOn wsX6_practiseOn) := goodIn_app (goodIn_of _ (by decide +kernel)) ggX6_commandSucceeds_X6_practiseOn
theorem dX6_commandSucceeds_0 : decode cX6_commandSucceeds 0 = .ok (.iload_n 1, 1) := by decide +kernel
theorem dX6_commandSucceeds_1 : decode cX6_commandSucceeds 1 = .ok (.sipush 1000, 3) := by decide +kernel
theorem dX6_commandSucceeds_4 : decode cX6_commandSucceeds 4 = .ok (.idiv, 1) := by decide +kernel
theorem dX6_commandSucceeds_5 : decode cX6_commandSucceeds 5 = .ok (.bipush 10, 2) := by decide +kernel
theorem dX6_commandSucceeds_7 : decode cX6_commandSucceeds 7 = .ok (.irem, 1) := by decide +kernel
theorem dX6_commandSucceeds_8 : decode cX6_commandSucceeds 8 = .ok (.istore_n 2, 1) := by decide +kernel
theorem dX6_commandSucceeds_9 : decode cX6_commandSucceeds 9 = .ok (.iload_n 1, 1) := by decide +kernel
theorem dX6_commandSucceeds_10 : decode cX6_commandSucceeds 10 = .ok (.bipush 100, 2) := by decide +kernel
theorem dX6_commandSucceeds_12 : decode cX6_commandSucceeds 12 = .ok (.idiv, 1) := by decide +kernel
theorem dX6_commandSucceeds_13 : decode cX6_commandSucceeds 13 = .ok (.bipush 10, 2) := by decide +kernel
theorem dX6_commandSucceeds_15 : decode cX6_commandSucceeds 15 = .ok (.irem, 1) := by decide +kernel
theorem dX6_commandSucceeds_16 : decode cX6_commandSucceeds 16 = .ok (.istore_n 3, 1) := by decide +kernel
theorem dX6_commandSucceeds_17 : decode cX6_commandSucceeds 17 = .ok (.iload_n 1, 1) := by decide +kernel
theorem dX6_commandSucceeds_18 : decode cX6_commandSucceeds 18 = .ok (.bipush 100, 2) := by decide +kernel
theorem dX6_commandSucceeds_20 : decode cX6_commandSucceeds 20 = .ok (.irem, 1) := by decide +kernel
theorem dX6_commandSucceeds_21 : decode cX6_commandSucceeds 21 = .ok (.istore 4, 2) := by decide +kernel
theorem dX6_commandSucceeds_23 : decode cX6_commandSucceeds 23 = .ok (.iload_n 2, 1) := by decide +kernel
theorem dX6_commandSucceeds_24 : decode cX6_commandSucceeds 24 = .ok (.ifCond .ne 11, 3) := by decide +kernel
theorem dX6_commandSucceeds_27 : decode cX6_commandSucceeds 27 = .ok (.iload_n 3, 1) := by decide +kernel
theorem dX6_commandSucceeds_28 : decode cX6_commandSucceeds 28 = .ok (.ifCond .ne 7, 3) := by decide +kernel
theorem dX6_commandSucceeds_31 : decode cX6_commandSucceeds 31 = .ok (.iconst 1, 1) := by decide +kernel
theorem dX6_commandSucceeds_32 : decode cX6_commandSucceeds 32 = .ok (.goto 4, 3) := by decide +kernel
theorem dX6_commandSucceeds_35 : decode cX6_commandSucceeds 35 = .ok (.iconst 0, 1) := by decide +kernel
theorem dX6_commandSucceeds_36 : decode cX6_commandSucceeds 36 = .ok (.istore 5, 2) := by decide +kernel
theorem dX6_commandSucceeds_38 : decode cX6_commandSucceeds 38 = .ok (.iload_n 3, 1) := by decide +kernel
theorem dX6_commandSucceeds_39 : decode cX6_commandSucceeds 39 = .ok (.ifCond .ne 12, 3) := by decide +kernel
theorem dX6_commandSucceeds_42 : decode cX6_commandSucceeds 42 = .ok (.iload 4, 2) := by decide +kernel
theorem dX6_commandSucceeds_44 : decode cX6_commandSucceeds 44 = .ok (.ifCond .ne 7, 3) := by decide +kernel
theorem dX6_commandSucceeds_47 : decode cX6_commandSucceeds 47 = .ok (.iconst 1, 1) := by decide +kernel
theorem dX6_commandSucceeds_48 : decode cX6_commandSucceeds 48 = .ok (.goto 4, 3) := by decide +kernel
theorem dX6_commandSucceeds_51 : decode cX6_commandSucceeds 51 = .ok (.iconst 0, 1) := by decide +kernel
theorem dX6_commandSucceeds_52 : decode cX6_commandSucceeds 52 = .ok (.istore 6, 2) := by decide +kernel
theorem dX6_commandSucceeds_54 : decode cX6_commandSucceeds 54 = .ok (.iload_n 1, 1) := by decide +kernel
theorem dX6_commandSucceeds_55 : decode cX6_commandSucceeds 55 = .ok (.sipush 10000, 3) := by decide +kernel
theorem dX6_commandSucceeds_58 : decode cX6_commandSucceeds 58 = .ok (.idiv, 1) := by decide +kernel
theorem dX6_commandSucceeds_59 : decode cX6_commandSucceeds 59 = .ok (.tableswitch 294 1 9 #[49, 65, 87, 109, 132, 164, 200, 223, 271], 49) := by decide +kernel
theorem dX6_commandSucceeds_108 : decode cX6_commandSucceeds 108 = .ok (.aload_n 0, 1) := by decide +kernel
theorem dX6_commandSucceeds_109 : decode cX6_commandSucceeds 109 = .ok (.getfield 16, 3) := by decide +kernel
theorem dX6_commandSucceeds_112 : decode cX6_commandSucceeds 112 = .ok (.iload_n 2, 1) := by decide +kernel
theorem dX6_commandSucceeds_113 : decode cX6_commandSucceeds 113 = .ok (.bipush 10, 2) := by decide +kernel
theorem dX6_commandSucceeds_115 : decode cX6_commandSucceeds 115 = .ok (.imul, 1) := by decide +kernel
theorem dX6_commandSucceeds_116 : decode cX6_commandSucceeds 116 = .ok (.iload_n 3, 1) := by decide +kernel
theorem dX6_commandSucceeds_117 : decode cX6_commandSucceeds 117 = .ok (.iadd, 1) := by decide +kernel
theorem dX6_commandSucceeds_118 : decode cX6_commandSucceeds 118 = .ok (.iload 4, 2) := by decide +kernel
theorem dX6_commandSucceeds_120 : decode cX6_commandSucceeds 120 = .ok (.invokevirtual 142, 3) := by decide +kernel
theorem dX6_commandSucceeds_123 : decode cX6_commandSucceeds 123 = .ok (.ireturn, 1) := by decide +kernel
theorem dX6_commandSucceeds_124 : decode cX6_commandSucceeds 124 = .ok (.aload_n 0, 1) := by decide +kernel
theorem dX6_commandSucceeds_125 : decode cX6_commandSucceeds 125 = .ok (.getfield 16, 3) := by decide +kernel
theorem dX6_commandSucceeds_128 : decode cX6_commandSucceeds 128 = .ok (.invokevirtual 154, 3) := by decide +kernel
theorem dX6_commandSucceeds_131 : decode cX6_commandSucceeds 131 = .ok (.iload_n 2, 1) := by decide +kernel
theorem dX6_commandSucceeds_132 : decode cX6_commandSucceeds 132 = .ok (.ifCond .ne 12, 3) := by decide +kernel
theorem dX6_commandSucceeds_135 : decode cX6_commandSucceeds 135 = .ok (.iload 6, 2) := by decide +kernel
theorem dX6_commandSucceeds_137 : decode cX6_commandSucceeds 137 = .ok (.ifCond .eq 7, 3) := by decide +kernel
theorem dX6_commandSucceeds_140 : decode cX6_commandSucceeds 140 = .ok (.iconst 1, 1) := by decide +kernel
theorem dX6_commandSucceeds_141 : decode cX6_commandSucceeds 141 = .ok (.goto 4, 3) := by decide +kernel
theorem dX6_commandSucceeds_144 : decode cX6_commandSucceeds 144 = .ok (.iconst 0, 1) := by decide +kernel
theorem dX6_commandSucceeds_145 : decode cX6_commandSucceeds 145 = .ok (.ireturn, 1) := by decide +kernel
theorem dX6_commandSucceeds_146 : decode cX6_commandSucceeds 146 = .ok (.iload 6, 2) := by decide +kernel
theorem dX6_commandSucceeds_148 : decode cX6_commandSucceeds 148 = .ok (.ifCond .eq 18, 3) := by decide +kernel
theorem dX6_commandSucceeds_151 : decode cX6_commandSucceeds 151 = .ok (.aload_n 0, 1) := by decide +kernel
theorem dX6_commandSucceeds_152 : decode cX6_commandSucceeds 152 = .ok (.getfield 16, 3) := by decide +kernel
theorem dX6_commandSucceeds_155 : decode cX6_commandSucceeds 155 = .ok (.iload_n 2, 1) := by decide +kernel
theorem dX6_commandSucceeds_156 : decode cX6_commandSucceeds 156 = .ok (.invokevirtual 171, 3) := by decide +kernel
theorem dX6_commandSucceeds_159 : decode cX6_commandSucceeds 159 = .ok (.ifCond .eq 7, 3) := by decide +kernel
theorem dX6_commandSucceeds_162 : decode cX6_commandSucceeds 162 = .ok (.iconst 1, 1) := by decide +kernel
theorem dX6_commandSucceeds_163 : decode cX6_commandSucceeds 163 = .ok (.goto 4, 3) := by decide +kernel
theorem dX6_commandSucceeds_166 : decode cX6_commandSucceeds 166 = .ok (.iconst 0, 1) := by decide +kernel
theorem dX6_commandSucceeds_167 : decode cX6_commandSucceeds 167 = .ok (.ireturn, 1) := by decide +kernel
theorem dX6_commandSucceeds_168 : decode cX6_commandSucceeds 168 = .ok (.iload 5, 2) := by decide +kernel
theorem dX6_commandSucceeds_170 : decode cX6_commandSucceeds 170 = .ok (.ifCond .eq 19, 3) := by decide +kernel
theorem dX6_commandSucceeds_173 : decode cX6_commandSucceeds 173 = .ok (.aload_n 0, 1) := by decide +kernel
theorem dX6_commandSucceeds_174 : decode cX6_commandSucceeds 174 = .ok (.getfield 16, 3) := by decide +kernel
theorem dX6_commandSucceeds_177 : decode cX6_commandSucceeds 177 = .ok (.iload 4, 2) := by decide +kernel
theorem dX6_commandSucceeds_179 : decode cX6_commandSucceeds 179 = .ok (.invokevirtual 176, 3) := by decide +kernel
theorem dX6_commandSucceeds_182 : decode cX6_commandSucceeds 182 = .ok (.ifCond .eq 7, 3) := by decide +kernel
theorem dX6_commandSucceeds_185 : decode cX6_commandSucceeds 185 = .ok (.iconst 1, 1) := by decide +kernel
theorem dX6_commandSucceeds_186 : decode cX6_commandSucceeds 186 = .ok (.goto 4, 3) := by decide +kernel
theorem dX6_commandSucceeds_189 : decode cX6_commandSucceeds 189 = .ok (.iconst 0, 1) := by decide +kernel
theorem dX6_commandSucceeds_190 : decode cX6_commandSucceeds 190 = .ok (.ireturn, 1) := by decide +kernel
theorem dX6_commandSucceeds_191 : decode cX6_commandSucceeds 191 = .ok (.iload_n 3, 1) := by decide +kernel
theorem dX6_commandSucceeds_192 : decode cX6_commandSucceeds 192 = .ok (.ifCond .ne 29, 3) := by decide +kernel
theorem dX6_commandSucceeds_195 : decode cX6_commandSucceeds 195 = .ok (.iload_n 2, 1) := by decide +kernel
theorem dX6_commandSucceeds_196 : decode cX6_commandSucceeds 196 = .ok (.iload 4, 2) := by decide +kernel
theorem dX6_commandSucceeds_198 : decode cX6_commandSucceeds 198 = .ok (.invokestatic 185, 3) := by decide +kernel
theorem dX6_commandSucceeds_201 : decode cX6_commandSucceeds 201 = .ok (.ifCond .eq 20, 3) := by decide +kernel
theorem dX6_commandSucceeds_204 : decode cX6_commandSucceeds 204 = .ok (.aload_n 0, 1) := by decide +kernel
theorem dX6_commandSucceeds_205 : decode cX6_commandSucceeds 205 = .ok (.getfield 16, 3) := by decide +kernel
theorem dX6_commandSucceeds_208 : decode cX6_commandSucceeds 208 = .ok (.iload_n 2, 1) := by decide +kernel
theorem dX6_commandSucceeds_209 : decode cX6_commandSucceeds 209 = .ok (.iload 4, 2) := by decide +kernel
theorem dX6_commandSucceeds_211 : decode cX6_commandSucceeds 211 = .ok (.invokevirtual 190, 3) := by decide +kernel
theorem dX6_commandSucceeds_214 : decode cX6_commandSucceeds 214 = .ok (.ifCond .eq 7, 3) := by decide +kernel
theorem dX6_commandSucceeds_217 : decode cX6_commandSucceeds 217 = .ok (.iconst 1, 1) := by decide +kernel
theorem dX6_commandSucceeds_218 : decode cX6_commandSucceeds 218 = .ok (.goto 4, 3) := by decide +kernel
theorem dX6_commandSucceeds_221 : decode cX6_commandSucceeds 221 = .ok (.iconst 0, 1) := by decide +kernel
theorem dX6_commandSucceeds_222 : decode cX6_commandSucceeds 222 = .ok (.ireturn, 1) := by decide +kernel
theorem dX6_commandSucceeds_223 : decode cX6_commandSucceeds 223 = .ok (.aload_n 0, 1) := by decide +kernel
theorem dX6_commandSucceeds_224 : decode cX6_commandSucceeds 224 = .ok (.getfield 22, 3) := by decide +kernel
theorem dX6_commandSucceeds_227 : decode cX6_commandSucceeds 227 = .ok (.aload_n 0, 1) := by decide +kernel
theorem dX6_commandSucceeds_228 : decode cX6_commandSucceeds 228 = .ok (.getfield 16, 3) := by decide +kernel
theorem dX6_commandSucceeds_231 : decode cX6_commandSucceeds 231 = .ok (.bipush 16, 2) := by decide +kernel
theorem dX6_commandSucceeds_233 : decode cX6_commandSucceeds 233 = .ok (.iconst (-1), 1) := by decide +kernel
theorem dX6_commandSucceeds_234 : decode cX6_commandSucceeds 234 = .ok (.invokevirtual 207, 3) := by decide +kernel
theorem dX6_commandSucceeds_237 : decode cX6_commandSucceeds 237 = .ok (.iload 6, 2) := by decide +kernel
theorem dX6_commandSucceeds_239 : decode cX6_commandSucceeds 239 = .ok (.ifCond .eq 18, 3) := by decide +kernel
theorem dX6_commandSucceeds_242 : decode cX6_commandSucceeds 242 = .ok (.aload_n 0, 1) := by decide +kernel
theorem dX6_commandSucceeds_243 : decode cX6_commandSucceeds 243 = .ok (.getfield 22, 3) := by decide +kernel
theorem dX6_commandSucceeds_246 : decode cX6_commandSucceeds 246 = .ok (.getfield 214, 3) := by decide +kernel
theorem dX6_commandSucceeds_249 : decode cX6_commandSucceeds 249 = .ok (.iload_n 2, 1) := by decide +kernel
theorem dX6_commandSucceeds_250 : decode cX6_commandSucceeds 250 = .ok (.if_icmp .ne 7, 3) := by decide +kernel
theorem dX6_commandSucceeds_253 : decode cX6_commandSucceeds 253 = .ok (.iconst 1, 1) := by decide +kernel
theorem dX6_commandSucceeds_254 : decode cX6_commandSucceeds 254 = .ok (.goto 4, 3) := by decide +kernel
theorem dX6_commandSucceeds_257 : decode cX6_commandSucceeds 257 = .ok (.iconst 0, 1) := by decide +kernel
theorem dX6_commandSucceeds_258 : decode cX6_commandSucceeds 258 = .ok (.ireturn, 1) := by decide +kernel
theorem dX6_commandSucceeds_259 : decode cX6_commandSucceeds 259 = .ok (.iload 5, 2) := by decide +kernel
theorem dX6_commandSucceeds_261 : decode cX6_commandSucceeds 261 = .ok (.ifCond .eq 19, 3) := by decide +kernel
theorem dX6_commandSucceeds_264 : decode cX6_commandSucceeds 264 = .ok (.aload_n 0, 1) := by decide +kernel
theorem dX6_commandSucceeds_265 : decode cX6_commandSucceeds 265 = .ok (.getfield 16, 3) := by decide +kernel
theorem dX6_commandSucceeds_268 : decode cX6_commandSucceeds 268 = .ok (.getfield 92, 3) := by decide +kernel
theorem dX6_commandSucceeds_271 : decode cX6_commandSucceeds 271 = .ok (.iload 4, 2) := by decide +kernel
theorem dX6_commandSucceeds_273 : decode cX6_commandSucceeds 273 = .ok (.if_icmp .lt 7, 3) := by decide +kernel
theorem dX6_commandSucceeds_276 : decode cX6_commandSucceeds 276 = .ok (.iconst 1, 1) := by decide +kernel
theorem dX6_commandSucceeds_277 : decode cX6_commandSucceeds 277 = .ok (.goto 4, 3) := by decide +kernel
theorem dX6_commandSucceeds_280 : decode cX6_commandSucceeds 280 = .ok (.iconst 0, 1) := by decide +kernel
theorem dX6_commandSucceeds_281 : decode cX6_commandSucceeds 281 = .ok (.ireturn, 1) := by decide +kernel
theorem dX6_commandSucceeds_282 : decode cX6_commandSucceeds 282 = .ok (.aload_n 0, 1) := by decide +kernel
theorem dX6_commandSucceeds_283 : decode cX6_commandSucceeds 283 = .ok (.getfield 22, 3) := by decide +kernel
theorem dX6_commandSucceeds_286 : decode cX6_commandSucceeds 286 = .ok (.aload_n 0, 1) := by decide +kernel
theorem dX6_commandSucceeds_287 : decode cX6_commandSucceeds 287 = .ok (.getfield 16, 3) := by decide +kernel
theorem dX6_commandSucceeds_290 : decode cX6_commandSucceeds 290 = .ok (.bipush 16, 2) := by decide +kernel
theorem dX6_commandSucceeds_292 : decode cX6_commandSucceeds 292 = .ok (.iconst (-1), 1) := by decide +kernel
theorem dX6_commandSucceeds_293 : decode cX6_commandSucceeds 293 = .ok (.invokevirtual 207, 3) := by decide +kernel
theorem dX6_commandSucceeds_296 : decode cX6_commandSucceeds 296 = .ok (.iload 5, 2) := by decide +kernel
theorem dX6_commandSucceeds_298 : decode cX6_commandSucceeds 298 = .ok (.ifCond .eq 30, 3) := by decide +kernel
theorem dX6_commandSucceeds_301 : decode cX6_commandSucceeds 301 = .ok (.aload_n 0, 1) := by decide +kernel
theorem dX6_commandSucceeds_302 : decode cX6_commandSucceeds 302 = .ok (.getfield 22, 3) := by decide +kernel
theorem dX6_commandSucceeds_305 : decode cX6_commandSucceeds 305 = .ok (.getfield 220, 3) := by decide +kernel
theorem dX6_commandSucceeds_308 : decode cX6_commandSucceeds 308 = .ok (.iconst (-1), 1) := by decide +kernel
theorem dX6_commandSucceeds_309 : decode cX6_commandSucceeds 309 = .ok (.if_icmp .eq 19, 3) := by decide +kernel
theorem dX6_commandSucceeds_312 : decode cX6_commandSucceeds 312 = .ok (.aload_n 0, 1) := by decide +kernel
theorem dX6_commandSucceeds_313 : decode cX6_commandSucceeds 313 = .ok (.getfield 22, 3) := by decide +kernel
theorem dX6_commandSucceeds_316 : decode cX6_commandSucceeds 316 = .ok (.getfield 217, 3) := by decide +kernel
theorem dX6_commandSucceeds_319 : decode cX6_commandSucceeds 319 = .ok (.iload 4, 2) := by decide +kernel
theorem dX6_commandSucceeds_321 : decode cX6_commandSucceeds 321 = .ok (.if_icmp .gt 7, 3) := by decide +kernel
theorem dX6_commandSucceeds_324 : decode cX6_commandSucceeds 324 = .ok (.iconst 1, 1) := by decide +kernel
theorem dX6_commandSucceeds_325 : decode cX6_commandSucceeds 325 = .ok (.goto 4, 3) := by decide +kernel
theorem dX6_commandSucceeds_328 : decode cX6_commandSucceeds 328 = .ok (.iconst 0, 1) := by decide +kernel
theorem dX6_commandSucceeds_329 : decode cX6_commandSucceeds 329 = .ok (.ireturn, 1) := by decide +kernel
theorem dX6_commandSucceeds_330 : decode cX6_commandSucceeds 330 = .ok (.iload 6, 2) := by decide +kernel
theorem dX6_commandSucceeds_332 : decode cX6_commandSucceeds 332 = .ok (.ifCond .eq 19, 3) := by decide +kernel
theorem dX6_commandSucceeds_335 : decode cX6_commandSucceeds 335 = .ok (.aload_n 0, 1) := by decide +kernel
theorem dX6_commandSucceeds_336 : decode cX6_commandSucceeds 336 = .ok (.aload_n 0, 1) := by decide +kernel
theorem dX6_commandSucceeds_337 : decode cX6_commandSucceeds 337 = .ok (.getfield 16, 3) := by decide +kernel
theorem dX6_commandSucceeds_340 : decode cX6_commandSucceeds 340 = .ok (.iload_n 2, 1) := by decide +kernel
theorem dX6_commandSucceeds_341 : decode cX6_commandSucceeds 341 = .ok (.invokevirtual 179, 3) := by decide +kernel
theorem dX6_commandSucceeds_344 : decode cX6_commandSucceeds 344 = .ok (.ifCond .ne 7, 3) := by decide +kernel
theorem dX6_commandSucceeds_347 : decode cX6_commandSucceeds 347 = .ok (.iconst 1, 1) := by decide +kernel
theorem dX6_commandSucceeds_348 : decode cX6_commandSucceeds 348 = .ok (.goto 4, 3) := by decide +kernel
theorem dX6_commandSucceeds_351 : decode cX6_commandSucceeds 351 = .ok (.iconst 0, 1) := by decide +kernel
theorem dX6_commandSucceeds_352 : decode cX6_commandSucceeds 352 = .ok (.ireturn, 1) := by decide +kernel
theorem dX6_commandSucceeds_353 : decode cX6_commandSucceeds 353 = .ok (.iconst 0, 1) := by decide +kernel
theorem dX6_commandSucceeds_354 : decode cX6_commandSucceeds 354 = .ok (.ireturn, 1) := by decide +kernel
set_option maxRecDepth 20000 in
theorem ggX6_takeTurn_X4_keepHand_p0 : GoodIn wsX6_takeTurn [.code yX4_keepHand cX4_keepHand 2 (some .boolean)] := goodIn_r _ [7] (by decide +kernel) (by decide +kernel)
theorem ggX6_takeTurn_X4_keepHand_p1 : GoodIn wsX6_takeTurn wsX4_keepHand_r1 := goodIn_r _ [8, 9, 10, 11, 12, 13, 14, 15, 16, 17, 18, 19, 20, 21, 22, 6, 23, 24, 25, 26, 27, 28, 29, 30] (by decide +kernel) (by decide +kernel)
theorem ggX6_takeTurn_X4_keepHand_p2 : GoodIn wsX6_takeTurn wsX4_keepHand_r2 := goodIn_r _ [31, 32, 33, 34, 35, 36, 37, 38, 39, 40, 41, 42, 43, 44, 45, 46, 47, 48, 49, 50, 51, 52, 53, 54] (by decide +kernel) (by decide +kernel)
theorem ggX6_takeTurn_X4_keepHand_p3 : GoodIn wsX6_takeTurn wsX4_keepHand_r3 := goodIn_r _ [55, 56, 57, 58, 59, 60, 61, 62, 63, 64] (by decide +kernel) (by decide +kernel)
theorem ggX6_takeTurn_X4_keepHand_p4 : GoodIn wsX6_takeTurn wsX40 := goodIn_r _ [183, 184, 185, 186, 187, 188] (by decide +kernel) (by decide +kernel)
theorem ggX6_takeTurn_X4_keepHand_p5 : GoodIn wsX6_takeTurn wsX00 := goodIn_r _ [189, 190, 191, 192, 193] (by decide +kernel) (by decide +kernel)
theorem ggX6_takeTurn_X4_keepHand : GoodIn wsX6_takeTurn wsX4_keepHand := (goodIn_c2 ggX6_takeTurn_X4_keepHand_p0 (goodIn_app (goodIn_app (goodIn_app ggX6_takeTurn_X4_keepHand_p1 (goodIn_app ggX6_takeTurn_X4_keepHand_p2 ggX6_takeTurn_X4_keepHand_p3)) ggX6_takeTurn_X4_keepHand_p4) ggX6_takeTurn_X4_keepHand_p5))
set_option maxRecDepth 20000 in
theorem gX6_takeTurn_X4_keepHand : GoodIn wsX6_takeTurn (wsV RX6 171 RX4 yX4_keepHand wsX4_keepHand) := goodIn_app (goodIn_of _ (by decide +kernel)) ggX6_takeTurn_X4_keepHand
set_option maxRecDepth 20000 in
theorem ggX6_takeTurn_X6_practiseOn_p0 : GoodIn wsX6_takeTurn [.code yX6_practiseOn cX6_practiseOn 4 (some .int)] := goodIn_r _ [68] (by decide +kernel) (by decide +kernel)
theorem ggX6_takeTurn_X6_practiseOn_p1 : GoodIn wsX6_takeTurn wsX6_practiseOn_r1 := goodIn_r _ [69, 70, 71, 72, 73, 12, 13, 14, 15, 16, 17, 18, 19, 74, 75, 76, 77, 78, 79, 80, 81, 82, 83, 84] (by decide +kernel) (by decide +kernel)
theorem ggX6_takeTurn_X6_practiseOn_p2 : GoodIn wsX6_takeTurn wsX6_practiseOn_r2 := goodIn_r _ [85, 86, 87, 88, 89, 90, 91, 92, 93, 94, 95, 33, 34, 35, 36, 54, 55, 96, 38, 39, 40, 41, 97, 98] (by decide +kernel) (by decide +kernel)
theorem ggX6_takeTurn_X6_practiseOn_p3 : GoodIn wsX6_takeTurn wsX6_practiseOn_r3 := goodIn_r _ [99, 100, 101, 102, 103, 104, 105, 106, 107, 108, 6, 109, 110, 111, 112, 113, 114, 115, 25, 26, 27, 10, 116, 117] (by decide +kernel) (by decide +kernel)
theorem ggX6_takeTurn_X6_practiseOn_p4 : GoodIn wsX6_takeTurn wsX6_practiseOn_r4 := goodIn_r _ [118, 119, 120, 121, 122, 123, 124, 125, 57, 58, 59, 8, 60, 61, 62, 63, 64] (by decide +kernel) (by decide +kernel)
theorem ggX6_takeTurn_X6_practiseOn_p5 : GoodIn wsX6_takeTurn wsX40 := goodIn_r _ [183, 184, 185, 186, 187, 188] (by decide +kernel) (by decide +kernel)
theorem ggX6_takeTurn_X6_practiseOn_p6 : GoodIn wsX6_takeTurn wsX60 := goodIn_r _ [177, 178, 179, 180, 181, 182] (by decide +kernel) (by decide +kernel)
theorem ggX6_takeTurn_X6_practiseOn_p7 : GoodIn wsX6_takeTurn wsX20 := goodIn_r _ [194, 195, 196, 197, 198, 199] (by decide +kernel) (by decide +kernel)
theorem ggX6_takeTurn_X6_practiseOn_p8 : GoodIn wsX6_takeTurn wsX00 := goodIn_r _ [189, 190, 191, 192, 193] (by decide +kernel) (by decide +kernel)
theorem ggX6_takeTurn_X6_practiseOn : GoodIn wsX6_takeTurn wsX6_practiseOn := (goodIn_c2 ggX6_takeTurn_X6_practiseOn_p0 (goodIn_app (goodIn_app (goodIn_app (goodIn_app (goodIn_app ggX6_takeTurn_X6_practiseOn_p1 (goodIn_app ggX6_takeTurn_X6_practiseOn_p2 (goodIn_app ggX6_takeTurn_X6_practiseOn_p3 ggX6_takeTurn_X6_practiseOn_p4))) ggX6_takeTurn_X6_practiseOn_p5) ggX6_takeTurn_X6_practiseOn_p6) ggX6_takeTurn_X6_practiseOn_p7) ggX6_takeTurn_X6_practiseOn_p8))
set_option maxRecDepth 20000 in
theorem gX6_takeTurn_X6_practiseOn : GoodIn wsX6_takeTurn (wsV RX6 179 RX6 yX6_practiseOn wsX6_practiseOn) := goodIn_app (goodIn_of _ (by decide +kernel)) ggX6_takeTurn_X6_practiseOn
set_option maxRecDepth 20000 in
theorem ggX6_takeTurn_X4_liftPen : GoodIn wsX6_takeTurn wsX4_liftPen := goodIn_r _ [129, 60, 183, 184, 185, 186, 187, 188] (by decide +kernel) (by decide +kernel)
set_option maxRecDepth 20000 in
theorem gX6_takeTurn_X4_liftPen : GoodIn wsX6_takeTurn (wsV RX6 154 RX4 yX4_liftPen wsX4_liftPen) := goodIn_app (goodIn_of _ (by decide +kernel)) ggX6_takeTurn_X4_liftPen
set_option maxRecDepth 20000 in
theorem ggX6_takeTurn_X4_addPoint_p0 : GoodIn wsX6_takeTurn [.code yX4_addPoint cX4_addPoint 5 (some .boolean)] := goodIn_r _ [133] (by decide +kernel) (by decide +kernel)
theorem ggX6_takeTurn_X4_addPoint_p1 : GoodIn wsX6_takeTurn wsX4_addPoint_r1 := goodIn_r _ [60, 8, 134, 18, 135, 136, 107, 108, 6, 109, 110, 17, 19, 137, 138, 139, 14, 140, 46, 141, 12, 13, 15, 16] (by decide +kernel) (by decide +kernel)
theorem ggX6_takeTurn_X4_addPoint_p2 : GoodIn wsX6_takeTurn wsX4_addPoint_r2 := goodIn_r _ [142, 143, 144, 145, 146, 147, 148, 149, 47, 150, 33, 34, 35, 36, 151, 152, 153, 154, 155, 156, 157, 104, 93, 105] (by decide +kernel) (by decide +kernel)
theorem ggX6_takeTurn_X4_addPoint_p3 : GoodIn wsX6_takeTurn wsX4_addPoint_r3 := goodIn_r _ [54, 55, 158, 159, 160, 161, 162, 163, 164, 165, 166, 167, 168, 169, 170, 171, 172, 41, 173, 174, 175, 176] (by decide +kernel) (by decide +kernel)
theorem ggX6_takeTurn_X4_addPoint_p4 : GoodIn wsX6_takeTurn wsX40 := goodIn_r _ [183, 184, 185, 186, 187, 188] (by decide +kernel) (by decide +kernel)
theorem ggX6_takeTurn_X4_addPoint_p5 : GoodIn wsX6_takeTurn wsX00 := goodIn_r _ [189, 190, 191, 192, 193] (by decide +kernel) (by decide +kernel)
theorem ggX6_takeTurn_X4_addPoint : GoodIn wsX6_takeTurn wsX4_addPoint := (goodIn_c2 ggX6_takeTurn_X4_addPoint_p0 (goodIn_app (goodIn_app (goodIn_app ggX6_takeTurn_X4_addPoint_p1 (goodIn_app ggX6_takeTurn_X4_addPoint_p2 ggX6_takeTurn_X4_addPoint_p3)) ggX6_takeTurn_X4_addPoint_p4) ggX6_takeTurn_X4_addPoint_p5))
set_option maxRecDepth 20000 in
theorem gX6_takeTurn_X4_addPoint : GoodIn wsX6_takeTurn (wsV RX6 142 RX4 yX4_addPoint wsX4_addPoint) := goodIn_app (goodIn_of _ (by decide +kernel)) ggX6_takeTurn_X4_addPoint
theorem dX6_takeTurn_0 : decode cX6_takeTurn 0 = .ok (.iload_n 1, 1) := by decide +kernel
theorem dX6_takeTurn_1 : decode cX6_takeTurn 1 = .ok (.bipush 16, 2) := by decide +kernel
theorem dX6_takeTurn_3 : decode cX6_takeTurn 3 = .ok (.irem, 1) := by decide +kernel
theorem dX6_takeTurn_4 : decode cX6_takeTurn 4 = .ok (.tableswitch 75 0 2 #[28, 46, 65], 28) := by decide +kernel
theorem dX6_takeTurn_32 : decode cX6_takeTurn 32 = .ok (.aload_n 0, 1) := by decide +kernel
theorem dX6_takeTurn_33 : decode cX6_takeTurn 33 = .ok (.getfield 16, 3) := by decide +kernel
theorem dX6_takeTurn_36 : decode cX6_takeTurn 36 = .ok (.iload_n 1, 1) := by decide +kernel
theorem dX6_takeTurn_37 : decode cX6_takeTurn 37 = .ok (.bipush 16, 2) := by decide +kernel
theorem dX6_takeTurn_39 : decode cX6_takeTurn 39 = .ok (.idiv, 1) := by decide +kernel
theorem dX6_takeTurn_40 : decode cX6_takeTurn 40 = .ok (.bipush 10, 2) := by decide +kernel
theorem dX6_takeTurn_42 : decode cX6_takeTurn 42 = .ok (.irem, 1) := by decide +kernel
theorem dX6_takeTurn_43 : decode cX6_takeTurn 43 = .ok (.invokevirtual 171, 3) := by decide +kernel
theorem dX6_takeTurn_46 : decode cX6_takeTurn 46 = .ok (.pop, 1) := by decide +kernel
theorem dX6_takeTurn_47 : decode cX6_takeTurn 47 = .ok (.goto 73, 3) := by decide +kernel
theorem dX6_takeTurn_50 : decode cX6_takeTurn 50 = .ok (.aload_n 0, 1) := by decide +kernel
theorem dX6_takeTurn_51 : decode cX6_takeTurn 51 = .ok (.aload_n 0, 1) := by decide +kernel
theorem dX6_takeTurn_52 : decode cX6_takeTurn 52 = .ok (.getfield 16, 3) := by decide +kernel
theorem dX6_takeTurn_55 : decode cX6_takeTurn 55 = .ok (.iload_n 1, 1) := by decide +kernel
theorem dX6_takeTurn_56 : decode cX6_takeTurn 56 = .ok (.bipush 16, 2) := by decide +kernel
theorem dX6_takeTurn_58 : decode cX6_takeTurn 58 = .ok (.idiv, 1) := by decide +kernel
theorem dX6_takeTurn_59 : decode cX6_takeTurn 59 = .ok (.bipush 10, 2) := by decide +kernel
theorem dX6_takeTurn_61 : decode cX6_takeTurn 61 = .ok (.irem, 1) := by decide +kernel
theorem dX6_takeTurn_62 : decode cX6_takeTurn 62 = .ok (.invokevirtual 179, 3) := by decide +kernel
theorem dX6_takeTurn_65 : decode cX6_takeTurn 65 = .ok (.pop, 1) := by decide +kernel
theorem dX6_takeTurn_66 : decode cX6_takeTurn 66 = .ok (.goto 54, 3) := by decide +kernel
theorem dX6_takeTurn_69 : decode cX6_takeTurn 69 = .ok (.aload_n 0, 1) := by decide +kernel
theorem dX6_takeTurn_70 : decode cX6_takeTurn 70 = .ok (.getfield 16, 3) := by decide +kernel
theorem dX6_takeTurn_73 : decode cX6_takeTurn 73 = .ok (.invokevirtual 154, 3) := by decide +kernel
theorem dX6_takeTurn_76 : decode cX6_takeTurn 76 = .ok (.goto 44, 3) := by decide +kernel
theorem dX6_takeTurn_79 : decode cX6_takeTurn 79 = .ok (.aload_n 0, 1) := by decide +kernel
theorem dX6_takeTurn_80 : decode cX6_takeTurn 80 = .ok (.getfield 16, 3) := by decide +kernel
theorem dX6_takeTurn_83 : decode cX6_takeTurn 83 = .ok (.iload_n 1, 1) := by decide +kernel
theorem dX6_takeTurn_84 : decode cX6_takeTurn 84 = .ok (.bipush 16, 2) := by decide +kernel
theorem dX6_takeTurn_86 : decode cX6_takeTurn 86 = .ok (.idiv, 1) := by decide +kernel
theorem dX6_takeTurn_87 : decode cX6_takeTurn 87 = .ok (.bipush 61, 2) := by decide +kernel
theorem dX6_takeTurn_89 : decode cX6_takeTurn 89 = .ok (.irem, 1) := by decide +kernel
theorem dX6_takeTurn_90 : decode cX6_takeTurn 90 = .ok (.iload_n 1, 1) := by decide +kernel
theorem dX6_takeTurn_91 : decode cX6_takeTurn 91 = .ok (.sipush 1024, 3) := by decide +kernel
theorem dX6_takeTurn_94 : decode cX6_takeTurn 94 = .ok (.idiv, 1) := by decide +kernel
theorem dX6_takeTurn_95 : decode cX6_takeTurn 95 = .ok (.bipush 61, 2) := by decide +kernel
theorem dX6_takeTurn_97 : decode cX6_takeTurn 97 = .ok (.irem, 1) := by decide +kernel
theorem dX6_takeTurn_98 : decode cX6_takeTurn 98 = .ok (.invokevirtual 142, 3) := by decide +kernel
theorem dX6_takeTurn_101 : decode cX6_takeTurn 101 = .ok (.ifCond .ne 19, 3) := by decide +kernel
theorem dX6_takeTurn_104 : decode cX6_takeTurn 104 = .ok (.aload_n 0, 1) := by decide +kernel
theorem dX6_takeTurn_105 : decode cX6_takeTurn 105 = .ok (.getfield 16, 3) := by decide +kernel
theorem dX6_takeTurn_108 : decode cX6_takeTurn 108 = .ok (.iload_n 1, 1) := by decide +kernel
theorem dX6_takeTurn_109 : decode cX6_takeTurn 109 = .ok (.ldc_w 294, 3) := by decide +kernel
theorem dX6_takeTurn_112 : decode cX6_takeTurn 112 = .ok (.idiv, 1) := by decide +kernel
theorem dX6_takeTurn_113 : decode cX6_takeTurn 113 = .ok (.bipush 10, 2) := by decide +kernel
theorem dX6_takeTurn_115 : decode cX6_takeTurn 115 = .ok (.irem, 1) := by decide +kernel
theorem dX6_takeTurn_116 : decode cX6_takeTurn 116 = .ok (.invokevirtual 171, 3) := by decide +kernel
theorem dX6_takeTurn_119 : decode cX6_takeTurn 119 = .ok (.pop, 1) := by decide +kernel
theorem dX6_takeTurn_120 : decode cX6_takeTurn 120 = .ok (.return_, 1) := by decide +kernel
theorem dJ9_abs_0f7a4_0 : decode cJ9_abs_0f7a4 0 = .ok (.iload_n 0, 1) := by decide +kernel
theorem dJ9_abs_0f7a4_1 : decode cJ9_abs_0f7a4 1 = .ok (.ifCond .ge 8, 3) := by decide +kernel
theorem dJ9_abs_0f7a4_4 : decode cJ9_abs_0f7a4 4 = .ok (.iload_n 0, 1) := by decide +kernel
theorem dJ9_abs_0f7a4_5 : decode cJ9_abs_0f7a4 5 = .ok (.ineg, 1) := by decide +kernel
theorem dJ9_abs_0f7a4_6 : decode cJ9_abs_0f7a4 6 = .ok (.goto 4, 3) := by decide +kernel
theorem dJ9_abs_0f7a4_9 : decode cJ9_abs_0f7a4 9 = .ok (.iload_n 0, 1) := by decide +kernel
theorem dJ9_abs_0f7a4_10 : decode cJ9_abs_0f7a4 10 = .ok (.ireturn, 1) := by decide +kernel
theorem dJ9_max_7cf53_0 : decode cJ9_max_7cf53 0 = .ok (.iload_n 0, 1) := by decide +kernel
theorem dJ9_max_7cf53_1 : decode cJ9_max_7cf53 1 = .ok (.iload_n 1, 1) := by decide +kernel
theorem dJ9_max_7cf53_2 : decode cJ9_max_7cf53 2 = .ok (.if_icmp .lt 7, 3) := by decide +kernel
theorem dJ9_max_7cf53_5 : decode cJ9_max_7cf53 5 = .ok (.iload_n 0, 1) := by decide +kernel
theorem dJ9_max_7cf53_6 : decode cJ9_max_7cf53 6 = .ok (.goto 4, 3) := by decide +kernel
theorem dJ9_max_7cf53_9 : decode cJ9_max_7cf53 9 = .ok (.iload_n 1, 1) := by decide +kernel
theorem dJ9_max_7cf53_10 : decode cJ9_max_7cf53 10 = .ok (.ireturn, 1) := by decide +kernel
theorem dJ9_min_7cf53_0 : decode cJ9_min_7cf53 0 = .ok (.iload_n 0, 1) := by decide +kernel
theorem dJ9_min_7cf53_1 : decode cJ9_min_7cf53 1 = .ok (.iload_n 1, 1) := by decide +kernel
theorem dJ9_min_7cf53_2 : decode cJ9_min_7cf53 2 = .ok (.if_icmp .gt 7, 3) := by decide +kernel
theorem dJ9_min_7cf53_5 : decode cJ9_min_7cf53 5 = .ok (.iload_n 0, 1) := by decide +kernel
theorem dJ9_min_7cf53_6 : decode cJ9_min_7cf53 6 = .ok (.goto 4, 3) := by decide +kernel
theorem dJ9_min_7cf53_9 : decode cJ9_min_7cf53 9 = .ok (.iload_n 1, 1) := by decide +kernel
theorem dJ9_min_7cf53_10 : decode cJ9_min_7cf53 10 = .ok (.ireturn, 1) := by decide +kernel
