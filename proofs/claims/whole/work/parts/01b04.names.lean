theorem dX6_isSetting_59 : decode cX6_isSetting 59 = .ok (.iconst 0, 1) := by decide +kernel
theorem dX6_isSetting_60 : decode cX6_isSetting 60 = .ok (.ireturn, 1) := by decide +kernel
theorem dX6_isSetting_61 : decode cX6_isSetting 61 = .ok (.iload_n 1, 1) := by decide +kernel
theorem dX6_isSetting_62 : decode cX6_isSetting 62 = .ok (.iconst 1, 1) := by decide +kernel
theorem dX6_isSetting_63 : decode cX6_isSetting 63 = .ok (.if_icmp .lt 13, 3) := by decide +kernel
theorem dX6_isSetting_66 : decode cX6_isSetting 66 = .ok (.iload_n 1, 1) := by decide +kernel
theorem dX6_isSetting_67 : decode cX6_isSetting 67 = .ok (.bipush 20, 2) := by decide +kernel
theorem dX6_isSetting_69 : decode cX6_isSetting 69 = .ok (.if_icmp .gt 7, 3) := by decide +kernel
theorem dX6_isSetting_72 : decode cX6_isSetting 72 = .ok (.iconst 1, 1) := by decide +kernel
theorem dX6_isSetting_73 : decode cX6_isSetting 73 = .ok (.goto 4, 3) := by decide +kernel
theorem dX6_isSetting_76 : decode cX6_isSetting 76 = .ok (.iconst 0, 1) := by decide +kernel
theorem dX6_isSetting_77 : decode cX6_isSetting 77 = .ok (.ireturn, 1) := by decide +kernel
theorem dX6_isSetting_78 : decode cX6_isSetting 78 = .ok (.iconst 0, 1) := by decide +kernel
theorem dX6_isSetting_79 : decode cX6_isSetting 79 = .ok (.ireturn, 1) := by decide +kernel
theorem dX6_cell_0 : decode cX6_cell 0 = .ok (.iload_n 1, 1) := by decide +kernel
theorem dX6_cell_1 : decode cX6_cell 1 = .ok (.ifCond .lt 15, 3) := by decide +kernel
theorem dX6_cell_4 : decode cX6_cell 4 = .ok (.iload_n 1, 1) := by decide +kernel
theorem dX6_cell_5 : decode cX6_cell 5 = .ok (.aload_n 0, 1) := by decide +kernel
theorem dX6_cell_6 : decode cX6_cell 6 = .ok (.arraylength, 1) := by decide +kernel
theorem dX6_cell_7 : decode cX6_cell 7 = .ok (.if_icmp .ge 9, 3) := by decide +kernel
theorem dX6_cell_10 : decode cX6_cell 10 = .ok (.aload_n 0, 1) := by decide +kernel
theorem dX6_cell_11 : decode cX6_cell 11 = .ok (.iload_n 1, 1) := by decide +kernel
theorem dX6_cell_12 : decode cX6_cell 12 = .ok (.iaload, 1) := by decide +kernel
theorem dX6_cell_13 : decode cX6_cell 13 = .ok (.goto 4, 3) := by decide +kernel
theorem dX6_cell_16 : decode cX6_cell 16 = .ok (.iconst 0, 1) := by decide +kernel
theorem dX6_cell_17 : decode cX6_cell 17 = .ok (.ireturn, 1) := by decide +kernel
theorem dX6_putCell_0 : decode cX6_putCell 0 = .ok (.iload_n 1, 1) := by decide +kernel
theorem dX6_putCell_1 : decode cX6_putCell 1 = .ok (.ifCond .lt 13, 3) := by decide +kernel
theorem dX6_putCell_4 : decode cX6_putCell 4 = .ok (.iload_n 1, 1) := by decide +kernel
theorem dX6_putCell_5 : decode cX6_putCell 5 = .ok (.aload_n 0, 1) := by decide +kernel
theorem dX6_putCell_6 : decode cX6_putCell 6 = .ok (.arraylength, 1) := by decide +kernel
theorem dX6_putCell_7 : decode cX6_putCell 7 = .ok (.if_icmp .ge 7, 3) := by decide +kernel
theorem dX6_putCell_10 : decode cX6_putCell 10 = .ok (.aload_n 0, 1) := by decide +kernel
theorem dX6_putCell_11 : decode cX6_putCell 11 = .ok (.iload_n 1, 1) := by decide +kernel
theorem dX6_putCell_12 : decode cX6_putCell 12 = .ok (.iload_n 2, 1) := by decide +kernel
theorem dX6_putCell_13 : decode cX6_putCell 13 = .ok (.iastore, 1) := by decide +kernel
theorem dX6_putCell_14 : decode cX6_putCell 14 = .ok (.return_, 1) := by decide +kernel
theorem dX6_copyCells_0 : decode cX6_copyCells 0 = .ok (.iload 4, 2) := by decide +kernel
theorem dX6_copyCells_2 : decode cX6_copyCells 2 = .ok (.ifCond .lt 47, 3) := by decide +kernel
theorem dX6_copyCells_5 : decode cX6_copyCells 5 = .ok (.iload_n 1, 1) := by decide +kernel
theorem dX6_copyCells_6 : decode cX6_copyCells 6 = .ok (.ifCond .lt 43, 3) := by decide +kernel
theorem dX6_copyCells_9 : decode cX6_copyCells 9 = .ok (.iload_n 3, 1) := by decide +kernel
theorem dX6_copyCells_10 : decode cX6_copyCells 10 = .ok (.ifCond .lt 39, 3) := by decide +kernel
theorem dX6_copyCells_13 : decode cX6_copyCells 13 = .ok (.iload 4, 2) := by decide +kernel
theorem dX6_copyCells_15 : decode cX6_copyCells 15 = .ok (.aload_n 0, 1) := by decide +kernel
theorem dX6_copyCells_16 : decode cX6_copyCells 16 = .ok (.arraylength, 1) := by decide +kernel
theorem dX6_copyCells_17 : decode cX6_copyCells 17 = .ok (.if_icmp .gt 32, 3) := by decide +kernel
theorem dX6_copyCells_20 : decode cX6_copyCells 20 = .ok (.iload_n 1, 1) := by decide +kernel
theorem dX6_copyCells_21 : decode cX6_copyCells 21 = .ok (.aload_n 0, 1) := by decide +kernel
theorem dX6_copyCells_22 : decode cX6_copyCells 22 = .ok (.arraylength, 1) := by decide +kernel
theorem dX6_copyCells_23 : decode cX6_copyCells 23 = .ok (.iload 4, 2) := by decide +kernel
theorem dX6_copyCells_25 : decode cX6_copyCells 25 = .ok (.isub, 1) := by decide +kernel
theorem dX6_copyCells_26 : decode cX6_copyCells 26 = .ok (.if_icmp .gt 23, 3) := by decide +kernel
theorem dX6_copyCells_29 : decode cX6_copyCells 29 = .ok (.iload 4, 2) := by decide +kernel
theorem dX6_copyCells_31 : decode cX6_copyCells 31 = .ok (.aload_n 2, 1) := by decide +kernel
theorem dX6_copyCells_32 : decode cX6_copyCells 32 = .ok (.arraylength, 1) := by decide +kernel
theorem dX6_copyCells_33 : decode cX6_copyCells 33 = .ok (.if_icmp .gt 16, 3) := by decide +kernel
theorem dX6_copyCells_36 : decode cX6_copyCells 36 = .ok (.iload_n 3, 1) := by decide +kernel
theorem dX6_copyCells_37 : decode cX6_copyCells 37 = .ok (.aload_n 2, 1) := by decide +kernel
theorem dX6_copyCells_38 : decode cX6_copyCells 38 = .ok (.arraylength, 1) := by decide +kernel
theorem dX6_copyCells_39 : decode cX6_copyCells 39 = .ok (.iload 4, 2) := by decide +kernel
theorem dX6_copyCells_41 : decode cX6_copyCells 41 = .ok (.isub, 1) := by decide +kernel
theorem dX6_copyCells_42 : decode cX6_copyCells 42 = .ok (.if_icmp .gt 7, 3) := by decide +kernel
theorem dX6_copyCells_45 : decode cX6_copyCells 45 = .ok (.iconst 1, 1) := by decide +kernel
theorem dX6_copyCells_46 : decode cX6_copyCells 46 = .ok (.goto 4, 3) := by decide +kernel
theorem dX6_copyCells_49 : decode cX6_copyCells 49 = .ok (.iconst 0, 1) := by decide +kernel
theorem dX6_copyCells_50 : decode cX6_copyCells 50 = .ok (.istore 5, 2) := by decide +kernel
theorem dX6_copyCells_52 : decode cX6_copyCells 52 = .ok (.iload 5, 2) := by decide +kernel
theorem dX6_copyCells_54 : decode cX6_copyCells 54 = .ok (.ifCond .eq 12, 3) := by decide +kernel
theorem dX6_copyCells_57 : decode cX6_copyCells 57 = .ok (.aload_n 0, 1) := by decide +kernel
theorem dX6_copyCells_58 : decode cX6_copyCells 58 = .ok (.iload_n 1, 1) := by decide +kernel
theorem dX6_copyCells_59 : decode cX6_copyCells 59 = .ok (.aload_n 2, 1) := by decide +kernel
theorem dX6_copyCells_60 : decode cX6_copyCells 60 = .ok (.iload_n 3, 1) := by decide +kernel
theorem dX6_copyCells_61 : decode cX6_copyCells 61 = .ok (.iload 4, 2) := by decide +kernel
theorem dX6_copyCells_63 : decode cX6_copyCells 63 = .ok (.invokestatic 279, 3) := by decide +kernel
theorem dX6_copyCells_66 : decode cX6_copyCells 66 = .ok (.return_, 1) := by decide +kernel
theorem dX6_copyRow_0 : decode cX6_copyRow 0 = .ok (.aload_n 0, 1) := by decide +kernel
theorem dX6_copyRow_1 : decode cX6_copyRow 1 = .ok (.iconst 0, 1) := by decide +kernel
theorem dX6_copyRow_2 : decode cX6_copyRow 2 = .ok (.aload_n 1, 1) := by decide +kernel
theorem dX6_copyRow_3 : decode cX6_copyRow 3 = .ok (.iconst 0, 1) := by decide +kernel
theorem dX6_copyRow_4 : decode cX6_copyRow 4 = .ok (.aload_n 0, 1) := by decide +kernel
theorem dX6_copyRow_5 : decode cX6_copyRow 5 = .ok (.arraylength, 1) := by decide +kernel
theorem dX6_copyRow_6 : decode cX6_copyRow 6 = .ok (.aload_n 1, 1) := by decide +kernel
theorem dX6_copyRow_7 : decode cX6_copyRow 7 = .ok (.arraylength, 1) := by decide +kernel
theorem dX6_copyRow_8 : decode cX6_copyRow 8 = .ok (.invokestatic 285, 3) := by decide +kernel
theorem dX6_copyRow_11 : decode cX6_copyRow 11 = .ok (.invokestatic 279, 3) := by decide +kernel
theorem dX6_copyRow_14 : decode cX6_copyRow 14 = .ok (.return_, 1) := by decide +kernel
set_option maxRecDepth 20000 in
theorem ggX6_practiseOn_X0_strokesOf : GoodIn wsX6_practiseOn wsX0_strokesOf := goodIn_r _ [9, 10, 11, 12, 13, 108, 109, 110, 111, 112] (by decide +kernel) (by decide +kernel)
set_option maxRecDepth 20000 in
theorem gX6_practiseOn_X0_strokesOf : GoodIn wsX6_practiseOn (wsV RX6 76 RX0 yX0_strokesOf wsX0_strokesOf) := goodIn_app (goodIn_of _ (by decide +kernel)) ggX6_practiseOn_X0_strokesOf
set_option maxRecDepth 20000 in
theorem ggX6_practiseOn_X2_readFigure : GoodIn wsX6_practiseOn wsX2_readFigure := goodIn_r _ [18, 19, 20, 21, 22, 23, 24, 25, 26, 27, 28, 17, 29, 30, 31, 32, 33, 34, 35, 36, 37, 8, 38, 39, 11, 12, 13, 40, 41, 42, 43, 44, 45, 46, 47, 48, 49, 50, 51, 52, 53, 54, 55, 56, 57, 58, 59, 60, 61, 62, 63, 64, 65, 66, 67, 68, 69, 70, 102, 103, 104, 105, 106, 107, 90, 91, 92, 93, 94, 95, 108, 109, 110, 111, 112] (by decide +kernel) (by decide +kernel)
set_option maxRecDepth 20000 in
theorem gX6_practiseOn_X2_readFigure : GoodIn wsX6_practiseOn (wsV RX6 207 RX2 yX2_readFigure wsX2_readFigure) := goodIn_app (goodIn_of _ (by decide +kernel)) ggX6_practiseOn_X2_readFigure
set_option maxRecDepth 20000 in
theorem ggX6_practiseOn_X4_countOutcome : GoodIn wsX6_practiseOn wsX4_countOutcome := goodIn_r _ [74, 75, 76, 77, 78, 59, 79, 11, 12, 13, 40, 41, 90, 91, 92, 93, 94, 95] (by decide +kernel) (by decide +kernel)
set_option maxRecDepth 20000 in
theorem gX6_practiseOn_X4_countOutcome : GoodIn wsX6_practiseOn (wsV RX6 290 RX4 yX4_countOutcome wsX4_countOutcome) := goodIn_app (goodIn_of _ (by decide +kernel)) ggX6_practiseOn_X4_countOutcome
set_option maxRecDepth 20000 in
theorem ggX6_practiseOn_X4_clearHand : GoodIn wsX6_practiseOn wsX4_clearHand := goodIn_r _ [83, 84, 85, 86, 87, 88, 8, 89, 10, 39, 40, 12, 41, 90, 91, 92, 93, 94, 95, 108, 109, 110, 111, 112] (by decide +kernel) (by decide +kernel)
set_option maxRecDepth 20000 in
theorem gX6_practiseOn_X4_clearHand : GoodIn wsX6_practiseOn (wsV RX6 162 RX4 yX4_clearHand wsX4_clearHand) := goodIn_app (goodIn_of _ (by decide +kernel)) ggX6_practiseOn_X4_clearHand
theorem dX6_practiseOn_0 : decode cX6_practiseOn 0 = .ok (.aload_n 1, 1) := by decide +kernel
theorem dX6_practiseOn_1 : decode cX6_practiseOn 1 = .ok (.getfield 72, 3) := by decide +kernel
theorem dX6_practiseOn_4 : decode cX6_practiseOn 4 = .ok (.bipush 16, 2) := by decide +kernel
theorem dX6_practiseOn_6 : decode cX6_practiseOn 6 = .ok (.invokevirtual 76, 3) := by decide +kernel
theorem dX6_practiseOn_9 : decode cX6_practiseOn 9 = .ok (.ifCond .ne 5, 3) := by decide +kernel
theorem dX6_practiseOn_12 : decode cX6_practiseOn 12 = .ok (.iconst (-1), 1) := by decide +kernel
theorem dX6_practiseOn_13 : decode cX6_practiseOn 13 = .ok (.ireturn, 1) := by decide +kernel
theorem dX6_practiseOn_14 : decode cX6_practiseOn 14 = .ok (.aload_n 0, 1) := by decide +kernel
theorem dX6_practiseOn_15 : decode cX6_practiseOn 15 = .ok (.getfield 22, 3) := by decide +kernel
theorem dX6_practiseOn_18 : decode cX6_practiseOn 18 = .ok (.aload_n 1, 1) := by decide +kernel
theorem dX6_practiseOn_19 : decode cX6_practiseOn 19 = .ok (.bipush 16, 2) := by decide +kernel
theorem dX6_practiseOn_21 : decode cX6_practiseOn 21 = .ok (.iconst (-1), 1) := by decide +kernel
theorem dX6_practiseOn_22 : decode cX6_practiseOn 22 = .ok (.invokevirtual 207, 3) := by decide +kernel
theorem dX6_practiseOn_25 : decode cX6_practiseOn 25 = .ok (.iconst 2, 1) := by decide +kernel
theorem dX6_practiseOn_26 : decode cX6_practiseOn 26 = .ok (.istore_n 3, 1) := by decide +kernel
theorem dX6_practiseOn_27 : decode cX6_practiseOn 27 = .ok (.aload_n 0, 1) := by decide +kernel
theorem dX6_practiseOn_28 : decode cX6_practiseOn 28 = .ok (.getfield 22, 3) := by decide +kernel
theorem dX6_practiseOn_31 : decode cX6_practiseOn 31 = .ok (.getfield 211, 3) := by decide +kernel
theorem dX6_practiseOn_34 : decode cX6_practiseOn 34 = .ok (.ifCond .eq 8, 3) := by decide +kernel
theorem dX6_practiseOn_37 : decode cX6_practiseOn 37 = .ok (.iconst 1, 1) := by decide +kernel
theorem dX6_practiseOn_38 : decode cX6_practiseOn 38 = .ok (.istore_n 3, 1) := by decide +kernel
theorem dX6_practiseOn_39 : decode cX6_practiseOn 39 = .ok (.goto 16, 3) := by decide +kernel
theorem dX6_practiseOn_42 : decode cX6_practiseOn 42 = .ok (.aload_n 0, 1) := by decide +kernel
theorem dX6_practiseOn_43 : decode cX6_practiseOn 43 = .ok (.getfield 22, 3) := by decide +kernel
theorem dX6_practiseOn_46 : decode cX6_practiseOn 46 = .ok (.getfield 214, 3) := by decide +kernel
theorem dX6_practiseOn_49 : decode cX6_practiseOn 49 = .ok (.iload_n 2, 1) := by decide +kernel
theorem dX6_practiseOn_50 : decode cX6_practiseOn 50 = .ok (.if_icmp .ne 5, 3) := by decide +kernel
theorem dX6_practiseOn_53 : decode cX6_practiseOn 53 = .ok (.iconst 0, 1) := by decide +kernel
theorem dX6_practiseOn_54 : decode cX6_practiseOn 54 = .ok (.istore_n 3, 1) := by decide +kernel
theorem dX6_practiseOn_55 : decode cX6_practiseOn 55 = .ok (.aload_n 1, 1) := by decide +kernel
theorem dX6_practiseOn_56 : decode cX6_practiseOn 56 = .ok (.iload_n 2, 1) := by decide +kernel
theorem dX6_practiseOn_57 : decode cX6_practiseOn 57 = .ok (.iload_n 3, 1) := by decide +kernel
theorem dX6_practiseOn_58 : decode cX6_practiseOn 58 = .ok (.invokevirtual 290, 3) := by decide +kernel
theorem dX6_practiseOn_61 : decode cX6_practiseOn 61 = .ok (.aload_n 1, 1) := by decide +kernel
theorem dX6_practiseOn_62 : decode cX6_practiseOn 62 = .ok (.invokevirtual 162, 3) := by decide +kernel
theorem dX6_practiseOn_65 : decode cX6_practiseOn 65 = .ok (.iload_n 3, 1) := by decide +kernel
theorem dX6_practiseOn_66 : decode cX6_practiseOn 66 = .ok (.ireturn, 1) := by decide +kernel
set_option maxRecDepth 20000 in
theorem ggX6_leastOfPairs_X2_closestPair : GoodIn wsX6_leastOfPairs wsX2_closestPair := goodIn_r _ [7, 8, 9, 10, 11, 12, 13, 14, 15, 16, 17, 18, 19, 20, 21, 6, 22, 23, 24, 25, 26, 27, 28, 29, 30, 31, 32, 33, 34, 35, 36, 37, 38, 39, 40, 41, 42, 43, 44, 45, 46, 47, 48, 49, 57, 58, 59, 60, 61, 62, 63, 64, 65, 66, 67, 68, 69, 70, 71, 72, 73] (by decide +kernel) (by decide +kernel)
set_option maxRecDepth 20000 in
theorem gX6_leastOfPairs_X2_closestPair : GoodIn wsX6_leastOfPairs (wsV RX6 232 RX2 yX2_closestPair wsX2_closestPair) := goodIn_app (goodIn_of _ (by decide +kernel)) ggX6_leastOfPairs_X2_closestPair
set_option maxRecDepth 20000 in
theorem ggX6_leastOfPairs_X2_distanceOf : GoodIn wsX6_leastOfPairs wsX2_distanceOf := goodIn_r _ [22, 23, 24, 25, 26, 27, 28, 29, 30, 31, 32, 33, 16, 17, 18, 34, 35, 36, 37, 38, 39, 40, 41, 42, 6, 43, 44, 45, 46, 47, 48, 49, 63, 64, 65, 66, 67, 68, 69, 70, 71, 72, 73] (by decide +kernel) (by decide +kernel)
set_option maxRecDepth 20000 in
theorem gX6_leastOfPairs_X2_distanceOf : GoodIn wsX6_leastOfPairs (wsV RX6 228 RX2 yX2_distanceOf wsX2_distanceOf) := goodIn_app (goodIn_of _ (by decide +kernel)) ggX6_leastOfPairs_X2_distanceOf
theorem dX6_leastOfPairs_0 : decode cX6_leastOfPairs 0 = .ok (.aload_n 0, 1) := by decide +kernel
theorem dX6_leastOfPairs_1 : decode cX6_leastOfPairs 1 = .ok (.getfield 22, 3) := by decide +kernel
theorem dX6_leastOfPairs_4 : decode cX6_leastOfPairs 4 = .ok (.aload_n 1, 1) := by decide +kernel
theorem dX6_leastOfPairs_5 : decode cX6_leastOfPairs 5 = .ok (.iload_n 2, 1) := by decide +kernel
theorem dX6_leastOfPairs_6 : decode cX6_leastOfPairs 6 = .ok (.invokevirtual 232, 3) := by decide +kernel
theorem dX6_leastOfPairs_9 : decode cX6_leastOfPairs 9 = .ok (.istore_n 3, 1) := by decide +kernel
theorem dX6_leastOfPairs_10 : decode cX6_leastOfPairs 10 = .ok (.iload_n 3, 1) := by decide +kernel
theorem dX6_leastOfPairs_11 : decode cX6_leastOfPairs 11 = .ok (.iconst (-1), 1) := by decide +kernel
theorem dX6_leastOfPairs_12 : decode cX6_leastOfPairs 12 = .ok (.if_icmp .ne 7, 3) := by decide +kernel
theorem dX6_leastOfPairs_15 : decode cX6_leastOfPairs 15 = .ok (.iconst (-1), 1) := by decide +kernel
theorem dX6_leastOfPairs_16 : decode cX6_leastOfPairs 16 = .ok (.goto 22, 3) := by decide +kernel
theorem dX6_leastOfPairs_19 : decode cX6_leastOfPairs 19 = .ok (.aload_n 0, 1) := by decide +kernel
theorem dX6_leastOfPairs_20 : decode cX6_leastOfPairs 20 = .ok (.getfield 22, 3) := by decide +kernel
theorem dX6_leastOfPairs_23 : decode cX6_leastOfPairs 23 = .ok (.aload_n 1, 1) := by decide +kernel
theorem dX6_leastOfPairs_24 : decode cX6_leastOfPairs 24 = .ok (.getfield 72, 3) := by decide +kernel
theorem dX6_leastOfPairs_27 : decode cX6_leastOfPairs 27 = .ok (.iload_n 3, 1) := by decide +kernel
theorem dX6_leastOfPairs_28 : decode cX6_leastOfPairs 28 = .ok (.bipush 100, 2) := by decide +kernel
theorem dX6_leastOfPairs_30 : decode cX6_leastOfPairs 30 = .ok (.idiv, 1) := by decide +kernel
theorem dX6_leastOfPairs_31 : decode cX6_leastOfPairs 31 = .ok (.iload_n 3, 1) := by decide +kernel
theorem dX6_leastOfPairs_32 : decode cX6_leastOfPairs 32 = .ok (.bipush 100, 2) := by decide +kernel
theorem dX6_leastOfPairs_34 : decode cX6_leastOfPairs 34 = .ok (.irem, 1) := by decide +kernel
theorem dX6_leastOfPairs_35 : decode cX6_leastOfPairs 35 = .ok (.invokevirtual 228, 3) := by decide +kernel
theorem dX6_leastOfPairs_38 : decode cX6_leastOfPairs 38 = .ok (.ireturn, 1) := by decide +kernel
theorem dX6_withoutGroups_0 : decode cX6_withoutGroups 0 = .ok (.lload_n 0, 1) := by decide +kernel
theorem dX6_withoutGroups_1 : decode cX6_withoutGroups 1 = .ok (.lstore_n 3, 1) := by decide +kernel
theorem dX6_withoutGroups_2 : decode cX6_withoutGroups 2 = .ok (.iconst 0, 1) := by decide +kernel
theorem dX6_withoutGroups_3 : decode cX6_withoutGroups 3 = .ok (.istore 5, 2) := by decide +kernel
theorem dX6_withoutGroups_5 : decode cX6_withoutGroups 5 = .ok (.iload 5, 2) := by decide +kernel
theorem dX6_withoutGroups_7 : decode cX6_withoutGroups 7 = .ok (.iload_n 2, 1) := by decide +kernel
theorem dX6_withoutGroups_8 : decode cX6_withoutGroups 8 = .ok (.if_icmp .ge 15, 3) := by decide +kernel
theorem dX6_withoutGroups_11 : decode cX6_withoutGroups 11 = .ok (.lload_n 3, 1) := by decide +kernel
theorem dX6_withoutGroups_12 : decode cX6_withoutGroups 12 = .ok (.ldc2_w 250, 3) := by decide +kernel
theorem dX6_withoutGroups_15 : decode cX6_withoutGroups 15 = .ok (.ldiv, 1) := by decide +kernel
theorem dX6_withoutGroups_16 : decode cX6_withoutGroups 16 = .ok (.lstore_n 3, 1) := by decide +kernel
theorem dX6_withoutGroups_17 : decode cX6_withoutGroups 17 = .ok (.iinc 5 1, 3) := by decide +kernel
theorem dX6_withoutGroups_20 : decode cX6_withoutGroups 20 = .ok (.goto (-15), 3) := by decide +kernel
theorem dX6_withoutGroups_23 : decode cX6_withoutGroups 23 = .ok (.lload_n 3, 1) := by decide +kernel
theorem dX6_withoutGroups_24 : decode cX6_withoutGroups 24 = .ok (.lreturn, 1) := by decide +kernel
set_option maxRecDepth 20000 in
theorem ggX6_commandSucceeds_X4_addPoint : GoodIn wsX6_commandSucceeds wsX4_addPoint := goodIn_r _ [11, 12, 13, 14, 15, 16, 17, 18, 19, 10, 20, 21, 22, 23, 24, 25, 26, 27, 28, 29, 30, 31, 32, 33, 34, 35, 36, 37, 38, 39, 40, 41, 42, 43, 44, 45, 46, 47, 48, 49, 50, 51, 52, 53, 54, 55, 56, 57, 58, 59, 60, 61, 62, 63, 64, 65, 66, 67, 68, 69, 70, 71, 72, 73, 74, 75, 76, 77, 78, 79, 80, 221, 222, 223, 224, 225, 226, 227, 228, 229, 230, 231] (by decide +kernel) (by decide +kernel)
set_option maxRecDepth 20000 in
theorem gX6_commandSucceeds_X4_addPoint : GoodIn wsX6_commandSucceeds (wsV RX6 142 RX4 yX4_addPoint wsX4_addPoint) := goodIn_app (goodIn_of _ (by decide +kernel)) ggX6_commandSucceeds_X4_addPoint
set_option maxRecDepth 20000 in
theorem ggX6_commandSucceeds_X4_liftPen : GoodIn wsX6_commandSucceeds wsX4_liftPen := goodIn_r _ [84, 12, 221, 222, 223, 224, 225, 226] (by decide +kernel) (by decide +kernel)
set_option maxRecDepth 20000 in
theorem gX6_commandSucceeds_X4_liftPen : GoodIn wsX6_commandSucceeds (wsV RX6 154 RX4 yX4_liftPen wsX4_liftPen) := goodIn_app (goodIn_of _ (by decide +kernel)) ggX6_commandSucceeds_X4_liftPen
set_option maxRecDepth 20000 in
theorem ggX6_commandSucceeds_X4_keepHand : GoodIn wsX6_commandSucceeds wsX4_keepHand := goodIn_r _ [88, 13, 89, 90, 91, 31, 32, 27, 33, 34, 22, 15, 23, 92, 93, 94, 10, 95, 96, 97, 98, 99, 100, 101, 102, 103, 104, 45, 46, 47, 48, 105, 106, 107, 108, 76, 109, 110, 111, 112, 29, 43, 113, 114, 115, 116, 117, 118, 59, 60, 119, 120, 121, 122, 12, 123, 124, 125, 126, 221, 222, 223, 224, 225, 226, 227, 228, 229, 230, 231] (by decide +kernel) (by decide +kernel)
set_option maxRecDepth 20000 in
theorem gX6_commandSucceeds_X4_keepHand : GoodIn wsX6_commandSucceeds (wsV RX6 171 RX4 yX4_keepHand wsX4_keepHand) := goodIn_app (goodIn_of _ (by decide +kernel)) ggX6_commandSucceeds_X4_keepHand
set_option maxRecDepth 20000 in
theorem ggX6_commandSucceeds_X4_dropSample : GoodIn wsX6_commandSucceeds wsX4_dropSample := goodIn_r _ [130, 89, 13, 90, 131, 132, 133, 10, 134, 109, 110, 111, 27, 112, 34, 29, 43, 48, 76, 113, 15, 114, 115, 116, 117, 118, 96, 97, 98, 99, 22, 23, 59, 60, 221, 222, 223, 224, 225, 226, 227, 228, 229, 230, 231] (by decide +kernel) (by decide +kernel)
set_option maxRecDepth 20000 in
theorem gX6_commandSucceeds_X4_dropSample : GoodIn wsX6_commandSucceeds (wsV RX6 176 RX4 yX4_dropSample wsX4_dropSample) := goodIn_app (goodIn_of _ (by decide +kernel)) ggX6_commandSucceeds_X4_dropSample
set_option maxRecDepth 20000 in
theorem ggX6_commandSucceeds_X6_isSetting : GoodIn wsX6_commandSucceeds wsX6_isSetting := goodIn_r _ [137] (by decide +kernel) (by decide +kernel)
set_option maxRecDepth 20000 in
theorem gX6_commandSucceeds_X6_isSetting : GoodIn wsX6_commandSucceeds (va_wsS RX6 185 yX6_isSetting wsX6_isSetting) := goodIn_app (goodIn_of _ (by decide +kernel)) ggX6_commandSucceeds_X6_isSetting
set_option maxRecDepth 20000 in
theorem ggX6_commandSucceeds_X4_changeSetting : GoodIn wsX6_commandSucceeds wsX4_changeSetting := goodIn_r _ [141, 21, 89, 13, 142, 143, 144, 10, 145, 146, 147, 148, 27, 149, 150, 151, 57, 152, 30, 31, 32, 33, 34, 22, 15, 23, 35, 36, 37, 38, 29, 39, 40, 41, 42, 43, 49, 50, 51, 52, 53, 54, 55, 56, 58, 59, 60, 153, 154, 155, 156, 48, 72, 73, 74, 75, 76, 44, 45, 46, 47, 65, 66, 67, 68, 69, 70, 71, 221, 222, 223, 224, 225, 226, 227, 228, 229, 230, 231] (by decide +kernel) (by decide +kernel)
set_option maxRecDepth 20000 in
theorem gX6_commandSucceeds_X4_changeSetting : GoodIn wsX6_commandSucceeds (wsV RX6 190 RX4 yX4_changeSetting wsX4_changeSetting) := goodIn_app (goodIn_of _ (by decide +kernel)) ggX6_commandSucceeds_X4_changeSetting
set_option maxRecDepth 20000 in
theorem ggX6_commandSucceeds_X2_readFigure : GoodIn wsX6_commandSucceeds wsX2_readFigure := goodIn_r _ [161, 162, 163, 164, 165, 166, 167, 168, 169, 170, 171, 160, 172, 173, 174, 175, 57, 176, 177, 45, 46, 27, 47, 48, 22, 15, 23, 59, 60, 178, 106, 107, 108, 76, 179, 180, 181, 182, 183, 184, 185, 56, 58, 186, 18, 19, 10, 20, 21, 187, 188, 189, 190, 191, 97, 98, 99, 90, 215, 216, 217, 218, 219, 220, 221, 222, 223, 224, 225, 226, 227, 228, 229, 230, 231] (by decide +kernel) (by decide +kernel)
set_option maxRecDepth 20000 in
theorem gX6_commandSucceeds_X2_readFigure : GoodIn wsX6_commandSucceeds (wsV RX6 207 RX2 yX2_readFigure wsX2_readFigure) := goodIn_app (goodIn_of _ (by decide +kernel)) ggX6_commandSucceeds_X2_readFigure
set_option maxRecDepth 20000 in
theorem ggX6_commandSucceeds_X6_practiseOn : GoodIn wsX6_commandSucceeds wsX6_practiseOn := goodIn_r _ [195, 196, 2, 197, 3, 198, 31, 32, 27, 33, 34, 22, 15, 23, 157, 158, 159, 160, 161, 162, 163, 164, 165, 166, 167, 168, 169, 170, 171, 172, 173, 174, 175, 57, 176, 177, 45, 46, 47, 48, 59, 60, 178, 106, 107, 108, 76, 179, 180, 181, 182, 183, 184, 185, 56, 58, 186, 18, 19, 10, 20, 21, 187, 188, 189, 190, 191, 97, 98, 99, 90, 199, 200, 201, 202, 203, 204, 205, 206, 207, 208, 120, 121, 122, 13, 12, 123, 124, 125, 126, 221, 222, 223, 224, 225, 226, 209, 210, 211, 212, 213, 214, 215, 216, 217, 218, 219, 220, 227, 228, 229, 230, 231] (by decide +kernel) (by decide +kernel)
set_option maxRecDepth 20000 in
theorem gX6_commandSucceeds_X6_practiseOn : GoodIn wsX6_commandSucceeds (wsV RX6 179 RX6 yX6_practiseOn wsX6_practiseOn) := goodIn_app (goodIn_of _ (by decide +kernel)) ggX6_commandSucceeds_X6_practiseOn
theorem dX6_commandSucceeds_0 : decode cX6_commandSucceeds 0 = .ok (.iload_n 1, 1) := by decide +kernel
theorem dX6_commandSucceeds_1 : decode cX6_commandSucceeds 1 = .ok (.sipush 1000, 3) := by decide +kernel
theorem dX6_commandSucceeds_4 : decode cX6_commandSucceeds 4 = .ok (.idiv, 1) := by decide +kernel
theorem dX6_commandSucceeds_5 : decode cX6_commandSucceeds 5 = .ok (.bipush 10, 2) := by decide +kernel
theorem dX6_commandSucceeds_7 : decode cX6_commandSucceeds 7 = .ok (.irem, 1) := by decide +kernel
theorem dX6_commandSucceeds_8 : decode cX6_commandSucceeds 8 = .ok (.istore_n 2, 1) := by decide +kernel
theorem dX6_commandSucceeds_9 : decode cX6_commandSucceeds 9 = .ok (.iload_n 1, 1) := by decide +kernel
theorem dX6_commandSucceeds_10 : decode cX6_commandSucceeds 10 = .ok (.bipush 100, 2) := by decide +kernel
theorem dX6_commandSucceeds_12 : decode cX6_commandSucceeds 12 = .ok (.idiv, 1) := by decide +kernel
theorem dX6_commandSucceeds_13 : decode cX6_commandSucceeds 13 = .ok (.bipush 10, 2) := by decide +kernel
theorem dX6_commandSucceeds_15 : decode cX6_commandSucceeds 15 = .ok (.irem, 1) := by decide +kernel
theorem dX6_commandSucceeds_16 : decode cX6_commandSucceeds 16 = .ok (.istore_n 3, 1) := by decide +kernel
theorem dX6_commandSucceeds_17 : decode cX6_commandSucceeds 17 = .ok (.iload_n 1, 1) := by decide +kernel
theorem dX6_commandSucceeds_18 : decode cX6_commandSucceeds 18 = .ok (.bipush 100, 2) := by decide +kernel
theorem dX6_commandSucceeds_20 : decode cX6_commandSucceeds 20 = .ok (.irem, 1) := by decide +kernel
theorem dX6_commandSucceeds_21 : decode cX6_commandSucceeds 21 = .ok (.istore 4, 2) := by decide +kernel
theorem dX6_commandSucceeds_23 : decode cX6_commandSucceeds 23 = .ok (.iload_n 2, 1) := by decide +kernel
theorem dX6_commandSucceeds_24 : decode cX6_commandSucceeds 24 = .ok (.ifCond .ne 11, 3) := by decide +kernel
theorem dX6_commandSucceeds_27 : decode cX6_commandSucceeds 27 = .ok (.iload_n 3, 1) := by decide +kernel
theorem dX6_commandSucceeds_28 : decode cX6_commandSucceeds 28 = .ok (.ifCond .ne 7, 3) := by decide +kernel
theorem dX6_commandSucceeds_31 : decode cX6_commandSucceeds 31 = .ok (.iconst 1, 1) := by decide +kernel
theorem dX6_commandSucceeds_32 : decode cX6_commandSucceeds 32 = .ok (.goto 4, 3) := by decide +kernel
theorem dX6_commandSucceeds_35 : decode cX6_commandSucceeds 35 = .ok (.iconst 0, 1) := by decide +kernel
theorem dX6_commandSucceeds_36 : decode cX6_commandSucceeds 36 = .ok (.istore 5, 2) := by decide +kernel
theorem dX6_commandSucceeds_38 : decode cX6_commandSucceeds 38 = .ok (.iload_n 3, 1) := by decide +kernel
theorem dX6_commandSucceeds_39 : decode cX6_commandSucceeds 39 = .ok (.ifCond .ne 12, 3) := by decide +kernel
theorem dX6_commandSucceeds_42 : decode cX6_commandSucceeds 42 = .ok (.iload 4, 2) := by decide +kernel
theorem dX6_commandSucceeds_44 : decode cX6_commandSucceeds 44 = .ok (.ifCond .ne 7, 3) := by decide +kernel
theorem dX6_commandSucceeds_47 : decode cX6_commandSucceeds 47 = .ok (.iconst 1, 1) := by decide +kernel
theorem dX6_commandSucceeds_48 : decode cX6_commandSucceeds 48 = .ok (.goto 4, 3) := by decide +kernel
theorem dX6_commandSucceeds_51 : decode cX6_commandSucceeds 51 = .ok (.iconst 0, 1) := by decide +kernel
theorem dX6_commandSucceeds_52 : decode cX6_commandSucceeds 52 = .ok (.istore 6, 2) := by decide +kernel
theorem dX6_commandSucceeds_54 : decode cX6_commandSucceeds 54 = .ok (.iload_n 1, 1) := by decide +kernel
theorem dX6_commandSucceeds_55 : decode cX6_commandSucceeds 55 = .ok (.sipush 10000, 3) := by decide +kernel
theorem dX6_commandSucceeds_58 : decode cX6_commandSucceeds 58 = .ok (.idiv, 1) := by decide +kernel
theorem dX6_commandSucceeds_59 : decode cX6_commandSucceeds 59 = .ok (.tableswitch 294 1 9 #[49, 65, 87, 109, 132, 164, 200, 223, 271], 49) := by decide +kernel
theorem dX6_commandSucceeds_108 : decode cX6_commandSucceeds 108 = .ok (.aload_n 0, 1) := by decide +kernel
theorem dX6_commandSucceeds_109 : decode cX6_commandSucceeds 109 = .ok (.getfield 16, 3) := by decide +kernel
theorem dX6_commandSucceeds_112 : decode cX6_commandSucceeds 112 = .ok (.iload_n 2, 1) := by decide +kernel
theorem dX6_commandSucceeds_113 : decode cX6_commandSucceeds 113 = .ok (.bipush 10, 2) := by decide +kernel
theorem dX6_commandSucceeds_115 : decode cX6_commandSucceeds 115 = .ok (.imul, 1) := by decide +kernel
theorem dX6_commandSucceeds_116 : decode cX6_commandSucceeds 116 = .ok (.iload_n 3, 1) := by decide +kernel
theorem dX6_commandSucceeds_117 : decode cX6_commandSucceeds 117 = .ok (.iadd, 1) := by decide +kernel
theorem dX6_commandSucceeds_118 : decode cX6_commandSucceeds 118 = .ok (.iload 4, 2) := by decide +kernel
theorem dX6_commandSucceeds_120 : decode cX6_commandSucceeds 120 = .ok (.invokevirtual 142, 3) := by decide +kernel
theorem dX6_commandSucceeds_123 : decode cX6_commandSucceeds 123 = .ok (.ireturn, 1) := by decide +kernel
theorem dX6_commandSucceeds_124 : decode cX6_commandSucceeds 124 = .ok (.aload_n 0, 1) := by decide +kernel
theorem dX6_commandSucceeds_125 : decode cX6_commandSucceeds 125 = .ok (.getfield 16, 3) := by decide +kernel
theorem dX6_commandSucceeds_128 : decode cX6_commandSucceeds 128 = .ok (.invokevirtual 154, 3) := by decide +kernel
theorem dX6_commandSucceeds_131 : decode cX6_commandSucceeds 131 = .ok (.iload_n 2, 1) := by decide +kernel
theorem dX6_commandSucceeds_132 : decode cX6_commandSucceeds 132 = .ok (.ifCond .ne 12, 3) := by decide +kernel
theorem dX6_commandSucceeds_135 : decode cX6_commandSucceeds 135 = .ok (.iload 6, 2) := by decide +kernel
theorem dX6_commandSucceeds_137 : decode cX6_commandSucceeds 137 = .ok (.ifCond .eq 7, 3) := by decide +kernel
theorem dX6_commandSucceeds_140 : decode cX6_commandSucceeds 140 = .ok (.iconst 1, 1) := by decide +kernel
theorem dX6_commandSucceeds_141 : decode cX6_commandSucceeds 141 = .ok (.goto 4, 3) := by decide +kernel
theorem dX6_commandSucceeds_144 : decode cX6_commandSucceeds 144 = .ok (.iconst 0, 1) := by decide +kernel
theorem dX6_commandSucceeds_145 : decode cX6_commandSucceeds 145 = .ok (.ireturn, 1) := by decide +kernel
theorem dX6_commandSucceeds_146 : decode cX6_commandSucceeds 146 = .ok (.iload 6, 2) := by decide +kernel
theorem dX6_commandSucceeds_148 : decode cX6_commandSucceeds 148 = .ok (.ifCond .eq 18, 3) := by decide +kernel
theorem dX6_commandSucceeds_151 : decode cX6_commandSucceeds 151 = .ok (.aload_n 0, 1) := by decide +kernel
theorem dX6_commandSucceeds_152 : decode cX6_commandSucceeds 152 = .ok (.getfield 16, 3) := by decide +kernel
theorem dX6_commandSucceeds_155 : decode cX6_commandSucceeds 155 = .ok (.iload_n 2, 1) := by decide +kernel
theorem dX6_commandSucceeds_156 : decode cX6_commandSucceeds 156 = .ok (.invokevirtual 171, 3) := by decide +kernel
theorem dX6_commandSucceeds_159 : decode cX6_commandSucceeds 159 = .ok (.ifCond .eq 7, 3) := by decide +kernel
theorem dX6_commandSucceeds_162 : decode cX6_commandSucceeds 162 = .ok (.iconst 1, 1) := by decide +kernel
theorem dX6_commandSucceeds_163 : decode cX6_commandSucceeds 163 = .ok (.goto 4, 3) := by decide +kernel
theorem dX6_commandSucceeds_166 : decode cX6_commandSucceeds 166 = .ok (.iconst 0, 1) := by decide +kernel
theorem dX6_commandSucceeds_167 : decode cX6_commandSucceeds 167 = .ok (.ireturn, 1) := by decide +kernel
theorem dX6_commandSucceeds_168 : decode cX6_commandSucceeds 168 = .ok (.iload 5, 2) := by decide +kernel
theorem dX6_commandSucceeds_170 : decode cX6_commandSucceeds 170 = .ok (.ifCond .eq 19, 3) := by decide +kernel
theorem dX6_commandSucceeds_173 : decode cX6_commandSucceeds 173 = .ok (.aload_n 0, 1) := by decide +kernel
theorem dX6_commandSucceeds_174 : decode cX6_commandSucceeds 174 = .ok (.getfield 16, 3) := by decide +kernel
theorem dX6_commandSucceeds_177 : decode cX6_commandSucceeds 177 = .ok (.iload 4, 2) := by decide +kernel
theorem dX6_commandSucceeds_179 : decode cX6_commandSucceeds 179 = .ok (.invokevirtual 176, 3) := by decide +kernel
theorem dX6_commandSucceeds_182 : decode cX6_commandSucceeds 182 = .ok (.ifCond .eq 7, 3) := by decide +kernel
theorem dX6_commandSucceeds_185 : decode cX6_commandSucceeds 185 = .ok (.iconst 1, 1) := by decide +kernel
theorem dX6_commandSucceeds_186 : decode cX6_commandSucceeds 186 = .ok (.goto 4, 3) := by decide +kernel
theorem dX6_commandSucceeds_189 : decode cX6_commandSucceeds 189 = .ok (.iconst 0, 1) := by decide +kernel
theorem dX6_commandSucceeds_190 : decode cX6_commandSucceeds 190 = .ok (.ireturn, 1) := by decide +kernel
theorem dX6_commandSucceeds_191 : decode cX6_commandSucceeds 191 = .ok (.iload_n 3, 1) := by decide +kernel
theorem dX6_commandSucceeds_192 : decode cX6_commandSucceeds 192 = .ok (.ifCond .ne 29, 3) := by decide +kernel
theorem dX6_commandSucceeds_195 : decode cX6_commandSucceeds 195 = .ok (.iload_n 2, 1) := by decide +kernel
theorem dX6_commandSucceeds_196 : decode cX6_commandSucceeds 196 = .ok (.iload 4, 2) := by decide +kernel
theorem dX6_commandSucceeds_198 : decode cX6_commandSucceeds 198 = .ok (.invokestatic 185, 3) := by decide +kernel
theorem dX6_commandSucceeds_201 : decode cX6_commandSucceeds 201 = .ok (.ifCond .eq 20, 3) := by decide +kernel
theorem dX6_commandSucceeds_204 : decode cX6_commandSucceeds 204 = .ok (.aload_n 0, 1) := by decide +kernel
theorem dX6_commandSucceeds_205 : decode cX6_commandSucceeds 205 = .ok (.getfield 16, 3) := by decide +kernel
theorem dX6_commandSucceeds_208 : decode cX6_commandSucceeds 208 = .ok (.iload_n 2, 1) := by decide +kernel
theorem dX6_commandSucceeds_209 : decode cX6_commandSucceeds 209 = .ok (.iload 4, 2) := by decide +kernel
theorem dX6_commandSucceeds_211 : decode cX6_commandSucceeds 211 = .ok (.invokevirtual 190, 3) := by decide +kernel
theorem dX6_commandSucceeds_214 : decode cX6_commandSucceeds 214 = .ok (.ifCond .eq 7, 3) := by decide +kernel
theorem dX6_commandSucceeds_217 : decode cX6_commandSucceeds 217 = .ok (.iconst 1, 1) := by decide +kernel
theorem dX6_commandSucceeds_218 : decode cX6_commandSucceeds 218 = .ok (.goto 4, 3) := by decide +kernel
theorem dX6_commandSucceeds_221 : decode cX6_commandSucceeds 221 = .ok (.iconst 0, 1) := by decide +kernel
theorem dX6_commandSucceeds_222 : decode cX6_commandSucceeds 222 = .ok (.ireturn, 1) := by decide +kernel
theorem dX6_commandSucceeds_223 : decode cX6_commandSucceeds 223 = .ok (.aload_n 0, 1) := by decide +kernel
theorem dX6_commandSucceeds_224 : decode cX6_commandSucceeds 224 = .ok (.getfield 22, 3) := by decide +kernel
theorem dX6_commandSucceeds_227 : decode cX6_commandSucceeds 227 = .ok (.aload_n 0, 1) := by decide +kernel
theorem dX6_commandSucceeds_228 : decode cX6_commandSucceeds 228 = .ok (.getfield 16, 3) := by decide +kernel
theorem dX6_commandSucceeds_231 : decode cX6_commandSucceeds 231 = .ok (.bipush 16, 2) := by decide +kernel
theorem dX6_commandSucceeds_233 : decode cX6_commandSucceeds 233 = .ok (.iconst (-1), 1) := by decide +kernel
theorem dX6_commandSucceeds_234 : decode cX6_commandSucceeds 234 = .ok (.invokevirtual 207, 3) := by decide +kernel
theorem dX6_commandSucceeds_237 : decode cX6_commandSucceeds 237 = .ok (.iload 6, 2) := by decide +kernel
theorem dX6_commandSucceeds_239 : decode cX6_commandSucceeds 239 = .ok (.ifCond .eq 18, 3) := by decide +kernel
theorem dX6_commandSucceeds_242 : decode cX6_commandSucceeds 242 = .ok (.aload_n 0, 1) := by decide +kernel
theorem dX6_commandSucceeds_243 : decode cX6_commandSucceeds 243 = .ok (.getfield 22, 3) := by decide +kernel
theorem dX6_commandSucceeds_246 : decode cX6_commandSucceeds 246 = .ok (.getfield 214, 3) := by decide +kernel
theorem dX6_commandSucceeds_249 : decode cX6_commandSucceeds 249 = .ok (.iload_n 2, 1) := by decide +kernel
theorem dX6_commandSucceeds_250 : decode cX6_commandSucceeds 250 = .ok (.if_icmp .ne 7, 3) := by decide +kernel
theorem dX6_commandSucceeds_253 : decode cX6_commandSucceeds 253 = .ok (.iconst 1, 1) := by decide +kernel
theorem dX6_commandSucceeds_254 : decode cX6_commandSucceeds 254 = .ok (.goto 4, 3) := by decide +kernel
theorem dX6_commandSucceeds_257 : decode cX6_commandSucceeds 257 = .ok (.iconst 0, 1) := by decide +kernel
theorem dX6_commandSucceeds_258 : decode cX6_commandSucceeds 258 = .ok (.ireturn, 1) := by decide +kernel
theorem dX6_commandSucceeds_259 : decode cX6_commandSucceeds 259 = .ok (.iload 5, 2) := by decide +kernel
theorem dX6_commandSucceeds_261 : decode cX6_commandSucceeds 261 = .ok (.ifCond .eq 19, 3) := by decide +kernel
theorem dX6_commandSucceeds_264 : decode cX6_commandSucceeds 264 = .ok (.aload_n 0, 1) := by decide +kernel
theorem dX6_commandSucceeds_265 : decode cX6_commandSucceeds 265 = .ok (.getfield 16, 3) := by decide +kernel
theorem dX6_commandSucceeds_268 : decode cX6_commandSucceeds 268 = .ok (.getfield 92, 3) := by decide +kernel
theorem dX6_commandSucceeds_271 : decode cX6_commandSucceeds 271 = .ok (.iload 4, 2) := by decide +kernel
theorem dX6_commandSucceeds_273 : decode cX6_commandSucceeds 273 = .ok (.if_icmp .lt 7, 3) := by decide +kernel
theorem dX6_commandSucceeds_276 : decode cX6_commandSucceeds 276 = .ok (.iconst 1, 1) := by decide +kernel
theorem dX6_commandSucceeds_277 : decode cX6_commandSucceeds 277 = .ok (.goto 4, 3) := by decide +kernel
theorem dX6_commandSucceeds_280 : decode cX6_commandSucceeds 280 = .ok (.iconst 0, 1) := by decide +kernel
theorem dX6_commandSucceeds_281 : decode cX6_commandSucceeds 281 = .ok (.ireturn, 1) := by decide +kernel
theorem dX6_commandSucceeds_282 : decode cX6_commandSucceeds 282 = .ok (.aload_n 0, 1) := by decide +kernel
theorem dX6_commandSucceeds_283 : decode cX6_commandSucceeds 283 = .ok (.getfield 22, 3) := by decide +kernel
theorem dX6_commandSucceeds_286 : decode cX6_commandSucceeds 286 = .ok (.aload_n 0, 1) := by decide +kernel
theorem dX6_commandSucceeds_287 : decode cX6_commandSucceeds 287 = .ok (.getfield 16, 3) := by decide +kernel
theorem dX6_commandSucceeds_290 : decode cX6_commandSucceeds 290 = .ok (.bipush 16, 2) := by decide +kernel
theorem dX6_commandSucceeds_292 : decode cX6_commandSucceeds 292 = .ok (.iconst (-1), 1) := by decide +kernel
theorem dX6_commandSucceeds_293 : decode cX6_commandSucceeds 293 = .ok (.invokevirtual 207, 3) := by decide +kernel
theorem dX6_commandSucceeds_296 : decode cX6_commandSucceeds 296 = .ok (.iload 5, 2) := by decide +kernel
theorem dX6_commandSucceeds_298 : decode cX6_commandSucceeds 298 = .ok (.ifCond .eq 30, 3) := by decide +kernel
theorem dX6_commandSucceeds_301 : decode cX6_commandSucceeds 301 = .ok (.aload_n 0, 1) := by decide +kernel
theorem dX6_commandSucceeds_302 : decode cX6_commandSucceeds 302 = .ok (.getfield 22, 3) := by decide +kernel
theorem dX6_commandSucceeds_305 : decode cX6_commandSucceeds 305 = .ok (.getfield 220, 3) := by decide +kernel
theorem dX6_commandSucceeds_308 : decode cX6_commandSucceeds 308 = .ok (.iconst (-1), 1) := by decide +kernel
theorem dX6_commandSucceeds_309 : decode cX6_commandSucceeds 309 = .ok (.if_icmp .eq 19, 3) := by decide +kernel
theorem dX6_commandSucceeds_312 : decode cX6_commandSucceeds 312 = .ok (.aload_n 0, 1) := by decide +kernel
theorem dX6_commandSucceeds_313 : decode cX6_commandSucceeds 313 = .ok (.getfield 22, 3) := by decide +kernel
theorem dX6_commandSucceeds_316 : decode cX6_commandSucceeds 316 = .ok (.getfield 217, 3) := by decide +kernel
theorem dX6_commandSucceeds_319 : decode cX6_commandSucceeds 319 = .ok (.iload 4, 2) := by decide +kernel
theorem dX6_commandSucceeds_321 : decode cX6_commandSucceeds 321 = .ok (.if_icmp .gt 7, 3) := by decide +kernel
theorem dX6_commandSucceeds_324 : decode cX6_commandSucceeds 324 = .ok (.iconst 1, 1) := by decide +kernel
theorem dX6_commandSucceeds_325 : decode cX6_commandSucceeds 325 = .ok (.goto 4, 3) := by decide +kernel
theorem dX6_commandSucceeds_328 : decode cX6_commandSucceeds 328 = .ok (.iconst 0, 1) := by decide +kernel
theorem dX6_commandSucceeds_329 : decode cX6_commandSucceeds 329 = .ok (.ireturn, 1) := by decide +kernel
theorem dX6_commandSucceeds_330 : decode cX6_commandSucceeds 330 = .ok (.iload 6, 2) := by decide +kernel
theorem dX6_commandSucceeds_332 : decode cX6_commandSucceeds 332 = .ok (.ifCond .eq 19, 3) := by decide +kernel
theorem dX6_commandSucceeds_335 : decode cX6_commandSucceeds 335 = .ok (.aload_n 0, 1) := by decide +kernel
theorem dX6_commandSucceeds_336 : decode cX6_commandSucceeds 336 = .ok (.aload_n 0, 1) := by decide +kernel
theorem dX6_commandSucceeds_337 : decode cX6_commandSucceeds 337 = .ok (.getfield 16, 3) := by decide +kernel
theorem dX6_commandSucceeds_340 : decode cX6_commandSucceeds 340 = .ok (.iload_n 2, 1) := by decide +kernel
theorem dX6_commandSucceeds_341 : decode cX6_commandSucceeds 341 = .ok (.invokevirtual 179, 3) := by decide +kernel
theorem dX6_commandSucceeds_344 : decode cX6_commandSucceeds 344 = .ok (.ifCond .ne 7, 3) := by decide +kernel
theorem dX6_commandSucceeds_347 : decode cX6_commandSucceeds 347 = .ok (.iconst 1, 1) := by decide +kernel
theorem dX6_commandSucceeds_348 : decode cX6_commandSucceeds 348 = .ok (.goto 4, 3) := by decide +kernel
theorem dX6_commandSucceeds_351 : decode cX6_commandSucceeds 351 = .ok (.iconst 0, 1) := by decide +kernel
theorem dX6_commandSucceeds_352 : decode cX6_commandSucceeds 352 = .ok (.ireturn, 1) := by decide +kernel
theorem dX6_commandSucceeds_353 : decode cX6_commandSucceeds 353 = .ok (.iconst 0, 1) := by decide +kernel
theorem dX6_commandSucceeds_354 : decode cX6_commandSucceeds 354 = .ok (.ireturn, 1) := by decide +kernel
set_option maxRecDepth 20000 in
theorem ggX6_takeTurn_X4_keepHand : GoodIn wsX6_takeTurn wsX4_keepHand := goodIn_r _ [7, 8, 9, 10, 11, 12, 13, 14, 15, 16, 17, 18, 19, 20, 21, 22, 6, 23, 24, 25, 26, 27, 28, 29, 30, 31, 32, 33, 34, 35, 36, 37, 38, 39, 40, 41, 42, 43, 44, 45, 46, 47, 48, 49, 50, 51, 52, 53, 54, 55, 56, 57, 58, 59, 60, 61, 62, 63, 64, 183, 184, 185, 186, 187, 188, 189, 190, 191, 192, 193] (by decide +kernel) (by decide +kernel)
set_option maxRecDepth 20000 in
theorem gX6_takeTurn_X4_keepHand : GoodIn wsX6_takeTurn (wsV RX6 171 RX4 yX4_keepHand wsX4_keepHand) := goodIn_app (goodIn_of _ (by decide +kernel)) ggX6_takeTurn_X4_keepHand
set_option maxRecDepth 20000 in
theorem ggX6_takeTurn_X6_practiseOn : GoodIn wsX6_takeTurn wsX6_practiseOn := goodIn_r _ [68, 69, 70, 71, 72, 73, 12, 13, 14, 15, 16, 17, 18, 19, 74, 75, 76, 77, 78, 79, 80, 81, 82, 83, 84, 85, 86, 87, 88, 89, 90, 91, 92, 93, 94, 95, 33, 34, 35, 36, 54, 55, 96, 38, 39, 40, 41, 97, 98, 99, 100, 101, 102, 103, 104, 105, 106, 107, 108, 6, 109, 110, 111, 112, 113, 114, 115, 25, 26, 27, 10, 116, 117, 118, 119, 120, 121, 122, 123, 124, 125, 57, 58, 59, 8, 60, 61, 62, 63, 64, 183, 184, 185, 186, 187, 188, 177, 178, 179, 180, 181, 182, 194, 195, 196, 197, 198, 199, 189, 190, 191, 192, 193] (by decide +kernel) (by decide +kernel)
set_option maxRecDepth 20000 in
theorem gX6_takeTurn_X6_practiseOn : GoodIn wsX6_takeTurn (wsV RX6 179 RX6 yX6_practiseOn wsX6_practiseOn) := goodIn_app (goodIn_of _ (by decide +kernel)) ggX6_takeTurn_X6_practiseOn
set_option maxRecDepth 20000 in
theorem ggX6_takeTurn_X4_liftPen : GoodIn wsX6_takeTurn wsX4_liftPen := goodIn_r _ [129, 60, 183, 184, 185, 186, 187, 188] (by decide +kernel) (by decide +kernel)
set_option maxRecDepth 20000 in
theorem gX6_takeTurn_X4_liftPen : GoodIn wsX6_takeTurn (wsV RX6 154 RX4 yX4_liftPen wsX4_liftPen) := goodIn_app (goodIn_of _ (by decide +kernel)) ggX6_takeTurn_X4_liftPen
set_option maxRecDepth 20000 in
theorem ggX6_takeTurn_X4_addPoint : GoodIn wsX6_takeTurn wsX4_addPoint := goodIn_r _ [133, 60, 8, 134, 18, 135, 136, 107, 108, 6, 109, 110, 17, 19, 137, 138, 139, 14, 140, 46, 141, 12, 13, 15, 16, 142, 143, 144, 145, 146, 147, 148, 149, 47, 150, 33, 34, 35, 36, 151, 152, 153, 154, 155, 156, 157, 104, 93, 105, 54, 55, 158, 159, 160, 161, 162, 163, 164, 165, 166, 167, 168, 169, 170, 171, 172, 41, 173, 174, 175, 176, 183, 184, 185, 186, 187, 188, 189, 190, 191, 192, 193] (by decide +kernel) (by decide +kernel)
set_option maxRecDepth 20000 in
theorem gX6_takeTurn_X4_addPoint : GoodIn wsX6_takeTurn (wsV RX6 142 RX4 yX4_addPoint wsX4_addPoint) := goodIn_app (goodIn_of _ (by decide +kernel)) ggX6_takeTurn_X4_addPoint
theorem dX6_takeTurn_0 : decode cX6_takeTurn 0 = .ok (.iload_n 1, 1) := by decide +kernel
theorem dX6_takeTurn_1 : decode cX6_takeTurn 1 = .ok (.bipush 16, 2) := by decide +kernel
theorem dX6_takeTurn_3 : decode cX6_takeTurn 3 = .ok (.irem, 1) := by decide +kernel
theorem dX6_takeTurn_4 : decode cX6_takeTurn 4 = .ok (.tableswitch 75 0 2 #[28, 46, 65], 28) := by decide +kernel
theorem dX6_takeTurn_32 : decode cX6_takeTurn 32 = .ok (.aload_n 0, 1) := by decide +kernel
theorem dX6_takeTurn_33 : decode cX6_takeTurn 33 = .ok (.getfield 16, 3) := by decide +kernel
theorem dX6_takeTurn_36 : decode cX6_takeTurn 36 = .ok (.iload_n 1, 1) := by decide +kernel
theorem dX6_takeTurn_37 : decode cX6_takeTurn 37 = .ok (.bipush 16, 2) := by decide +kernel
theorem dX6_takeTurn_39 : decode cX6_takeTurn 39 = .ok (.idiv, 1) := by decide +kernel
theorem dX6_takeTurn_40 : decode cX6_takeTurn 40 = .ok (.bipush 10, 2) := by decide +kernel
theorem dX6_takeTurn_42 : decode cX6_takeTurn 42 = .ok (.irem, 1) := by decide +kernel
theorem dX6_takeTurn_43 : decode cX6_takeTurn 43 = .ok (.invokevirtual 171, 3) := by decide +kernel
theorem dX6_takeTurn_46 : decode cX6_takeTurn 46 = .ok (.pop, 1) := by decide +kernel
theorem dX6_takeTurn_47 : decode cX6_takeTurn 47 = .ok (.goto 73, 3) := by decide +kernel
theorem dX6_takeTurn_50 : decode cX6_takeTurn 50 = .ok (.aload_n 0, 1) := by decide +kernel
theorem dX6_takeTurn_51 : decode cX6_takeTurn 51 = .ok (.aload_n 0, 1) := by decide +kernel
theorem dX6_takeTurn_52 : decode cX6_takeTurn 52 = .ok (.getfield 16, 3) := by decide +kernel
theorem dX6_takeTurn_55 : decode cX6_takeTurn 55 = .ok (.iload_n 1, 1) := by decide +kernel
theorem dX6_takeTurn_56 : decode cX6_takeTurn 56 = .ok (.bipush 16, 2) := by decide +kernel
theorem dX6_takeTurn_58 : decode cX6_takeTurn 58 = .ok (.idiv, 1) := by decide +kernel
theorem dX6_takeTurn_59 : decode cX6_takeTurn 59 = .ok (.bipush 10, 2) := by decide +kernel
theorem dX6_takeTurn_61 : decode cX6_takeTurn 61 = .ok (.irem, 1) := by decide +kernel
theorem dX6_takeTurn_62 : decode cX6_takeTurn 62 = .ok (.invokevirtual 179, 3) := by decide +kernel
theorem dX6_takeTurn_65 : decode cX6_takeTurn 65 = .ok (.pop, 1) := by decide +kernel
theorem dX6_takeTurn_66 : decode cX6_takeTurn 66 = .ok (.goto 54, 3) := by decide +kernel
theorem dX6_takeTurn_69 : decode cX6_takeTurn 69 = .ok (.aload_n 0, 1) := by decide +kernel
theorem dX6_takeTurn_70 : decode cX6_takeTurn 70 = .ok (.getfield 16, 3) := by decide +kernel
theorem dX6_takeTurn_73 : decode cX6_takeTurn 73 = .ok (.invokevirtual 154, 3) := by decide +kernel
theorem dX6_takeTurn_76 : decode cX6_takeTurn 76 = .ok (.goto 44, 3) := by decide +kernel
theorem dX6_takeTurn_79 : decode cX6_takeTurn 79 = .ok (.aload_n 0, 1) := by decide +kernel
theorem dX6_takeTurn_80 : decode cX6_takeTurn 80 = .ok (.getfield 16, 3) := by decide +kernel
theorem dX6_takeTurn_83 : decode cX6_takeTurn 83 = .ok (.iload_n 1, 1) := by decide +kernel
theorem dX6_takeTurn_84 : decode cX6_takeTurn 84 = .ok (.bipush 16, 2) := by decide +kernel
theorem dX6_takeTurn_86 : decode cX6_takeTurn 86 = .ok (.idiv, 1) := by decide +kernel
theorem dX6_takeTurn_87 : decode cX6_takeTurn 87 = .ok (.bipush 61, 2) := by decide +kernel
theorem dX6_takeTurn_89 : decode cX6_takeTurn 89 = .ok (.irem, 1) := by decide +kernel
theorem dX6_takeTurn_90 : decode cX6_takeTurn 90 = .ok (.iload_n 1, 1) := by decide +kernel
theorem dX6_takeTurn_91 : decode cX6_takeTurn 91 = .ok (.sipush 1024, 3) := by decide +kernel
theorem dX6_takeTurn_94 : decode cX6_takeTurn 94 = .ok (.idiv, 1) := by decide +kernel
theorem dX6_takeTurn_95 : decode cX6_takeTurn 95 = .ok (.bipush 61, 2) := by decide +kernel
theorem dX6_takeTurn_97 : decode cX6_takeTurn 97 = .ok (.irem, 1) := by decide +kernel
theorem dX6_takeTurn_98 : decode cX6_takeTurn 98 = .ok (.invokevirtual 142, 3) := by decide +kernel
theorem dX6_takeTurn_101 : decode cX6_takeTurn 101 = .ok (.ifCond .ne 19, 3) := by decide +kernel
theorem dX6_takeTurn_104 : decode cX6_takeTurn 104 = .ok (.aload_n 0, 1) := by decide +kernel
theorem dX6_takeTurn_105 : decode cX6_takeTurn 105 = .ok (.getfield 16, 3) := by decide +kernel
theorem dX6_takeTurn_108 : decode cX6_takeTurn 108 = .ok (.iload_n 1, 1) := by decide +kernel
theorem dX6_takeTurn_109 : decode cX6_takeTurn 109 = .ok (.ldc_w 294, 3) := by decide +kernel
theorem dX6_takeTurn_112 : decode cX6_takeTurn 112 = .ok (.idiv, 1) := by decide +kernel
theorem dX6_takeTurn_113 : decode cX6_takeTurn 113 = .ok (.bipush 10, 2) := by decide +kernel
theorem dX6_takeTurn_115 : decode cX6_takeTurn 115 = .ok (.irem, 1) := by decide +kernel
theorem dX6_takeTurn_116 : decode cX6_takeTurn 116 = .ok (.invokevirtual 171, 3) := by decide +kernel
theorem dX6_takeTurn_119 : decode cX6_takeTurn 119 = .ok (.pop, 1) := by decide +kernel
theorem dX6_takeTurn_120 : decode cX6_takeTurn 120 = .ok (.return_, 1) := by decide +kernel
theorem dX7_init_0 : decode cX7_init 0 = .ok (.aload_n 0, 1) := by decide +kernel
theorem dX7_init_1 : decode cX7_init 1 = .ok (.invokespecial 1, 3) := by decide +kernel
theorem dX7_init_4 : decode cX7_init 4 = .ok (.aload_n 0, 1) := by decide +kernel
theorem dX7_init_5 : decode cX7_init 5 = .ok (.bipush 100, 2) := by decide +kernel
theorem dX7_init_7 : decode cX7_init 7 = .ok (.newarray .int, 2) := by decide +kernel
theorem dX7_init_9 : decode cX7_init 9 = .ok (.putfield 7, 3) := by decide +kernel
theorem dX7_init_12 : decode cX7_init 12 = .ok (.aload_n 0, 1) := by decide +kernel
theorem dX7_init_13 : decode cX7_init 13 = .ok (.sipush 1343, 3) := by decide +kernel
theorem dX7_init_16 : decode cX7_init 16 = .ok (.newarray .int, 2) := by decide +kernel
theorem dX7_init_18 : decode cX7_init 18 = .ok (.putfield 13, 3) := by decide +kernel
theorem dX7_init_21 : decode cX7_init 21 = .ok (.aload_n 0, 1) := by decide +kernel
theorem dX7_init_22 : decode cX7_init 22 = .ok (.sipush 1343, 3) := by decide +kernel
theorem dX7_init_25 : decode cX7_init 25 = .ok (.newarray .int, 2) := by decide +kernel
theorem dX7_init_27 : decode cX7_init 27 = .ok (.putfield 16, 3) := by decide +kernel
theorem dX7_init_30 : decode cX7_init 30 = .ok (.aload_n 0, 1) := by decide +kernel
theorem dX7_init_31 : decode cX7_init 31 = .ok (.sipush 18802, 3) := by decide +kernel
theorem dX7_init_34 : decode cX7_init 34 = .ok (.newarray .int, 2) := by decide +kernel
theorem dX7_init_36 : decode cX7_init 36 = .ok (.putfield 19, 3) := by decide +kernel
theorem dX7_init_39 : decode cX7_init 39 = .ok (.aload_n 0, 1) := by decide +kernel
theorem dX7_init_40 : decode cX7_init 40 = .ok (.sipush 2686, 3) := by decide +kernel
theorem dX7_init_43 : decode cX7_init 43 = .ok (.newarray .int, 2) := by decide +kernel
theorem dX7_init_45 : decode cX7_init 45 = .ok (.putfield 22, 3) := by decide +kernel
theorem dX7_init_48 : decode cX7_init 48 = .ok (.aload_n 0, 1) := by decide +kernel
theorem dX7_init_49 : decode cX7_init 49 = .ok (.iconst 2, 1) := by decide +kernel
theorem dX7_init_50 : decode cX7_init 50 = .ok (.newarray .boolean, 2) := by decide +kernel
theorem dX7_init_52 : decode cX7_init 52 = .ok (.putfield 25, 3) := by decide +kernel
theorem dX7_init_55 : decode cX7_init 55 = .ok (.aload_n 0, 1) := by decide +kernel
theorem dX7_init_56 : decode cX7_init 56 = .ok (.bipush 76, 2) := by decide +kernel
theorem dX7_init_58 : decode cX7_init 58 = .ok (.newarray .int, 2) := by decide +kernel
theorem dX7_init_60 : decode cX7_init 60 = .ok (.putfield 29, 3) := by decide +kernel
theorem dX7_init_63 : decode cX7_init 63 = .ok (.aload_n 0, 1) := by decide +kernel
theorem dX7_init_64 : decode cX7_init 64 = .ok (.bipush 41, 2) := by decide +kernel
theorem dX7_init_66 : decode cX7_init 66 = .ok (.newarray .int, 2) := by decide +kernel
theorem dX7_init_68 : decode cX7_init 68 = .ok (.putfield 32, 3) := by decide +kernel
theorem dX7_init_71 : decode cX7_init 71 = .ok (.aload_n 0, 1) := by decide +kernel
theorem dX7_init_72 : decode cX7_init 72 = .ok (.bipush 41, 2) := by decide +kernel
theorem dX7_init_74 : decode cX7_init 74 = .ok (.newarray .int, 2) := by decide +kernel
theorem dX7_init_76 : decode cX7_init 76 = .ok (.putfield 35, 3) := by decide +kernel
theorem dX7_init_79 : decode cX7_init 79 = .ok (.aload_n 0, 1) := by decide +kernel
theorem dX7_init_80 : decode cX7_init 80 = .ok (.sipush 1681, 3) := by decide +kernel
theorem dX7_init_83 : decode cX7_init 83 = .ok (.newarray .int, 2) := by decide +kernel
theorem dX7_init_85 : decode cX7_init 85 = .ok (.putfield 38, 3) := by decide +kernel
theorem dX7_init_88 : decode cX7_init 88 = .ok (.aload_n 0, 1) := by decide +kernel
theorem dX7_init_89 : decode cX7_init 89 = .ok (.getfield 13, 3) := by decide +kernel
theorem dX7_init_92 : decode cX7_init 92 = .ok (.bipush 77, 2) := by decide +kernel
theorem dX7_init_94 : decode cX7_init 94 = .ok (.bipush 10, 2) := by decide +kernel
theorem dX7_init_96 : decode cX7_init 96 = .ok (.iastore, 1) := by decide +kernel
theorem dX7_init_97 : decode cX7_init 97 = .ok (.aload_n 0, 1) := by decide +kernel
theorem dX7_init_98 : decode cX7_init 98 = .ok (.getfield 13, 3) := by decide +kernel
theorem dX7_init_101 : decode cX7_init 101 = .ok (.bipush 78, 2) := by decide +kernel
theorem dX7_init_103 : decode cX7_init 103 = .ok (.bipush 12, 2) := by decide +kernel
theorem dX7_init_105 : decode cX7_init 105 = .ok (.iastore, 1) := by decide +kernel
