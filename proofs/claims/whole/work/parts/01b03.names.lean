set_option maxRecDepth 20000 in
theorem gX6_undo_X1_dropNewest : GoodIn wsX6_undo (wsV RX6 201 RX1 yX1_dropNewest wsX1_dropNewest) := goodIn_app (goodIn_of _ (by decide +kernel)) ggX6_undo_X1_dropNewest
theorem dX6_undo_0 : decode cX6_undo 0 = .ok (.aload_n 0, 1) := by decide +kernel
theorem dX6_undo_1 : decode cX6_undo 1 = .ok (.getfield 36, 3) := by decide +kernel
theorem dX6_undo_4 : decode cX6_undo 4 = .ok (.invokevirtual 195, 3) := by decide +kernel
theorem dX6_undo_7 : decode cX6_undo 7 = .ok (.astore_n 1, 1) := by decide +kernel
theorem dX6_undo_8 : decode cX6_undo 8 = .ok (.aload_n 1, 1) := by decide +kernel
theorem dX6_undo_9 : decode cX6_undo 9 = .ok (.ifnonnull 13, 3) := by decide +kernel
theorem dX6_undo_12 : decode cX6_undo 12 = .ok (.new 60, 3) := by decide +kernel
theorem dX6_undo_15 : decode cX6_undo 15 = .ok (.dup, 1) := by decide +kernel
theorem dX6_undo_16 : decode cX6_undo 16 = .ok (.ldc 199, 2) := by decide +kernel
theorem dX6_undo_18 : decode cX6_undo 18 = .ok (.invokespecial 64, 3) := by decide +kernel
theorem dX6_undo_21 : decode cX6_undo 21 = .ok (.athrow, 1) := by decide +kernel
theorem dX6_undo_22 : decode cX6_undo 22 = .ok (.aload_n 0, 1) := by decide +kernel
theorem dX6_undo_23 : decode cX6_undo 23 = .ok (.getfield 12, 3) := by decide +kernel
theorem dX6_undo_26 : decode cX6_undo 26 = .ok (.aload_n 1, 1) := by decide +kernel
theorem dX6_undo_27 : decode cX6_undo 27 = .ok (.invokevirtual 159, 3) := by decide +kernel
theorem dX6_undo_30 : decode cX6_undo 30 = .ok (.aload_n 0, 1) := by decide +kernel
theorem dX6_undo_31 : decode cX6_undo 31 = .ok (.getfield 36, 3) := by decide +kernel
theorem dX6_undo_34 : decode cX6_undo 34 = .ok (.invokevirtual 201, 3) := by decide +kernel
theorem dX6_undo_37 : decode cX6_undo 37 = .ok (.aload_n 0, 1) := by decide +kernel
theorem dX6_undo_38 : decode cX6_undo 38 = .ok (.getfield 36, 3) := by decide +kernel
theorem dX6_undo_41 : decode cX6_undo 41 = .ok (.getfield 204, 3) := by decide +kernel
theorem dX6_undo_44 : decode cX6_undo 44 = .ok (.ireturn, 1) := by decide +kernel
set_option maxRecDepth 20000 in
theorem ggX6_read_X2_readFigure : GoodIn wsX6_read wsX2_readFigure := goodIn_r _ [13, 14, 15, 16, 17, 18, 19, 20, 21, 22, 23, 12, 24, 25, 26, 27, 28, 29, 30, 31, 32, 33, 34, 35, 36, 37, 38, 39, 40, 41, 42, 43, 44, 45, 46, 47, 48, 49, 50, 51, 52, 53, 54, 55, 56, 57, 58, 59, 60, 61, 62, 63, 64, 65, 66, 67, 68, 69, 76, 77, 78, 79, 80, 81, 82, 83, 84, 85, 86, 87, 88, 89, 90, 91, 92] (by decide +kernel) (by decide +kernel)
set_option maxRecDepth 20000 in
theorem gX6_read_X2_readFigure : GoodIn wsX6_read (wsV RX6 207 RX2 yX2_readFigure wsX2_readFigure) := goodIn_app (goodIn_of _ (by decide +kernel)) ggX6_read_X2_readFigure
theorem dX6_read_0 : decode cX6_read 0 = .ok (.iload_n 1, 1) := by decide +kernel
theorem dX6_read_1 : decode cX6_read 1 = .ok (.ifCond .lt 8, 3) := by decide +kernel
theorem dX6_read_4 : decode cX6_read 4 = .ok (.iload_n 1, 1) := by decide +kernel
theorem dX6_read_5 : decode cX6_read 5 = .ok (.iconst 3, 1) := by decide +kernel
theorem dX6_read_6 : decode cX6_read 6 = .ok (.if_icmp .le 13, 3) := by decide +kernel
theorem dX6_read_9 : decode cX6_read 9 = .ok (.new 49, 3) := by decide +kernel
theorem dX6_read_12 : decode cX6_read 12 = .ok (.dup, 1) := by decide +kernel
theorem dX6_read_13 : decode cX6_read 13 = .ok (.ldc 118, 2) := by decide +kernel
theorem dX6_read_15 : decode cX6_read 15 = .ok (.invokespecial 53, 3) := by decide +kernel
theorem dX6_read_18 : decode cX6_read 18 = .ok (.athrow, 1) := by decide +kernel
theorem dX6_read_19 : decode cX6_read 19 = .ok (.aload_n 0, 1) := by decide +kernel
theorem dX6_read_20 : decode cX6_read 20 = .ok (.getfield 22, 3) := by decide +kernel
theorem dX6_read_23 : decode cX6_read 23 = .ok (.aload_n 0, 1) := by decide +kernel
theorem dX6_read_24 : decode cX6_read 24 = .ok (.getfield 12, 3) := by decide +kernel
theorem dX6_read_27 : decode cX6_read 27 = .ok (.bipush 16, 2) := by decide +kernel
theorem dX6_read_29 : decode cX6_read 29 = .ok (.iconst (-1), 1) := by decide +kernel
theorem dX6_read_30 : decode cX6_read 30 = .ok (.invokevirtual 207, 3) := by decide +kernel
theorem dX6_read_33 : decode cX6_read 33 = .ok (.iload_n 1, 1) := by decide +kernel
theorem dX6_read_34 : decode cX6_read 34 = .ok (.tableswitch 50 0 2 #[26, 34, 42], 26) := by decide +kernel
theorem dX6_read_60 : decode cX6_read 60 = .ok (.aload_n 0, 1) := by decide +kernel
theorem dX6_read_61 : decode cX6_read 61 = .ok (.getfield 22, 3) := by decide +kernel
theorem dX6_read_64 : decode cX6_read 64 = .ok (.getfield 211, 3) := by decide +kernel
theorem dX6_read_67 : decode cX6_read 67 = .ok (.ireturn, 1) := by decide +kernel
theorem dX6_read_68 : decode cX6_read 68 = .ok (.aload_n 0, 1) := by decide +kernel
theorem dX6_read_69 : decode cX6_read 69 = .ok (.getfield 22, 3) := by decide +kernel
theorem dX6_read_72 : decode cX6_read 72 = .ok (.getfield 214, 3) := by decide +kernel
theorem dX6_read_75 : decode cX6_read 75 = .ok (.ireturn, 1) := by decide +kernel
theorem dX6_read_76 : decode cX6_read 76 = .ok (.aload_n 0, 1) := by decide +kernel
theorem dX6_read_77 : decode cX6_read 77 = .ok (.getfield 22, 3) := by decide +kernel
theorem dX6_read_80 : decode cX6_read 80 = .ok (.getfield 217, 3) := by decide +kernel
theorem dX6_read_83 : decode cX6_read 83 = .ok (.ireturn, 1) := by decide +kernel
theorem dX6_read_84 : decode cX6_read 84 = .ok (.aload_n 0, 1) := by decide +kernel
theorem dX6_read_85 : decode cX6_read 85 = .ok (.getfield 22, 3) := by decide +kernel
theorem dX6_read_88 : decode cX6_read 88 = .ok (.getfield 220, 3) := by decide +kernel
theorem dX6_read_91 : decode cX6_read 91 = .ok (.ireturn, 1) := by decide +kernel
set_option maxRecDepth 20000 in
theorem ggX6_nearest_X4_hasSample : GoodIn wsX6_nearest wsX4_hasSample := goodIn_r _ [9, 10, 63, 64, 65, 66, 67, 68] (by decide +kernel) (by decide +kernel)
set_option maxRecDepth 20000 in
theorem gX6_nearest_X4_hasSample : GoodIn wsX6_nearest (wsV RX6 106 RX4 yX4_hasSample wsX4_hasSample) := goodIn_app (goodIn_of _ (by decide +kernel)) ggX6_nearest_X4_hasSample
set_option maxRecDepth 20000 in
theorem ggX6_nearest_X2_rankedSample : GoodIn wsX6_nearest wsX2_rankedSample := goodIn_r _ [15, 16, 17, 18, 19, 20, 21, 14, 22, 23, 24, 25, 26, 27, 28, 29, 30, 31, 32, 33, 34, 35, 36, 37, 38, 39, 40, 41, 42, 43, 44, 45, 46, 47, 48, 49, 50, 51, 52, 53, 54, 55, 56, 63, 64, 65, 66, 67, 68, 69, 70, 71, 72, 73, 74, 75, 76, 77, 78, 79] (by decide +kernel) (by decide +kernel)
set_option maxRecDepth 20000 in
theorem gX6_nearest_X2_rankedSample : GoodIn wsX6_nearest (wsV RX6 225 RX2 yX2_rankedSample wsX2_rankedSample) := goodIn_app (goodIn_of _ (by decide +kernel)) ggX6_nearest_X2_rankedSample
theorem dX6_nearest_0 : decode cX6_nearest 0 = .ok (.aload_n 0, 1) := by decide +kernel
theorem dX6_nearest_1 : decode cX6_nearest 1 = .ok (.getfield 12, 3) := by decide +kernel
theorem dX6_nearest_4 : decode cX6_nearest 4 = .ok (.iload_n 1, 1) := by decide +kernel
theorem dX6_nearest_5 : decode cX6_nearest 5 = .ok (.invokevirtual 106, 3) := by decide +kernel
theorem dX6_nearest_8 : decode cX6_nearest 8 = .ok (.ifCond .ne 13, 3) := by decide +kernel
theorem dX6_nearest_11 : decode cX6_nearest 11 = .ok (.new 110, 3) := by decide +kernel
theorem dX6_nearest_14 : decode cX6_nearest 14 = .ok (.dup, 1) := by decide +kernel
theorem dX6_nearest_15 : decode cX6_nearest 15 = .ok (.ldc 223, 2) := by decide +kernel
theorem dX6_nearest_17 : decode cX6_nearest 17 = .ok (.invokespecial 114, 3) := by decide +kernel
theorem dX6_nearest_20 : decode cX6_nearest 20 = .ok (.athrow, 1) := by decide +kernel
theorem dX6_nearest_21 : decode cX6_nearest 21 = .ok (.aload_n 0, 1) := by decide +kernel
theorem dX6_nearest_22 : decode cX6_nearest 22 = .ok (.getfield 22, 3) := by decide +kernel
theorem dX6_nearest_25 : decode cX6_nearest 25 = .ok (.aload_n 0, 1) := by decide +kernel
theorem dX6_nearest_26 : decode cX6_nearest 26 = .ok (.getfield 12, 3) := by decide +kernel
theorem dX6_nearest_29 : decode cX6_nearest 29 = .ok (.iload_n 1, 1) := by decide +kernel
theorem dX6_nearest_30 : decode cX6_nearest 30 = .ok (.invokevirtual 225, 3) := by decide +kernel
theorem dX6_nearest_33 : decode cX6_nearest 33 = .ok (.ireturn, 1) := by decide +kernel
set_option maxRecDepth 20000 in
theorem ggX6_between_X4_hasSample : GoodIn wsX6_between wsX4_hasSample := goodIn_r _ [10, 11, 53, 54, 55, 56, 57, 58] (by decide +kernel) (by decide +kernel)
set_option maxRecDepth 20000 in
theorem gX6_between_X4_hasSample : GoodIn wsX6_between (wsV RX6 106 RX4 yX4_hasSample wsX4_hasSample) := goodIn_app (goodIn_of _ (by decide +kernel)) ggX6_between_X4_hasSample
set_option maxRecDepth 20000 in
theorem ggX6_between_X2_distanceOf : GoodIn wsX6_between wsX2_distanceOf := goodIn_r _ [16, 17, 18, 19, 20, 21, 22, 23, 24, 25, 26, 27, 28, 29, 30, 31, 32, 33, 34, 35, 36, 37, 38, 39, 15, 40, 41, 42, 43, 44, 45, 46, 59, 60, 61, 62, 63, 64, 65, 66, 67, 68, 69] (by decide +kernel) (by decide +kernel)
set_option maxRecDepth 20000 in
theorem gX6_between_X2_distanceOf : GoodIn wsX6_between (wsV RX6 228 RX2 yX2_distanceOf wsX2_distanceOf) := goodIn_app (goodIn_of _ (by decide +kernel)) ggX6_between_X2_distanceOf
theorem dX6_between_0 : decode cX6_between 0 = .ok (.aload_n 0, 1) := by decide +kernel
theorem dX6_between_1 : decode cX6_between 1 = .ok (.getfield 12, 3) := by decide +kernel
theorem dX6_between_4 : decode cX6_between 4 = .ok (.iload_n 1, 1) := by decide +kernel
theorem dX6_between_5 : decode cX6_between 5 = .ok (.invokevirtual 106, 3) := by decide +kernel
theorem dX6_between_8 : decode cX6_between 8 = .ok (.ifCond .eq 14, 3) := by decide +kernel
theorem dX6_between_11 : decode cX6_between 11 = .ok (.aload_n 0, 1) := by decide +kernel
theorem dX6_between_12 : decode cX6_between 12 = .ok (.getfield 12, 3) := by decide +kernel
theorem dX6_between_15 : decode cX6_between 15 = .ok (.iload_n 2, 1) := by decide +kernel
theorem dX6_between_16 : decode cX6_between 16 = .ok (.invokevirtual 106, 3) := by decide +kernel
theorem dX6_between_19 : decode cX6_between 19 = .ok (.ifCond .ne 13, 3) := by decide +kernel
theorem dX6_between_22 : decode cX6_between 22 = .ok (.new 110, 3) := by decide +kernel
theorem dX6_between_25 : decode cX6_between 25 = .ok (.dup, 1) := by decide +kernel
theorem dX6_between_26 : decode cX6_between 26 = .ok (.ldc 112, 2) := by decide +kernel
theorem dX6_between_28 : decode cX6_between 28 = .ok (.invokespecial 114, 3) := by decide +kernel
theorem dX6_between_31 : decode cX6_between 31 = .ok (.athrow, 1) := by decide +kernel
theorem dX6_between_32 : decode cX6_between 32 = .ok (.aload_n 0, 1) := by decide +kernel
theorem dX6_between_33 : decode cX6_between 33 = .ok (.getfield 22, 3) := by decide +kernel
theorem dX6_between_36 : decode cX6_between 36 = .ok (.aload_n 0, 1) := by decide +kernel
theorem dX6_between_37 : decode cX6_between 37 = .ok (.getfield 12, 3) := by decide +kernel
theorem dX6_between_40 : decode cX6_between 40 = .ok (.getfield 72, 3) := by decide +kernel
theorem dX6_between_43 : decode cX6_between 43 = .ok (.iload_n 1, 1) := by decide +kernel
theorem dX6_between_44 : decode cX6_between 44 = .ok (.iload_n 2, 1) := by decide +kernel
theorem dX6_between_45 : decode cX6_between 45 = .ok (.invokevirtual 228, 3) := by decide +kernel
theorem dX6_between_48 : decode cX6_between 48 = .ok (.ireturn, 1) := by decide +kernel
set_option maxRecDepth 20000 in
theorem ggX6_closest_X2_closestPair : GoodIn wsX6_closest wsX2_closestPair := goodIn_r _ [7, 8, 9, 10, 11, 12, 13, 14, 15, 16, 17, 18, 19, 20, 21, 6, 22, 23, 24, 25, 26, 27, 28, 29, 30, 31, 32, 33, 34, 35, 36, 37, 38, 39, 40, 41, 42, 43, 44, 45, 46, 47, 48, 49, 56, 57, 58, 59, 60, 61, 62, 63, 64, 65, 66, 67, 68, 69, 70, 71, 72] (by decide +kernel) (by decide +kernel)
set_option maxRecDepth 20000 in
theorem gX6_closest_X2_closestPair : GoodIn wsX6_closest (wsV RX6 232 RX2 yX2_closestPair wsX2_closestPair) := goodIn_app (goodIn_of _ (by decide +kernel)) ggX6_closest_X2_closestPair
theorem dX6_closest_0 : decode cX6_closest 0 = .ok (.aload_n 0, 1) := by decide +kernel
theorem dX6_closest_1 : decode cX6_closest 1 = .ok (.getfield 22, 3) := by decide +kernel
theorem dX6_closest_4 : decode cX6_closest 4 = .ok (.aload_n 0, 1) := by decide +kernel
theorem dX6_closest_5 : decode cX6_closest 5 = .ok (.getfield 12, 3) := by decide +kernel
theorem dX6_closest_8 : decode cX6_closest 8 = .ok (.iconst (-1), 1) := by decide +kernel
theorem dX6_closest_9 : decode cX6_closest 9 = .ok (.invokevirtual 232, 3) := by decide +kernel
theorem dX6_closest_12 : decode cX6_closest 12 = .ok (.ireturn, 1) := by decide +kernel
set_option maxRecDepth 20000 in
theorem ggX6_byOthers_X2_readFigure : GoodIn wsX6_byOthers wsX2_readFigure := goodIn_r _ [9, 10, 11, 12, 13, 14, 15, 16, 17, 18, 19, 8, 20, 21, 22, 23, 24, 25, 26, 27, 28, 29, 30, 31, 32, 33, 34, 35, 36, 37, 38, 39, 40, 41, 42, 43, 44, 45, 46, 47, 48, 49, 50, 51, 52, 53, 54, 55, 56, 57, 58, 59, 60, 61, 62, 63, 64, 65, 79, 80, 81, 82, 83, 84, 73, 74, 75, 76, 77, 78, 85, 86, 87, 88, 89] (by decide +kernel) (by decide +kernel)
set_option maxRecDepth 20000 in
theorem gX6_byOthers_X2_readFigure : GoodIn wsX6_byOthers (wsV RX6 207 RX2 yX2_readFigure wsX2_readFigure) := goodIn_app (goodIn_of _ (by decide +kernel)) ggX6_byOthers_X2_readFigure
set_option maxRecDepth 20000 in
theorem ggX6_byOthers_X4_nameOf : GoodIn wsX6_byOthers wsX4_nameOf := goodIn_r _ [64, 65, 32, 33, 34, 73, 74, 75, 76, 77, 78] (by decide +kernel) (by decide +kernel)
set_option maxRecDepth 20000 in
theorem gX6_byOthers_X4_nameOf : GoodIn wsX6_byOthers (wsV RX6 115 RX4 yX4_nameOf wsX4_nameOf) := goodIn_app (goodIn_of _ (by decide +kernel)) ggX6_byOthers_X4_nameOf
theorem dX6_byOthers_0 : decode cX6_byOthers 0 = .ok (.iconst 0, 1) := by decide +kernel
theorem dX6_byOthers_1 : decode cX6_byOthers 1 = .ok (.istore_n 1, 1) := by decide +kernel
theorem dX6_byOthers_2 : decode cX6_byOthers 2 = .ok (.iconst 0, 1) := by decide +kernel
theorem dX6_byOthers_3 : decode cX6_byOthers 3 = .ok (.istore_n 2, 1) := by decide +kernel
theorem dX6_byOthers_4 : decode cX6_byOthers 4 = .ok (.iload_n 2, 1) := by decide +kernel
theorem dX6_byOthers_5 : decode cX6_byOthers 5 = .ok (.aload_n 0, 1) := by decide +kernel
theorem dX6_byOthers_6 : decode cX6_byOthers 6 = .ok (.getfield 12, 3) := by decide +kernel
theorem dX6_byOthers_9 : decode cX6_byOthers 9 = .ok (.getfield 92, 3) := by decide +kernel
theorem dX6_byOthers_12 : decode cX6_byOthers 12 = .ok (.if_icmp .ge 43, 3) := by decide +kernel
theorem dX6_byOthers_15 : decode cX6_byOthers 15 = .ok (.aload_n 0, 1) := by decide +kernel
theorem dX6_byOthers_16 : decode cX6_byOthers 16 = .ok (.getfield 22, 3) := by decide +kernel
theorem dX6_byOthers_19 : decode cX6_byOthers 19 = .ok (.aload_n 0, 1) := by decide +kernel
theorem dX6_byOthers_20 : decode cX6_byOthers 20 = .ok (.getfield 12, 3) := by decide +kernel
theorem dX6_byOthers_23 : decode cX6_byOthers 23 = .ok (.iload_n 2, 1) := by decide +kernel
theorem dX6_byOthers_24 : decode cX6_byOthers 24 = .ok (.iload_n 2, 1) := by decide +kernel
theorem dX6_byOthers_25 : decode cX6_byOthers 25 = .ok (.invokevirtual 207, 3) := by decide +kernel
theorem dX6_byOthers_28 : decode cX6_byOthers 28 = .ok (.aload_n 0, 1) := by decide +kernel
theorem dX6_byOthers_29 : decode cX6_byOthers 29 = .ok (.getfield 22, 3) := by decide +kernel
theorem dX6_byOthers_32 : decode cX6_byOthers 32 = .ok (.getfield 214, 3) := by decide +kernel
theorem dX6_byOthers_35 : decode cX6_byOthers 35 = .ok (.aload_n 0, 1) := by decide +kernel
theorem dX6_byOthers_36 : decode cX6_byOthers 36 = .ok (.getfield 12, 3) := by decide +kernel
theorem dX6_byOthers_39 : decode cX6_byOthers 39 = .ok (.iload_n 2, 1) := by decide +kernel
theorem dX6_byOthers_40 : decode cX6_byOthers 40 = .ok (.invokevirtual 115, 3) := by decide +kernel
theorem dX6_byOthers_43 : decode cX6_byOthers 43 = .ok (.if_icmp .ne 6, 3) := by decide +kernel
theorem dX6_byOthers_46 : decode cX6_byOthers 46 = .ok (.iinc 1 1, 3) := by decide +kernel
theorem dX6_byOthers_49 : decode cX6_byOthers 49 = .ok (.iinc 2 1, 3) := by decide +kernel
theorem dX6_byOthers_52 : decode cX6_byOthers 52 = .ok (.goto (-48), 3) := by decide +kernel
theorem dX6_byOthers_55 : decode cX6_byOthers 55 = .ok (.iload_n 1, 1) := by decide +kernel
theorem dX6_byOthers_56 : decode cX6_byOthers 56 = .ok (.ireturn, 1) := by decide +kernel
set_option maxRecDepth 20000 in
theorem ggX6_bestRuling_X4_copyFrom : GoodIn wsX6_bestRuling wsX4_copyFrom := goodIn_r _ [7, 8, 9, 10, 11, 12, 13, 14, 15, 16, 17, 18, 19, 20, 21, 22, 23, 24, 25, 26, 27, 28, 29, 30, 31, 32, 33, 34, 144, 145, 146, 147, 148, 149, 150, 151, 152, 153, 154] (by decide +kernel) (by decide +kernel)
set_option maxRecDepth 20000 in
theorem gX6_bestRuling_X4_copyFrom : GoodIn wsX6_bestRuling (wsV RX6 159 RX4 yX4_copyFrom wsX4_copyFrom) := goodIn_app (goodIn_of _ (by decide +kernel)) ggX6_bestRuling_X4_copyFrom
set_option maxRecDepth 20000 in
theorem ggX6_bestRuling_X4_clearHand : GoodIn wsX6_bestRuling wsX4_clearHand := goodIn_r _ [38, 8, 13, 39, 40, 41, 17, 42, 19, 22, 43, 25, 44, 144, 145, 146, 147, 148, 149, 150, 151, 152, 153, 154] (by decide +kernel) (by decide +kernel)
set_option maxRecDepth 20000 in
theorem gX6_bestRuling_X4_clearHand : GoodIn wsX6_bestRuling (wsV RX6 162 RX4 yX4_clearHand wsX4_clearHand) := goodIn_app (goodIn_of _ (by decide +kernel)) ggX6_bestRuling_X4_clearHand
set_option maxRecDepth 20000 in
theorem ggX6_bestRuling_X4_changeSetting : GoodIn wsX6_bestRuling wsX4_changeSetting := goodIn_r _ [48, 10, 12, 8, 49, 50, 51, 6, 52, 53, 54, 55, 17, 56, 57, 58, 29, 59, 60, 61, 62, 63, 19, 64, 25, 65, 66, 67, 68, 69, 20, 70, 71, 72, 73, 21, 74, 75, 76, 77, 78, 79, 80, 81, 82, 43, 44, 83, 84, 85, 86, 22, 87, 88, 89, 90, 23, 91, 92, 93, 94, 95, 96, 97, 98, 99, 100, 101, 144, 145, 146, 147, 148, 149, 150, 151, 152, 153, 154] (by decide +kernel) (by decide +kernel)
set_option maxRecDepth 20000 in
theorem gX6_bestRuling_X4_changeSetting : GoodIn wsX6_bestRuling (wsV RX6 190 RX4 yX4_changeSetting wsX4_changeSetting) := goodIn_app (goodIn_of _ (by decide +kernel)) ggX6_bestRuling_X4_changeSetting
set_option maxRecDepth 20000 in
theorem ggX6_bestRuling_X6_leastOfPairs : GoodIn wsX6_bestRuling wsX6_leastOfPairs := goodIn_r _ [105, 106, 107, 108, 109, 110, 111, 112, 113, 114, 115, 116, 117, 6, 118, 9, 64, 25, 65, 119, 120, 121, 122, 123, 124, 28, 29, 30, 125, 92, 93, 17, 94, 22, 43, 44, 126, 127, 128, 129, 23, 130, 131, 132, 133, 134, 135, 136, 81, 82, 137, 138, 139, 140, 141, 142, 143, 144, 145, 146, 147, 148, 149, 155, 156, 157, 158, 159, 160, 150, 151, 152, 153, 154] (by decide +kernel) (by decide +kernel)
set_option maxRecDepth 20000 in
theorem gX6_bestRuling_X6_leastOfPairs : GoodIn wsX6_bestRuling (wsV RX6 235 RX6 yX6_leastOfPairs wsX6_leastOfPairs) := goodIn_app (goodIn_of _ (by decide +kernel)) ggX6_bestRuling_X6_leastOfPairs
theorem dX6_bestRuling_0 : decode cX6_bestRuling 0 = .ok (.aload_n 0, 1) := by decide +kernel
theorem dX6_bestRuling_1 : decode cX6_bestRuling 1 = .ok (.getfield 16, 3) := by decide +kernel
theorem dX6_bestRuling_4 : decode cX6_bestRuling 4 = .ok (.aload_n 0, 1) := by decide +kernel
theorem dX6_bestRuling_5 : decode cX6_bestRuling 5 = .ok (.getfield 12, 3) := by decide +kernel
theorem dX6_bestRuling_8 : decode cX6_bestRuling 8 = .ok (.invokevirtual 159, 3) := by decide +kernel
theorem dX6_bestRuling_11 : decode cX6_bestRuling 11 = .ok (.aload_n 0, 1) := by decide +kernel
theorem dX6_bestRuling_12 : decode cX6_bestRuling 12 = .ok (.getfield 16, 3) := by decide +kernel
theorem dX6_bestRuling_15 : decode cX6_bestRuling 15 = .ok (.invokevirtual 162, 3) := by decide +kernel
theorem dX6_bestRuling_18 : decode cX6_bestRuling 18 = .ok (.iconst (-1), 1) := by decide +kernel
theorem dX6_bestRuling_19 : decode cX6_bestRuling 19 = .ok (.istore_n 1, 1) := by decide +kernel
theorem dX6_bestRuling_20 : decode cX6_bestRuling 20 = .ok (.iconst (-1), 1) := by decide +kernel
theorem dX6_bestRuling_21 : decode cX6_bestRuling 21 = .ok (.istore_n 2, 1) := by decide +kernel
theorem dX6_bestRuling_22 : decode cX6_bestRuling 22 = .ok (.iconst 5, 1) := by decide +kernel
theorem dX6_bestRuling_23 : decode cX6_bestRuling 23 = .ok (.istore_n 3, 1) := by decide +kernel
theorem dX6_bestRuling_24 : decode cX6_bestRuling 24 = .ok (.iload_n 3, 1) := by decide +kernel
theorem dX6_bestRuling_25 : decode cX6_bestRuling 25 = .ok (.bipush 20, 2) := by decide +kernel
theorem dX6_bestRuling_27 : decode cX6_bestRuling 27 = .ok (.if_icmp .gt 47, 3) := by decide +kernel
theorem dX6_bestRuling_30 : decode cX6_bestRuling 30 = .ok (.aload_n 0, 1) := by decide +kernel
theorem dX6_bestRuling_31 : decode cX6_bestRuling 31 = .ok (.getfield 16, 3) := by decide +kernel
theorem dX6_bestRuling_34 : decode cX6_bestRuling 34 = .ok (.iconst 0, 1) := by decide +kernel
theorem dX6_bestRuling_35 : decode cX6_bestRuling 35 = .ok (.iload_n 3, 1) := by decide +kernel
theorem dX6_bestRuling_36 : decode cX6_bestRuling 36 = .ok (.invokevirtual 190, 3) := by decide +kernel
theorem dX6_bestRuling_39 : decode cX6_bestRuling 39 = .ok (.ifCond .eq 15, 3) := by decide +kernel
theorem dX6_bestRuling_42 : decode cX6_bestRuling 42 = .ok (.aload_n 0, 1) := by decide +kernel
theorem dX6_bestRuling_43 : decode cX6_bestRuling 43 = .ok (.aload_n 0, 1) := by decide +kernel
theorem dX6_bestRuling_44 : decode cX6_bestRuling 44 = .ok (.getfield 16, 3) := by decide +kernel
theorem dX6_bestRuling_47 : decode cX6_bestRuling 47 = .ok (.iload_n 2, 1) := by decide +kernel
theorem dX6_bestRuling_48 : decode cX6_bestRuling 48 = .ok (.invokevirtual 235, 3) := by decide +kernel
theorem dX6_bestRuling_51 : decode cX6_bestRuling 51 = .ok (.goto 4, 3) := by decide +kernel
theorem dX6_bestRuling_54 : decode cX6_bestRuling 54 = .ok (.iconst (-1), 1) := by decide +kernel
theorem dX6_bestRuling_55 : decode cX6_bestRuling 55 = .ok (.istore 4, 2) := by decide +kernel
theorem dX6_bestRuling_57 : decode cX6_bestRuling 57 = .ok (.iload 4, 2) := by decide +kernel
theorem dX6_bestRuling_59 : decode cX6_bestRuling 59 = .ok (.iload_n 2, 1) := by decide +kernel
theorem dX6_bestRuling_60 : decode cX6_bestRuling 60 = .ok (.if_icmp .le 8, 3) := by decide +kernel
theorem dX6_bestRuling_63 : decode cX6_bestRuling 63 = .ok (.iload 4, 2) := by decide +kernel
theorem dX6_bestRuling_65 : decode cX6_bestRuling 65 = .ok (.istore_n 2, 1) := by decide +kernel
theorem dX6_bestRuling_66 : decode cX6_bestRuling 66 = .ok (.iload_n 3, 1) := by decide +kernel
theorem dX6_bestRuling_67 : decode cX6_bestRuling 67 = .ok (.istore_n 1, 1) := by decide +kernel
theorem dX6_bestRuling_68 : decode cX6_bestRuling 68 = .ok (.iinc 3 1, 3) := by decide +kernel
theorem dX6_bestRuling_71 : decode cX6_bestRuling 71 = .ok (.goto (-47), 3) := by decide +kernel
theorem dX6_bestRuling_74 : decode cX6_bestRuling 74 = .ok (.iload_n 1, 1) := by decide +kernel
theorem dX6_bestRuling_75 : decode cX6_bestRuling 75 = .ok (.ireturn, 1) := by decide +kernel
set_option maxRecDepth 20000 in
theorem ggX6_mirrored_X4_copyFrom : GoodIn wsX6_mirrored wsX4_copyFrom := goodIn_r _ [9, 10, 11, 12, 13, 14, 15, 16, 17, 18, 19, 20, 21, 22, 23, 24, 25, 26, 27, 28, 29, 30, 31, 32, 33, 34, 35, 36, 155, 156, 157, 158, 159, 160, 161, 162, 163, 164, 165] (by decide +kernel) (by decide +kernel)
set_option maxRecDepth 20000 in
theorem gX6_mirrored_X4_copyFrom : GoodIn wsX6_mirrored (wsV RX6 159 RX4 yX4_copyFrom wsX4_copyFrom) := goodIn_app (goodIn_of _ (by decide +kernel)) ggX6_mirrored_X4_copyFrom
set_option maxRecDepth 20000 in
theorem ggX6_mirrored_X4_mirrorHand : GoodIn wsX6_mirrored wsX4_mirrorHand := goodIn_r _ [40, 10, 41, 42, 43, 19, 44, 45, 46, 47, 48, 21, 49, 27, 50, 51, 52, 53, 54, 22, 55, 56, 57, 58, 23, 59, 60, 61, 62, 63, 64, 65, 66, 67, 8, 68, 12, 69, 70, 71, 72, 73, 74, 31, 75, 76, 77, 78, 79, 80, 81, 82, 83, 84, 85, 86, 87, 88, 24, 89, 90, 91, 92, 25, 93, 94, 95, 96, 97, 98, 99, 100, 101, 102, 103, 155, 156, 157, 158, 159, 160, 161, 162, 163, 164, 165] (by decide +kernel) (by decide +kernel)
set_option maxRecDepth 20000 in
theorem gX6_mirrored_X4_mirrorHand : GoodIn wsX6_mirrored (wsV RX6 238 RX4 yX4_mirrorHand wsX4_mirrorHand) := goodIn_app (goodIn_of _ (by decide +kernel)) ggX6_mirrored_X4_mirrorHand
set_option maxRecDepth 20000 in
theorem ggX6_mirrored_X2_readFigure : GoodIn wsX6_mirrored wsX2_readFigure := goodIn_r _ [108, 109, 110, 111, 112, 113, 114, 115, 116, 117, 118, 107, 119, 120, 121, 30, 31, 32, 122, 94, 95, 19, 96, 24, 49, 27, 50, 63, 64, 123, 124, 125, 126, 25, 127, 128, 129, 130, 131, 132, 133, 83, 84, 134, 66, 67, 8, 68, 12, 135, 136, 137, 138, 139, 140, 141, 142, 11, 149, 150, 151, 152, 153, 154, 155, 156, 157, 158, 159, 160, 161, 162, 163, 164, 165] (by decide +kernel) (by decide +kernel)
set_option maxRecDepth 20000 in
theorem gX6_mirrored_X2_readFigure : GoodIn wsX6_mirrored (wsV RX6 207 RX2 yX2_readFigure wsX2_readFigure) := goodIn_app (goodIn_of _ (by decide +kernel)) ggX6_mirrored_X2_readFigure
theorem dX6_mirrored_0 : decode cX6_mirrored 0 = .ok (.aload_n 0, 1) := by decide +kernel
theorem dX6_mirrored_1 : decode cX6_mirrored 1 = .ok (.getfield 16, 3) := by decide +kernel
theorem dX6_mirrored_4 : decode cX6_mirrored 4 = .ok (.aload_n 0, 1) := by decide +kernel
theorem dX6_mirrored_5 : decode cX6_mirrored 5 = .ok (.getfield 12, 3) := by decide +kernel
theorem dX6_mirrored_8 : decode cX6_mirrored 8 = .ok (.invokevirtual 159, 3) := by decide +kernel
theorem dX6_mirrored_11 : decode cX6_mirrored 11 = .ok (.aload_n 0, 1) := by decide +kernel
theorem dX6_mirrored_12 : decode cX6_mirrored 12 = .ok (.getfield 16, 3) := by decide +kernel
theorem dX6_mirrored_15 : decode cX6_mirrored 15 = .ok (.invokevirtual 238, 3) := by decide +kernel
theorem dX6_mirrored_18 : decode cX6_mirrored 18 = .ok (.ifCond .ne 5, 3) := by decide +kernel
theorem dX6_mirrored_21 : decode cX6_mirrored 21 = .ok (.iconst (-1), 1) := by decide +kernel
theorem dX6_mirrored_22 : decode cX6_mirrored 22 = .ok (.ireturn, 1) := by decide +kernel
theorem dX6_mirrored_23 : decode cX6_mirrored 23 = .ok (.aload_n 0, 1) := by decide +kernel
theorem dX6_mirrored_24 : decode cX6_mirrored 24 = .ok (.getfield 22, 3) := by decide +kernel
theorem dX6_mirrored_27 : decode cX6_mirrored 27 = .ok (.aload_n 0, 1) := by decide +kernel
theorem dX6_mirrored_28 : decode cX6_mirrored 28 = .ok (.getfield 16, 3) := by decide +kernel
theorem dX6_mirrored_31 : decode cX6_mirrored 31 = .ok (.bipush 16, 2) := by decide +kernel
theorem dX6_mirrored_33 : decode cX6_mirrored 33 = .ok (.iconst (-1), 1) := by decide +kernel
theorem dX6_mirrored_34 : decode cX6_mirrored 34 = .ok (.invokevirtual 207, 3) := by decide +kernel
theorem dX6_mirrored_37 : decode cX6_mirrored 37 = .ok (.aload_n 0, 1) := by decide +kernel
theorem dX6_mirrored_38 : decode cX6_mirrored 38 = .ok (.getfield 22, 3) := by decide +kernel
theorem dX6_mirrored_41 : decode cX6_mirrored 41 = .ok (.getfield 214, 3) := by decide +kernel
theorem dX6_mirrored_44 : decode cX6_mirrored 44 = .ok (.ireturn, 1) := by decide +kernel
set_option maxRecDepth 20000 in
theorem ggX6_runScript_X6_withoutGroups : GoodIn wsX6_runScript wsX6_withoutGroups := goodIn_r _ [9, 5] (by decide +kernel) (by decide +kernel)
set_option maxRecDepth 20000 in
theorem gX6_runScript_X6_withoutGroups : GoodIn wsX6_runScript (va_wsS RX6 244 yX6_withoutGroups wsX6_withoutGroups) := goodIn_app (goodIn_of _ (by decide +kernel)) ggX6_runScript_X6_withoutGroups
set_option maxRecDepth 20000 in
theorem ggX6_runScript_X4_copyFrom : GoodIn wsX6_runScript wsX4_copyFrom := goodIn_r _ [14, 15, 16, 17, 18, 19, 20, 21, 22, 23, 24, 25, 26, 27, 28, 29, 30, 31, 8, 32, 33, 34, 35, 36, 37, 38, 39, 40, 237, 238, 239, 240, 241, 242, 243, 244, 245, 246, 247] (by decide +kernel) (by decide +kernel)
set_option maxRecDepth 20000 in
theorem gX6_runScript_X4_copyFrom : GoodIn wsX6_runScript (wsV RX6 159 RX4 yX4_copyFrom wsX4_copyFrom) := goodIn_app (goodIn_of _ (by decide +kernel)) ggX6_runScript_X4_copyFrom
set_option maxRecDepth 20000 in
theorem ggX6_runScript_X6_commandSucceeds : GoodIn wsX6_runScript wsX6_commandSucceeds := goodIn_r _ [44, 3, 45, 46, 47, 48, 49, 50, 51, 52, 13, 53, 20, 15, 54, 8, 55, 56, 57, 58, 59, 17, 60, 61, 62, 63, 64, 24, 65, 27, 66, 67, 68, 69, 26, 70, 71, 72, 73, 74, 75, 76, 77, 28, 78, 79, 80, 81, 29, 82, 83, 84, 85, 86, 87, 88, 89, 35, 90, 91, 92, 93, 94, 95, 96, 97, 98, 99, 100, 101, 102, 103, 104, 105, 106, 107, 30, 108, 109, 110, 111, 112, 113, 114, 115, 116, 117, 118, 119, 19, 16, 120, 121, 122, 123, 124, 125, 126, 127, 128, 129, 130, 131, 132, 133, 134, 135, 136, 137, 138, 139, 140, 141, 142, 143, 37, 38, 39, 40, 144, 145, 146, 147, 148, 149, 150, 151, 152, 153, 154, 155, 156, 157, 158, 159, 160, 161, 162, 163, 164, 165, 166, 167, 168, 169, 170, 171, 172, 173, 174, 175, 176, 177, 178, 179, 180, 181, 182, 183, 184, 185, 186, 187, 188, 189, 190, 191, 192, 193, 194, 195, 196, 197, 198, 199, 34, 36, 200, 201, 202, 203, 204, 205, 206, 207, 208, 209, 210, 211, 212, 213, 214, 215, 216, 217, 218, 219, 220, 221, 222, 223, 224, 225, 18, 226, 227, 228, 229, 230, 231, 232, 233, 234, 235, 236, 248, 249, 250, 251, 252, 253, 237, 238, 239, 240, 241, 242, 243, 244, 245, 246, 247] (by decide +kernel) (by decide +kernel)
set_option maxRecDepth 20000 in
theorem gX6_runScript_X6_commandSucceeds : GoodIn wsX6_runScript (wsV RX6 252 RX6 yX6_commandSucceeds wsX6_commandSucceeds) := goodIn_app (goodIn_of _ (by decide +kernel)) ggX6_runScript_X6_commandSucceeds
theorem dX6_runScript_0 : decode cX6_runScript 0 = .ok (.iload_n 1, 1) := by decide +kernel
theorem dX6_runScript_1 : decode cX6_runScript 1 = .ok (.iconst 1, 1) := by decide +kernel
theorem dX6_runScript_2 : decode cX6_runScript 2 = .ok (.if_icmp .lt 8, 3) := by decide +kernel
theorem dX6_runScript_5 : decode cX6_runScript 5 = .ok (.iload_n 1, 1) := by decide +kernel
theorem dX6_runScript_6 : decode cX6_runScript 6 = .ok (.iconst 3, 1) := by decide +kernel
theorem dX6_runScript_7 : decode cX6_runScript 7 = .ok (.if_icmp .le 13, 3) := by decide +kernel
theorem dX6_runScript_10 : decode cX6_runScript 10 = .ok (.new 49, 3) := by decide +kernel
theorem dX6_runScript_13 : decode cX6_runScript 13 = .ok (.dup, 1) := by decide +kernel
theorem dX6_runScript_14 : decode cX6_runScript 14 = .ok (.ldc 242, 2) := by decide +kernel
theorem dX6_runScript_16 : decode cX6_runScript 16 = .ok (.invokespecial 53, 3) := by decide +kernel
theorem dX6_runScript_19 : decode cX6_runScript 19 = .ok (.athrow, 1) := by decide +kernel
theorem dX6_runScript_20 : decode cX6_runScript 20 = .ok (.lload_n 2, 1) := by decide +kernel
theorem dX6_runScript_21 : decode cX6_runScript 21 = .ok (.lconst 0, 1) := by decide +kernel
theorem dX6_runScript_22 : decode cX6_runScript 22 = .ok (.lcmp, 1) := by decide +kernel
theorem dX6_runScript_23 : decode cX6_runScript 23 = .ok (.ifCond .lt 13, 3) := by decide +kernel
theorem dX6_runScript_26 : decode cX6_runScript 26 = .ok (.lload_n 2, 1) := by decide +kernel
theorem dX6_runScript_27 : decode cX6_runScript 27 = .ok (.iload_n 1, 1) := by decide +kernel
theorem dX6_runScript_28 : decode cX6_runScript 28 = .ok (.invokestatic 244, 3) := by decide +kernel
theorem dX6_runScript_31 : decode cX6_runScript 31 = .ok (.lconst 0, 1) := by decide +kernel
theorem dX6_runScript_32 : decode cX6_runScript 32 = .ok (.lcmp, 1) := by decide +kernel
theorem dX6_runScript_33 : decode cX6_runScript 33 = .ok (.ifCond .eq 13, 3) := by decide +kernel
theorem dX6_runScript_36 : decode cX6_runScript 36 = .ok (.new 49, 3) := by decide +kernel
theorem dX6_runScript_39 : decode cX6_runScript 39 = .ok (.dup, 1) := by decide +kernel
theorem dX6_runScript_40 : decode cX6_runScript 40 = .ok (.ldc 248, 2) := by decide +kernel
theorem dX6_runScript_42 : decode cX6_runScript 42 = .ok (.invokespecial 53, 3) := by decide +kernel
theorem dX6_runScript_45 : decode cX6_runScript 45 = .ok (.athrow, 1) := by decide +kernel
theorem dX6_runScript_46 : decode cX6_runScript 46 = .ok (.aload_n 0, 1) := by decide +kernel
theorem dX6_runScript_47 : decode cX6_runScript 47 = .ok (.getfield 16, 3) := by decide +kernel
theorem dX6_runScript_50 : decode cX6_runScript 50 = .ok (.aload_n 0, 1) := by decide +kernel
theorem dX6_runScript_51 : decode cX6_runScript 51 = .ok (.getfield 12, 3) := by decide +kernel
theorem dX6_runScript_54 : decode cX6_runScript 54 = .ok (.invokevirtual 159, 3) := by decide +kernel
theorem dX6_runScript_57 : decode cX6_runScript 57 = .ok (.iconst 0, 1) := by decide +kernel
theorem dX6_runScript_58 : decode cX6_runScript 58 = .ok (.istore 4, 2) := by decide +kernel
theorem dX6_runScript_60 : decode cX6_runScript 60 = .ok (.iload 4, 2) := by decide +kernel
theorem dX6_runScript_62 : decode cX6_runScript 62 = .ok (.iload_n 1, 1) := by decide +kernel
theorem dX6_runScript_63 : decode cX6_runScript 63 = .ok (.if_icmp .ge 34, 3) := by decide +kernel
theorem dX6_runScript_66 : decode cX6_runScript 66 = .ok (.aload_n 0, 1) := by decide +kernel
theorem dX6_runScript_67 : decode cX6_runScript 67 = .ok (.lload_n 2, 1) := by decide +kernel
theorem dX6_runScript_68 : decode cX6_runScript 68 = .ok (.iload_n 1, 1) := by decide +kernel
theorem dX6_runScript_69 : decode cX6_runScript 69 = .ok (.iconst 1, 1) := by decide +kernel
theorem dX6_runScript_70 : decode cX6_runScript 70 = .ok (.isub, 1) := by decide +kernel
theorem dX6_runScript_71 : decode cX6_runScript 71 = .ok (.iload 4, 2) := by decide +kernel
theorem dX6_runScript_73 : decode cX6_runScript 73 = .ok (.isub, 1) := by decide +kernel
theorem dX6_runScript_74 : decode cX6_runScript 74 = .ok (.invokestatic 244, 3) := by decide +kernel
theorem dX6_runScript_77 : decode cX6_runScript 77 = .ok (.ldc2_w 250, 3) := by decide +kernel
theorem dX6_runScript_80 : decode cX6_runScript 80 = .ok (.lrem, 1) := by decide +kernel
theorem dX6_runScript_81 : decode cX6_runScript 81 = .ok (.l2i, 1) := by decide +kernel
theorem dX6_runScript_82 : decode cX6_runScript 82 = .ok (.invokevirtual 252, 3) := by decide +kernel
theorem dX6_runScript_85 : decode cX6_runScript 85 = .ok (.ifCond .ne 6, 3) := by decide +kernel
theorem dX6_runScript_88 : decode cX6_runScript 88 = .ok (.iload 4, 2) := by decide +kernel
theorem dX6_runScript_90 : decode cX6_runScript 90 = .ok (.ireturn, 1) := by decide +kernel
theorem dX6_runScript_91 : decode cX6_runScript 91 = .ok (.iinc 4 1, 3) := by decide +kernel
theorem dX6_runScript_94 : decode cX6_runScript 94 = .ok (.goto (-34), 3) := by decide +kernel
theorem dX6_runScript_97 : decode cX6_runScript 97 = .ok (.iconst (-1), 1) := by decide +kernel
theorem dX6_runScript_98 : decode cX6_runScript 98 = .ok (.ireturn, 1) := by decide +kernel
set_option maxRecDepth 20000 in
theorem ggX6_simulate_X4_copyFrom : GoodIn wsX6_simulate wsX4_copyFrom := goodIn_r _ [12, 13, 14, 15, 16, 17, 18, 19, 20, 21, 22, 23, 24, 25, 26, 27, 28, 29, 30, 31, 32, 33, 34, 35, 36, 37, 38, 39, 208, 209, 210, 211, 212, 213, 214, 215, 216, 217, 218] (by decide +kernel) (by decide +kernel)
set_option maxRecDepth 20000 in
theorem gX6_simulate_X4_copyFrom : GoodIn wsX6_simulate (wsV RX6 159 RX4 yX4_copyFrom wsX4_copyFrom) := goodIn_app (goodIn_of _ (by decide +kernel)) ggX6_simulate_X4_copyFrom
set_option maxRecDepth 20000 in
theorem ggX6_simulate_X4_outcomesOf : GoodIn wsX6_simulate wsX4_outcomesOf := goodIn_r _ [43, 44, 45, 46, 11, 47, 16, 48, 30, 49, 208, 209, 210, 211, 212, 213] (by decide +kernel) (by decide +kernel)
set_option maxRecDepth 20000 in
theorem gX6_simulate_X4_outcomesOf : GoodIn wsX6_simulate (wsV RX6 95 RX4 yX4_outcomesOf wsX4_outcomesOf) := goodIn_app (goodIn_of _ (by decide +kernel)) ggX6_simulate_X4_outcomesOf
set_option maxRecDepth 20000 in
theorem ggX6_simulate_X6_takeTurn : GoodIn wsX6_simulate wsX6_takeTurn := goodIn_r _ [53, 3, 54, 55, 56, 57, 11, 58, 13, 17, 14, 59, 60, 61, 22, 62, 24, 48, 30, 49, 63, 64, 65, 66, 67, 68, 69, 70, 71, 72, 73, 74, 75, 76, 77, 78, 27, 79, 80, 81, 82, 28, 83, 84, 85, 86, 25, 26, 87, 88, 36, 37, 38, 39, 89, 90, 91, 92, 93, 94, 18, 95, 96, 97, 98, 99, 100, 101, 102, 103, 104, 105, 106, 107, 108, 109, 110, 111, 112, 113, 114, 115, 116, 117, 118, 119, 120, 121, 122, 123, 124, 125, 33, 34, 35, 126, 127, 128, 129, 130, 131, 132, 133, 134, 135, 136, 137, 138, 139, 140, 15, 141, 142, 143, 144, 145, 146, 147, 148, 149, 16, 44, 45, 46, 47, 150, 151, 152, 153, 154, 155, 156, 157, 158, 159, 160, 161, 162, 163, 164, 165, 166, 167, 168, 169, 170, 171, 172, 173, 174, 175, 176, 177, 178, 179, 180, 181, 182, 183, 184, 185, 186, 187, 188, 189, 190, 191, 192, 193, 194, 195, 196, 197, 198, 199, 200, 201, 202, 203, 204, 205, 206, 207, 208, 209, 210, 211, 212, 213, 214, 215, 216, 217, 218, 219, 220, 221, 222, 223, 224] (by decide +kernel) (by decide +kernel)
set_option maxRecDepth 20000 in
theorem gX6_simulate_X6_takeTurn : GoodIn wsX6_simulate (wsV RX6 261 RX6 yX6_takeTurn wsX6_takeTurn) := goodIn_app (goodIn_of _ (by decide +kernel)) ggX6_simulate_X6_takeTurn
theorem dX6_simulate_0 : decode cX6_simulate 0 = .ok (.iload_n 3, 1) := by decide +kernel
theorem dX6_simulate_1 : decode cX6_simulate 1 = .ok (.iconst 1, 1) := by decide +kernel
theorem dX6_simulate_2 : decode cX6_simulate 2 = .ok (.if_icmp .lt 9, 3) := by decide +kernel
theorem dX6_simulate_5 : decode cX6_simulate 5 = .ok (.iload_n 3, 1) := by decide +kernel
theorem dX6_simulate_6 : decode cX6_simulate 6 = .ok (.bipush 99, 2) := by decide +kernel
theorem dX6_simulate_8 : decode cX6_simulate 8 = .ok (.if_icmp .le 13, 3) := by decide +kernel
theorem dX6_simulate_11 : decode cX6_simulate 11 = .ok (.new 49, 3) := by decide +kernel
theorem dX6_simulate_14 : decode cX6_simulate 14 = .ok (.dup, 1) := by decide +kernel
theorem dX6_simulate_15 : decode cX6_simulate 15 = .ok (.ldc 255, 2) := by decide +kernel
theorem dX6_simulate_17 : decode cX6_simulate 17 = .ok (.invokespecial 53, 3) := by decide +kernel
theorem dX6_simulate_20 : decode cX6_simulate 20 = .ok (.athrow, 1) := by decide +kernel
theorem dX6_simulate_21 : decode cX6_simulate 21 = .ok (.aload_n 0, 1) := by decide +kernel
theorem dX6_simulate_22 : decode cX6_simulate 22 = .ok (.getfield 16, 3) := by decide +kernel
theorem dX6_simulate_25 : decode cX6_simulate 25 = .ok (.aload_n 0, 1) := by decide +kernel
theorem dX6_simulate_26 : decode cX6_simulate 26 = .ok (.getfield 12, 3) := by decide +kernel
theorem dX6_simulate_29 : decode cX6_simulate 29 = .ok (.invokevirtual 159, 3) := by decide +kernel
theorem dX6_simulate_32 : decode cX6_simulate 32 = .ok (.aload_n 0, 1) := by decide +kernel
theorem dX6_simulate_33 : decode cX6_simulate 33 = .ok (.getfield 16, 3) := by decide +kernel
theorem dX6_simulate_36 : decode cX6_simulate 36 = .ok (.iconst 0, 1) := by decide +kernel
theorem dX6_simulate_37 : decode cX6_simulate 37 = .ok (.invokevirtual 95, 3) := by decide +kernel
theorem dX6_simulate_40 : decode cX6_simulate 40 = .ok (.istore 4, 2) := by decide +kernel
theorem dX6_simulate_42 : decode cX6_simulate 42 = .ok (.lload_n 1, 1) := by decide +kernel
theorem dX6_simulate_43 : decode cX6_simulate 43 = .ok (.lstore 5, 2) := by decide +kernel
theorem dX6_simulate_45 : decode cX6_simulate 45 = .ok (.iconst 0, 1) := by decide +kernel
theorem dX6_simulate_46 : decode cX6_simulate 46 = .ok (.istore 7, 2) := by decide +kernel
theorem dX6_simulate_48 : decode cX6_simulate 48 = .ok (.iload 7, 2) := by decide +kernel
theorem dX6_simulate_50 : decode cX6_simulate 50 = .ok (.iload_n 3, 1) := by decide +kernel
theorem dX6_simulate_51 : decode cX6_simulate 51 = .ok (.if_icmp .ge 31, 3) := by decide +kernel
theorem dX6_simulate_54 : decode cX6_simulate 54 = .ok (.lload 5, 2) := by decide +kernel
theorem dX6_simulate_56 : decode cX6_simulate 56 = .ok (.ldc2_w 257, 3) := by decide +kernel
theorem dX6_simulate_59 : decode cX6_simulate 59 = .ok (.lmul, 1) := by decide +kernel
theorem dX6_simulate_60 : decode cX6_simulate 60 = .ok (.ldc2_w 259, 3) := by decide +kernel
theorem dX6_simulate_63 : decode cX6_simulate 63 = .ok (.ladd, 1) := by decide +kernel
theorem dX6_simulate_64 : decode cX6_simulate 64 = .ok (.lstore 5, 2) := by decide +kernel
theorem dX6_simulate_66 : decode cX6_simulate 66 = .ok (.aload_n 0, 1) := by decide +kernel
theorem dX6_simulate_67 : decode cX6_simulate 67 = .ok (.lload 5, 2) := by decide +kernel
theorem dX6_simulate_69 : decode cX6_simulate 69 = .ok (.bipush 33, 2) := by decide +kernel
theorem dX6_simulate_71 : decode cX6_simulate 71 = .ok (.lushr, 1) := by decide +kernel
theorem dX6_simulate_72 : decode cX6_simulate 72 = .ok (.l2i, 1) := by decide +kernel
theorem dX6_simulate_73 : decode cX6_simulate 73 = .ok (.invokevirtual 261, 3) := by decide +kernel
theorem dX6_simulate_76 : decode cX6_simulate 76 = .ok (.iinc 7 1, 3) := by decide +kernel
theorem dX6_simulate_79 : decode cX6_simulate 79 = .ok (.goto (-31), 3) := by decide +kernel
theorem dX6_simulate_82 : decode cX6_simulate 82 = .ok (.bipush 100, 2) := by decide +kernel
theorem dX6_simulate_84 : decode cX6_simulate 84 = .ok (.aload_n 0, 1) := by decide +kernel
theorem dX6_simulate_85 : decode cX6_simulate 85 = .ok (.getfield 16, 3) := by decide +kernel
theorem dX6_simulate_88 : decode cX6_simulate 88 = .ok (.getfield 92, 3) := by decide +kernel
theorem dX6_simulate_91 : decode cX6_simulate 91 = .ok (.imul, 1) := by decide +kernel
theorem dX6_simulate_92 : decode cX6_simulate 92 = .ok (.aload_n 0, 1) := by decide +kernel
theorem dX6_simulate_93 : decode cX6_simulate 93 = .ok (.getfield 16, 3) := by decide +kernel
theorem dX6_simulate_96 : decode cX6_simulate 96 = .ok (.iconst 0, 1) := by decide +kernel
theorem dX6_simulate_97 : decode cX6_simulate 97 = .ok (.invokevirtual 95, 3) := by decide +kernel
theorem dX6_simulate_100 : decode cX6_simulate 100 = .ok (.iadd, 1) := by decide +kernel
theorem dX6_simulate_101 : decode cX6_simulate 101 = .ok (.iload 4, 2) := by decide +kernel
theorem dX6_simulate_103 : decode cX6_simulate 103 = .ok (.isub, 1) := by decide +kernel
theorem dX6_simulate_104 : decode cX6_simulate 104 = .ok (.ireturn, 1) := by decide +kernel
set_option maxRecDepth 20000 in
theorem ggX6_save_X3_keepCopy : GoodIn wsX6_save wsX3_keepCopy := goodIn_r _ [10, 11, 12, 13, 14, 15, 16, 17, 18, 19, 20, 21, 22, 23, 24, 25, 26, 27, 28, 29, 30, 31, 32, 33, 34, 35, 36, 37, 38, 39, 40, 41, 42, 43, 44, 45, 46, 47, 48, 49, 50, 51, 52, 53, 54, 55, 56, 69, 63, 64, 65, 66, 67, 68, 70, 71, 72, 73, 74] (by decide +kernel) (by decide +kernel)
set_option maxRecDepth 20000 in
theorem gX6_save_X3_keepCopy : GoodIn wsX6_save (wsV RX6 266 RX3 yX3_keepCopy wsX3_keepCopy) := goodIn_app (goodIn_of _ (by decide +kernel)) ggX6_save_X3_keepCopy
theorem dX6_save_0 : decode cX6_save 0 = .ok (.iload_n 1, 1) := by decide +kernel
theorem dX6_save_1 : decode cX6_save 1 = .ok (.ifCond .lt 8, 3) := by decide +kernel
theorem dX6_save_4 : decode cX6_save 4 = .ok (.iload_n 1, 1) := by decide +kernel
theorem dX6_save_5 : decode cX6_save 5 = .ok (.iconst 2, 1) := by decide +kernel
theorem dX6_save_6 : decode cX6_save 6 = .ok (.if_icmp .lt 14, 3) := by decide +kernel
theorem dX6_save_9 : decode cX6_save 9 = .ok (.new 110, 3) := by decide +kernel
theorem dX6_save_12 : decode cX6_save 12 = .ok (.dup, 1) := by decide +kernel
theorem dX6_save_13 : decode cX6_save 13 = .ok (.ldc_w 264, 3) := by decide +kernel
theorem dX6_save_16 : decode cX6_save 16 = .ok (.invokespecial 114, 3) := by decide +kernel
theorem dX6_save_19 : decode cX6_save 19 = .ok (.athrow, 1) := by decide +kernel
theorem dX6_save_20 : decode cX6_save 20 = .ok (.aload_n 0, 1) := by decide +kernel
theorem dX6_save_21 : decode cX6_save 21 = .ok (.getfield 45, 3) := by decide +kernel
theorem dX6_save_24 : decode cX6_save 24 = .ok (.iload_n 1, 1) := by decide +kernel
theorem dX6_save_25 : decode cX6_save 25 = .ok (.aload_n 0, 1) := by decide +kernel
theorem dX6_save_26 : decode cX6_save 26 = .ok (.getfield 12, 3) := by decide +kernel
theorem dX6_save_29 : decode cX6_save 29 = .ok (.invokevirtual 266, 3) := by decide +kernel
theorem dX6_save_32 : decode cX6_save 32 = .ok (.aload_n 0, 1) := by decide +kernel
theorem dX6_save_33 : decode cX6_save 33 = .ok (.getfield 12, 3) := by decide +kernel
theorem dX6_save_36 : decode cX6_save 36 = .ok (.getfield 92, 3) := by decide +kernel
theorem dX6_save_39 : decode cX6_save 39 = .ok (.ireturn, 1) := by decide +kernel
set_option maxRecDepth 20000 in
theorem ggX6_restore_X3_copyAt : GoodIn wsX6_restore wsX3_copyAt := goodIn_r _ [13, 14, 65] (by decide +kernel) (by decide +kernel)
set_option maxRecDepth 20000 in
theorem gX6_restore_X3_copyAt : GoodIn wsX6_restore (wsV RX6 270 RX3 yX3_copyAt wsX3_copyAt) := goodIn_app (goodIn_of _ (by decide +kernel)) ggX6_restore_X3_copyAt
set_option maxRecDepth 20000 in
theorem ggX6_restore_X4_copyFrom : GoodIn wsX6_restore wsX4_copyFrom := goodIn_r _ [19, 20, 21, 22, 23, 24, 25, 26, 27, 28, 29, 30, 31, 32, 33, 34, 35, 36, 37, 38, 39, 40, 41, 42, 43, 44, 45, 46, 59, 60, 61, 62, 63, 64, 66, 67, 68, 69, 70] (by decide +kernel) (by decide +kernel)
set_option maxRecDepth 20000 in
theorem gX6_restore_X4_copyFrom : GoodIn wsX6_restore (wsV RX6 159 RX4 yX4_copyFrom wsX4_copyFrom) := goodIn_app (goodIn_of _ (by decide +kernel)) ggX6_restore_X4_copyFrom
set_option maxRecDepth 20000 in
theorem ggX6_restore_X1_forgetAll : GoodIn wsX6_restore wsX1_forgetAll := goodIn_r _ [51, 52, 71, 72, 73] (by decide +kernel) (by decide +kernel)
set_option maxRecDepth 20000 in
theorem gX6_restore_X1_forgetAll : GoodIn wsX6_restore (wsV RX6 276 RX1 yX1_forgetAll wsX1_forgetAll) := goodIn_app (goodIn_of _ (by decide +kernel)) ggX6_restore_X1_forgetAll
theorem dX6_restore_0 : decode cX6_restore 0 = .ok (.iload_n 1, 1) := by decide +kernel
theorem dX6_restore_1 : decode cX6_restore 1 = .ok (.ifCond .lt 8, 3) := by decide +kernel
theorem dX6_restore_4 : decode cX6_restore 4 = .ok (.iload_n 1, 1) := by decide +kernel
theorem dX6_restore_5 : decode cX6_restore 5 = .ok (.iconst 2, 1) := by decide +kernel
theorem dX6_restore_6 : decode cX6_restore 6 = .ok (.if_icmp .lt 14, 3) := by decide +kernel
theorem dX6_restore_9 : decode cX6_restore 9 = .ok (.new 110, 3) := by decide +kernel
theorem dX6_restore_12 : decode cX6_restore 12 = .ok (.dup, 1) := by decide +kernel
theorem dX6_restore_13 : decode cX6_restore 13 = .ok (.ldc_w 264, 3) := by decide +kernel
theorem dX6_restore_16 : decode cX6_restore 16 = .ok (.invokespecial 114, 3) := by decide +kernel
theorem dX6_restore_19 : decode cX6_restore 19 = .ok (.athrow, 1) := by decide +kernel
theorem dX6_restore_20 : decode cX6_restore 20 = .ok (.aload_n 0, 1) := by decide +kernel
theorem dX6_restore_21 : decode cX6_restore 21 = .ok (.getfield 45, 3) := by decide +kernel
theorem dX6_restore_24 : decode cX6_restore 24 = .ok (.iload_n 1, 1) := by decide +kernel
theorem dX6_restore_25 : decode cX6_restore 25 = .ok (.invokevirtual 270, 3) := by decide +kernel
theorem dX6_restore_28 : decode cX6_restore 28 = .ok (.astore_n 2, 1) := by decide +kernel
theorem dX6_restore_29 : decode cX6_restore 29 = .ok (.aload_n 2, 1) := by decide +kernel
theorem dX6_restore_30 : decode cX6_restore 30 = .ok (.ifnonnull 14, 3) := by decide +kernel
theorem dX6_restore_33 : decode cX6_restore 33 = .ok (.new 60, 3) := by decide +kernel
theorem dX6_restore_36 : decode cX6_restore 36 = .ok (.dup, 1) := by decide +kernel
theorem dX6_restore_37 : decode cX6_restore 37 = .ok (.ldc_w 274, 3) := by decide +kernel
theorem dX6_restore_40 : decode cX6_restore 40 = .ok (.invokespecial 64, 3) := by decide +kernel
theorem dX6_restore_43 : decode cX6_restore 43 = .ok (.athrow, 1) := by decide +kernel
theorem dX6_restore_44 : decode cX6_restore 44 = .ok (.aload_n 0, 1) := by decide +kernel
theorem dX6_restore_45 : decode cX6_restore 45 = .ok (.getfield 12, 3) := by decide +kernel
theorem dX6_restore_48 : decode cX6_restore 48 = .ok (.aload_n 2, 1) := by decide +kernel
theorem dX6_restore_49 : decode cX6_restore 49 = .ok (.invokevirtual 159, 3) := by decide +kernel
theorem dX6_restore_52 : decode cX6_restore 52 = .ok (.aload_n 0, 1) := by decide +kernel
theorem dX6_restore_53 : decode cX6_restore 53 = .ok (.getfield 36, 3) := by decide +kernel
theorem dX6_restore_56 : decode cX6_restore 56 = .ok (.invokevirtual 276, 3) := by decide +kernel
theorem dX6_restore_59 : decode cX6_restore 59 = .ok (.aload_n 0, 1) := by decide +kernel
theorem dX6_restore_60 : decode cX6_restore 60 = .ok (.getfield 12, 3) := by decide +kernel
theorem dX6_restore_63 : decode cX6_restore 63 = .ok (.getfield 92, 3) := by decide +kernel
theorem dX6_restore_66 : decode cX6_restore 66 = .ok (.ireturn, 1) := by decide +kernel
theorem dX6_isOnGrid_0 : decode cX6_isOnGrid 0 = .ok (.iload_n 0, 1) := by decide +kernel
theorem dX6_isOnGrid_1 : decode cX6_isOnGrid 1 = .ok (.ifCond .lt 13, 3) := by decide +kernel
theorem dX6_isOnGrid_4 : decode cX6_isOnGrid 4 = .ok (.iload_n 0, 1) := by decide +kernel
theorem dX6_isOnGrid_5 : decode cX6_isOnGrid 5 = .ok (.bipush 60, 2) := by decide +kernel
theorem dX6_isOnGrid_7 : decode cX6_isOnGrid 7 = .ok (.if_icmp .gt 7, 3) := by decide +kernel
theorem dX6_isOnGrid_10 : decode cX6_isOnGrid 10 = .ok (.iconst 1, 1) := by decide +kernel
theorem dX6_isOnGrid_11 : decode cX6_isOnGrid 11 = .ok (.goto 4, 3) := by decide +kernel
theorem dX6_isOnGrid_14 : decode cX6_isOnGrid 14 = .ok (.iconst 0, 1) := by decide +kernel
theorem dX6_isOnGrid_15 : decode cX6_isOnGrid 15 = .ok (.ireturn, 1) := by decide +kernel
theorem dX6_isName_0 : decode cX6_isName 0 = .ok (.iload_n 0, 1) := by decide +kernel
theorem dX6_isName_1 : decode cX6_isName 1 = .ok (.ifCond .lt 13, 3) := by decide +kernel
theorem dX6_isName_4 : decode cX6_isName 4 = .ok (.iload_n 0, 1) := by decide +kernel
theorem dX6_isName_5 : decode cX6_isName 5 = .ok (.bipush 10, 2) := by decide +kernel
theorem dX6_isName_7 : decode cX6_isName 7 = .ok (.if_icmp .ge 7, 3) := by decide +kernel
theorem dX6_isName_10 : decode cX6_isName 10 = .ok (.iconst 1, 1) := by decide +kernel
theorem dX6_isName_11 : decode cX6_isName 11 = .ok (.goto 4, 3) := by decide +kernel
theorem dX6_isName_14 : decode cX6_isName 14 = .ok (.iconst 0, 1) := by decide +kernel
theorem dX6_isName_15 : decode cX6_isName 15 = .ok (.ireturn, 1) := by decide +kernel
theorem dX6_isSetting_0 : decode cX6_isSetting 0 = .ok (.iload_n 0, 1) := by decide +kernel
theorem dX6_isSetting_1 : decode cX6_isSetting 1 = .ok (.tableswitch 77 0 2 #[27, 44, 60], 27) := by decide +kernel
theorem dX6_isSetting_28 : decode cX6_isSetting 28 = .ok (.iload_n 1, 1) := by decide +kernel
theorem dX6_isSetting_29 : decode cX6_isSetting 29 = .ok (.iconst 5, 1) := by decide +kernel
theorem dX6_isSetting_30 : decode cX6_isSetting 30 = .ok (.if_icmp .lt 13, 3) := by decide +kernel
theorem dX6_isSetting_33 : decode cX6_isSetting 33 = .ok (.iload_n 1, 1) := by decide +kernel
theorem dX6_isSetting_34 : decode cX6_isSetting 34 = .ok (.bipush 20, 2) := by decide +kernel
theorem dX6_isSetting_36 : decode cX6_isSetting 36 = .ok (.if_icmp .gt 7, 3) := by decide +kernel
theorem dX6_isSetting_39 : decode cX6_isSetting 39 = .ok (.iconst 1, 1) := by decide +kernel
theorem dX6_isSetting_40 : decode cX6_isSetting 40 = .ok (.goto 4, 3) := by decide +kernel
theorem dX6_isSetting_43 : decode cX6_isSetting 43 = .ok (.iconst 0, 1) := by decide +kernel
theorem dX6_isSetting_44 : decode cX6_isSetting 44 = .ok (.ireturn, 1) := by decide +kernel
theorem dX6_isSetting_45 : decode cX6_isSetting 45 = .ok (.iload_n 1, 1) := by decide +kernel
theorem dX6_isSetting_46 : decode cX6_isSetting 46 = .ok (.ifCond .lt 13, 3) := by decide +kernel
theorem dX6_isSetting_49 : decode cX6_isSetting 49 = .ok (.iload_n 1, 1) := by decide +kernel
theorem dX6_isSetting_50 : decode cX6_isSetting 50 = .ok (.bipush 99, 2) := by decide +kernel
theorem dX6_isSetting_52 : decode cX6_isSetting 52 = .ok (.if_icmp .gt 7, 3) := by decide +kernel
theorem dX6_isSetting_55 : decode cX6_isSetting 55 = .ok (.iconst 1, 1) := by decide +kernel
theorem dX6_isSetting_56 : decode cX6_isSetting 56 = .ok (.goto 4, 3) := by decide +kernel
