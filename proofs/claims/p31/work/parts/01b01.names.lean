set_option maxRecDepth 20000 in
theorem gX2_rankedSample_X2_samplesBefore : GoodIn wsX2_rankedSample (wsV RX2 63 RX2 yX2_samplesBefore wsX2_samplesBefore) := goodIn_app (goodIn_of _ (by decide +kernel)) ggX2_rankedSample_X2_samplesBefore
set_option maxRecDepth 20000 in
theorem ggX2_rankedSample_X6_cell : GoodIn wsX2_rankedSample wsX6_cell := goodIn_r _ [22] (by decide +kernel) (by decide +kernel)
set_option maxRecDepth 20000 in
theorem gX2_rankedSample_X6_cell_n59 : GoodIn wsX2_rankedSample (wsX6_cell) := ggX2_rankedSample_X6_cell
theorem dX2_rankedSample_0 : decode cX2_rankedSample 0 = .ok (.iconst 0, 1) := by decide +kernel
theorem dX2_rankedSample_1 : decode cX2_rankedSample 1 = .ok (.istore_n 3, 1) := by decide +kernel
theorem dX2_rankedSample_2 : decode cX2_rankedSample 2 = .ok (.iload_n 3, 1) := by decide +kernel
theorem dX2_rankedSample_3 : decode cX2_rankedSample 3 = .ok (.aload_n 1, 1) := by decide +kernel
theorem dX2_rankedSample_4 : decode cX2_rankedSample 4 = .ok (.getfield 28, 3) := by decide +kernel
theorem dX2_rankedSample_7 : decode cX2_rankedSample 7 = .ok (.if_icmp .ge 28, 3) := by decide +kernel
theorem dX2_rankedSample_10 : decode cX2_rankedSample 10 = .ok (.aload_n 0, 1) := by decide +kernel
theorem dX2_rankedSample_11 : decode cX2_rankedSample 11 = .ok (.getfield 15, 3) := by decide +kernel
theorem dX2_rankedSample_14 : decode cX2_rankedSample 14 = .ok (.iload_n 3, 1) := by decide +kernel
theorem dX2_rankedSample_15 : decode cX2_rankedSample 15 = .ok (.aload_n 0, 1) := by decide +kernel
theorem dX2_rankedSample_16 : decode cX2_rankedSample 16 = .ok (.aload_n 1, 1) := by decide +kernel
theorem dX2_rankedSample_17 : decode cX2_rankedSample 17 = .ok (.getfield 33, 3) := by decide +kernel
theorem dX2_rankedSample_20 : decode cX2_rankedSample 20 = .ok (.bipush 16, 2) := by decide +kernel
theorem dX2_rankedSample_22 : decode cX2_rankedSample 22 = .ok (.iload_n 3, 1) := by decide +kernel
theorem dX2_rankedSample_23 : decode cX2_rankedSample 23 = .ok (.invokevirtual 37, 3) := by decide +kernel
theorem dX2_rankedSample_26 : decode cX2_rankedSample 26 = .ok (.invokestatic 41, 3) := by decide +kernel
theorem dX2_rankedSample_29 : decode cX2_rankedSample 29 = .ok (.iinc 3 1, 3) := by decide +kernel
theorem dX2_rankedSample_32 : decode cX2_rankedSample 32 = .ok (.goto (-30), 3) := by decide +kernel
theorem dX2_rankedSample_35 : decode cX2_rankedSample 35 = .ok (.iconst 0, 1) := by decide +kernel
theorem dX2_rankedSample_36 : decode cX2_rankedSample 36 = .ok (.istore_n 3, 1) := by decide +kernel
theorem dX2_rankedSample_37 : decode cX2_rankedSample 37 = .ok (.iload_n 3, 1) := by decide +kernel
theorem dX2_rankedSample_38 : decode cX2_rankedSample 38 = .ok (.aload_n 1, 1) := by decide +kernel
theorem dX2_rankedSample_39 : decode cX2_rankedSample 39 = .ok (.getfield 28, 3) := by decide +kernel
theorem dX2_rankedSample_42 : decode cX2_rankedSample 42 = .ok (.if_icmp .ge 34, 3) := by decide +kernel
theorem dX2_rankedSample_45 : decode cX2_rankedSample 45 = .ok (.aload_n 0, 1) := by decide +kernel
theorem dX2_rankedSample_46 : decode cX2_rankedSample 46 = .ok (.aload_n 1, 1) := by decide +kernel
theorem dX2_rankedSample_47 : decode cX2_rankedSample 47 = .ok (.iload_n 3, 1) := by decide +kernel
theorem dX2_rankedSample_48 : decode cX2_rankedSample 48 = .ok (.invokevirtual 63, 3) := by decide +kernel
theorem dX2_rankedSample_51 : decode cX2_rankedSample 51 = .ok (.iload_n 2, 1) := by decide +kernel
theorem dX2_rankedSample_52 : decode cX2_rankedSample 52 = .ok (.if_icmp .ne 18, 3) := by decide +kernel
theorem dX2_rankedSample_55 : decode cX2_rankedSample 55 = .ok (.sipush 1000, 3) := by decide +kernel
theorem dX2_rankedSample_58 : decode cX2_rankedSample 58 = .ok (.iload_n 3, 1) := by decide +kernel
theorem dX2_rankedSample_59 : decode cX2_rankedSample 59 = .ok (.imul, 1) := by decide +kernel
theorem dX2_rankedSample_60 : decode cX2_rankedSample 60 = .ok (.aload_n 0, 1) := by decide +kernel
theorem dX2_rankedSample_61 : decode cX2_rankedSample 61 = .ok (.getfield 15, 3) := by decide +kernel
theorem dX2_rankedSample_64 : decode cX2_rankedSample 64 = .ok (.iload_n 3, 1) := by decide +kernel
theorem dX2_rankedSample_65 : decode cX2_rankedSample 65 = .ok (.invokestatic 59, 3) := by decide +kernel
theorem dX2_rankedSample_68 : decode cX2_rankedSample 68 = .ok (.iadd, 1) := by decide +kernel
theorem dX2_rankedSample_69 : decode cX2_rankedSample 69 = .ok (.ireturn, 1) := by decide +kernel
theorem dX2_rankedSample_70 : decode cX2_rankedSample 70 = .ok (.iinc 3 1, 3) := by decide +kernel
theorem dX2_rankedSample_73 : decode cX2_rankedSample 73 = .ok (.goto (-36), 3) := by decide +kernel
theorem dX2_rankedSample_76 : decode cX2_rankedSample 76 = .ok (.iconst (-1), 1) := by decide +kernel
theorem dX2_rankedSample_77 : decode cX2_rankedSample 77 = .ok (.ireturn, 1) := by decide +kernel
set_option maxRecDepth 20000 in
theorem ggX2_samplesBefore_X6_cell : GoodIn wsX2_samplesBefore wsX6_cell := goodIn_r _ [5] (by decide +kernel) (by decide +kernel)
set_option maxRecDepth 20000 in
theorem gX2_samplesBefore_X6_cell_n59 : GoodIn wsX2_samplesBefore (wsX6_cell) := ggX2_samplesBefore_X6_cell
theorem dX2_samplesBefore_0 : decode cX2_samplesBefore 0 = .ok (.aload_n 0, 1) := by decide +kernel
theorem dX2_samplesBefore_1 : decode cX2_samplesBefore 1 = .ok (.getfield 15, 3) := by decide +kernel
theorem dX2_samplesBefore_4 : decode cX2_samplesBefore 4 = .ok (.iload_n 2, 1) := by decide +kernel
theorem dX2_samplesBefore_5 : decode cX2_samplesBefore 5 = .ok (.invokestatic 59, 3) := by decide +kernel
theorem dX2_samplesBefore_8 : decode cX2_samplesBefore 8 = .ok (.istore_n 3, 1) := by decide +kernel
theorem dX2_samplesBefore_9 : decode cX2_samplesBefore 9 = .ok (.iconst 0, 1) := by decide +kernel
theorem dX2_samplesBefore_10 : decode cX2_samplesBefore 10 = .ok (.istore 4, 2) := by decide +kernel
theorem dX2_samplesBefore_12 : decode cX2_samplesBefore 12 = .ok (.iconst 0, 1) := by decide +kernel
theorem dX2_samplesBefore_13 : decode cX2_samplesBefore 13 = .ok (.istore 5, 2) := by decide +kernel
theorem dX2_samplesBefore_15 : decode cX2_samplesBefore 15 = .ok (.iload 5, 2) := by decide +kernel
theorem dX2_samplesBefore_17 : decode cX2_samplesBefore 17 = .ok (.aload_n 1, 1) := by decide +kernel
theorem dX2_samplesBefore_18 : decode cX2_samplesBefore 18 = .ok (.getfield 28, 3) := by decide +kernel
theorem dX2_samplesBefore_21 : decode cX2_samplesBefore 21 = .ok (.if_icmp .ge 41, 3) := by decide +kernel
theorem dX2_samplesBefore_24 : decode cX2_samplesBefore 24 = .ok (.aload_n 0, 1) := by decide +kernel
theorem dX2_samplesBefore_25 : decode cX2_samplesBefore 25 = .ok (.getfield 15, 3) := by decide +kernel
theorem dX2_samplesBefore_28 : decode cX2_samplesBefore 28 = .ok (.iload 5, 2) := by decide +kernel
theorem dX2_samplesBefore_30 : decode cX2_samplesBefore 30 = .ok (.invokestatic 59, 3) := by decide +kernel
theorem dX2_samplesBefore_33 : decode cX2_samplesBefore 33 = .ok (.istore 6, 2) := by decide +kernel
theorem dX2_samplesBefore_35 : decode cX2_samplesBefore 35 = .ok (.iload 6, 2) := by decide +kernel
theorem dX2_samplesBefore_37 : decode cX2_samplesBefore 37 = .ok (.iload_n 3, 1) := by decide +kernel
theorem dX2_samplesBefore_38 : decode cX2_samplesBefore 38 = .ok (.if_icmp .lt 15, 3) := by decide +kernel
theorem dX2_samplesBefore_41 : decode cX2_samplesBefore 41 = .ok (.iload 6, 2) := by decide +kernel
theorem dX2_samplesBefore_43 : decode cX2_samplesBefore 43 = .ok (.iload_n 3, 1) := by decide +kernel
theorem dX2_samplesBefore_44 : decode cX2_samplesBefore 44 = .ok (.if_icmp .ne 12, 3) := by decide +kernel
theorem dX2_samplesBefore_47 : decode cX2_samplesBefore 47 = .ok (.iload 5, 2) := by decide +kernel
theorem dX2_samplesBefore_49 : decode cX2_samplesBefore 49 = .ok (.iload_n 2, 1) := by decide +kernel
theorem dX2_samplesBefore_50 : decode cX2_samplesBefore 50 = .ok (.if_icmp .ge 6, 3) := by decide +kernel
theorem dX2_samplesBefore_53 : decode cX2_samplesBefore 53 = .ok (.iinc 4 1, 3) := by decide +kernel
theorem dX2_samplesBefore_56 : decode cX2_samplesBefore 56 = .ok (.iinc 5 1, 3) := by decide +kernel
theorem dX2_samplesBefore_59 : decode cX2_samplesBefore 59 = .ok (.goto (-44), 3) := by decide +kernel
theorem dX2_samplesBefore_62 : decode cX2_samplesBefore 62 = .ok (.iload 4, 2) := by decide +kernel
theorem dX2_samplesBefore_64 : decode cX2_samplesBefore 64 = .ok (.ireturn, 1) := by decide +kernel
set_option maxRecDepth 20000 in
theorem ggX2_closestPair_X4_nameOf : GoodIn wsX2_closestPair wsX4_nameOf := goodIn_r _ [7, 8, 9, 10, 11, 44, 45, 46, 47, 48, 49] (by decide +kernel) (by decide +kernel)
set_option maxRecDepth 20000 in
theorem gX2_closestPair_X4_nameOf : GoodIn wsX2_closestPair (wsV RX2 56 RX4 yX4_nameOf wsX4_nameOf) := goodIn_app (goodIn_of _ (by decide +kernel)) ggX2_closestPair_X4_nameOf
set_option maxRecDepth 20000 in
theorem ggX2_closestPair_X2_distanceOf_p0 : GoodIn wsX2_closestPair [.code yX2_distanceOf cX2_distanceOf 13 (some .int)] := goodIn_r _ [16] (by decide +kernel) (by decide +kernel)
theorem ggX2_closestPair_X2_distanceOf_p1 : GoodIn wsX2_closestPair wsX2_distanceOf_r1 := goodIn_r _ [17, 18, 19, 20, 21, 22, 23, 24, 25, 26, 27, 9, 10, 11, 28, 29, 30, 31, 32, 33, 34, 35, 36, 15] (by decide +kernel) (by decide +kernel)
theorem ggX2_closestPair_X2_distanceOf_p2 : GoodIn wsX2_closestPair wsX2_distanceOf_r2 := goodIn_r _ [37, 38, 39, 40, 41, 42, 43] (by decide +kernel) (by decide +kernel)
theorem ggX2_closestPair_X2_distanceOf_p3 : GoodIn wsX2_closestPair wsX20 := goodIn_r _ [50, 51, 52, 53, 54, 55] (by decide +kernel) (by decide +kernel)
theorem ggX2_closestPair_X2_distanceOf_p4 : GoodIn wsX2_closestPair wsX00 := goodIn_r _ [56, 57, 58, 59, 60] (by decide +kernel) (by decide +kernel)
theorem ggX2_closestPair_X2_distanceOf : GoodIn wsX2_closestPair wsX2_distanceOf := (goodIn_c2 ggX2_closestPair_X2_distanceOf_p0 (goodIn_app (goodIn_app (goodIn_app ggX2_closestPair_X2_distanceOf_p1 ggX2_closestPair_X2_distanceOf_p2) ggX2_closestPair_X2_distanceOf_p3) ggX2_closestPair_X2_distanceOf_p4))
set_option maxRecDepth 20000 in
theorem gX2_closestPair_X2_distanceOf : GoodIn wsX2_closestPair (wsV RX2 37 RX2 yX2_distanceOf wsX2_distanceOf) := goodIn_app (goodIn_of _ (by decide +kernel)) ggX2_closestPair_X2_distanceOf
theorem dX2_closestPair_0 : decode cX2_closestPair 0 = .ok (.iconst (-1), 1) := by decide +kernel
theorem dX2_closestPair_1 : decode cX2_closestPair 1 = .ok (.istore_n 3, 1) := by decide +kernel
theorem dX2_closestPair_2 : decode cX2_closestPair 2 = .ok (.iconst (-1), 1) := by decide +kernel
theorem dX2_closestPair_3 : decode cX2_closestPair 3 = .ok (.istore 4, 2) := by decide +kernel
theorem dX2_closestPair_5 : decode cX2_closestPair 5 = .ok (.iconst 0, 1) := by decide +kernel
theorem dX2_closestPair_6 : decode cX2_closestPair 6 = .ok (.istore 5, 2) := by decide +kernel
theorem dX2_closestPair_8 : decode cX2_closestPair 8 = .ok (.iload 5, 2) := by decide +kernel
theorem dX2_closestPair_10 : decode cX2_closestPair 10 = .ok (.aload_n 1, 1) := by decide +kernel
theorem dX2_closestPair_11 : decode cX2_closestPair 11 = .ok (.getfield 28, 3) := by decide +kernel
theorem dX2_closestPair_14 : decode cX2_closestPair 14 = .ok (.if_icmp .ge 95, 3) := by decide +kernel
theorem dX2_closestPair_17 : decode cX2_closestPair 17 = .ok (.iload 5, 2) := by decide +kernel
theorem dX2_closestPair_19 : decode cX2_closestPair 19 = .ok (.iconst 1, 1) := by decide +kernel
theorem dX2_closestPair_20 : decode cX2_closestPair 20 = .ok (.iadd, 1) := by decide +kernel
theorem dX2_closestPair_21 : decode cX2_closestPair 21 = .ok (.istore 6, 2) := by decide +kernel
theorem dX2_closestPair_23 : decode cX2_closestPair 23 = .ok (.iload 6, 2) := by decide +kernel
theorem dX2_closestPair_25 : decode cX2_closestPair 25 = .ok (.aload_n 1, 1) := by decide +kernel
theorem dX2_closestPair_26 : decode cX2_closestPair 26 = .ok (.getfield 28, 3) := by decide +kernel
theorem dX2_closestPair_29 : decode cX2_closestPair 29 = .ok (.if_icmp .ge 74, 3) := by decide +kernel
theorem dX2_closestPair_32 : decode cX2_closestPair 32 = .ok (.aload_n 1, 1) := by decide +kernel
theorem dX2_closestPair_33 : decode cX2_closestPair 33 = .ok (.iload 5, 2) := by decide +kernel
theorem dX2_closestPair_35 : decode cX2_closestPair 35 = .ok (.invokevirtual 56, 3) := by decide +kernel
theorem dX2_closestPair_38 : decode cX2_closestPair 38 = .ok (.aload_n 1, 1) := by decide +kernel
theorem dX2_closestPair_39 : decode cX2_closestPair 39 = .ok (.iload 6, 2) := by decide +kernel
theorem dX2_closestPair_41 : decode cX2_closestPair 41 = .ok (.invokevirtual 56, 3) := by decide +kernel
theorem dX2_closestPair_44 : decode cX2_closestPair 44 = .ok (.if_icmp .ne 6, 3) := by decide +kernel
theorem dX2_closestPair_47 : decode cX2_closestPair 47 = .ok (.goto 50, 3) := by decide +kernel
theorem dX2_closestPair_50 : decode cX2_closestPair 50 = .ok (.aload_n 0, 1) := by decide +kernel
theorem dX2_closestPair_51 : decode cX2_closestPair 51 = .ok (.aload_n 1, 1) := by decide +kernel
theorem dX2_closestPair_52 : decode cX2_closestPair 52 = .ok (.getfield 33, 3) := by decide +kernel
theorem dX2_closestPair_55 : decode cX2_closestPair 55 = .ok (.iload 5, 2) := by decide +kernel
theorem dX2_closestPair_57 : decode cX2_closestPair 57 = .ok (.iload 6, 2) := by decide +kernel
theorem dX2_closestPair_59 : decode cX2_closestPair 59 = .ok (.invokevirtual 37, 3) := by decide +kernel
theorem dX2_closestPair_62 : decode cX2_closestPair 62 = .ok (.istore 7, 2) := by decide +kernel
theorem dX2_closestPair_64 : decode cX2_closestPair 64 = .ok (.iload_n 3, 1) := by decide +kernel
theorem dX2_closestPair_65 : decode cX2_closestPair 65 = .ok (.iconst (-1), 1) := by decide +kernel
theorem dX2_closestPair_66 : decode cX2_closestPair 66 = .ok (.if_icmp .eq 10, 3) := by decide +kernel
theorem dX2_closestPair_69 : decode cX2_closestPair 69 = .ok (.iload 7, 2) := by decide +kernel
theorem dX2_closestPair_71 : decode cX2_closestPair 71 = .ok (.iload 4, 2) := by decide +kernel
theorem dX2_closestPair_73 : decode cX2_closestPair 73 = .ok (.if_icmp .ge 16, 3) := by decide +kernel
theorem dX2_closestPair_76 : decode cX2_closestPair 76 = .ok (.bipush 100, 2) := by decide +kernel
theorem dX2_closestPair_78 : decode cX2_closestPair 78 = .ok (.iload 5, 2) := by decide +kernel
theorem dX2_closestPair_80 : decode cX2_closestPair 80 = .ok (.imul, 1) := by decide +kernel
theorem dX2_closestPair_81 : decode cX2_closestPair 81 = .ok (.iload 6, 2) := by decide +kernel
theorem dX2_closestPair_83 : decode cX2_closestPair 83 = .ok (.iadd, 1) := by decide +kernel
theorem dX2_closestPair_84 : decode cX2_closestPair 84 = .ok (.istore_n 3, 1) := by decide +kernel
theorem dX2_closestPair_85 : decode cX2_closestPair 85 = .ok (.iload 7, 2) := by decide +kernel
theorem dX2_closestPair_87 : decode cX2_closestPair 87 = .ok (.istore 4, 2) := by decide +kernel
theorem dX2_closestPair_89 : decode cX2_closestPair 89 = .ok (.iload 4, 2) := by decide +kernel
theorem dX2_closestPair_91 : decode cX2_closestPair 91 = .ok (.iload_n 2, 1) := by decide +kernel
theorem dX2_closestPair_92 : decode cX2_closestPair 92 = .ok (.if_icmp .gt 5, 3) := by decide +kernel
theorem dX2_closestPair_95 : decode cX2_closestPair 95 = .ok (.iload_n 3, 1) := by decide +kernel
theorem dX2_closestPair_96 : decode cX2_closestPair 96 = .ok (.ireturn, 1) := by decide +kernel
theorem dX2_closestPair_97 : decode cX2_closestPair 97 = .ok (.iinc 6 1, 3) := by decide +kernel
theorem dX2_closestPair_100 : decode cX2_closestPair 100 = .ok (.goto (-77), 3) := by decide +kernel
theorem dX2_closestPair_103 : decode cX2_closestPair 103 = .ok (.iinc 5 1, 3) := by decide +kernel
theorem dX2_closestPair_106 : decode cX2_closestPair 106 = .ok (.goto (-98), 3) := by decide +kernel
theorem dX2_closestPair_109 : decode cX2_closestPair 109 = .ok (.iload_n 3, 1) := by decide +kernel
theorem dX2_closestPair_110 : decode cX2_closestPair 110 = .ok (.ireturn, 1) := by decide +kernel
set_option maxRecDepth 20000 in
theorem ggX2_distanceOf_X0_signsOf : GoodIn wsX2_distanceOf wsX0_signsOf := goodIn_r _ [10, 11, 12, 13, 14, 38, 39, 40, 41, 42] (by decide +kernel) (by decide +kernel)
set_option maxRecDepth 20000 in
theorem gX2_distanceOf_X0_signsOf : GoodIn wsX2_distanceOf (wsV RX2 67 RX0 yX0_signsOf wsX0_signsOf) := goodIn_app (goodIn_of _ (by decide +kernel)) ggX2_distanceOf_X0_signsOf
set_option maxRecDepth 20000 in
theorem ggX2_distanceOf_X6_putCell : GoodIn wsX2_distanceOf wsX6_putCell := goodIn_r _ [16] (by decide +kernel) (by decide +kernel)
set_option maxRecDepth 20000 in
theorem gX2_distanceOf_X6_putCell_n41 : GoodIn wsX2_distanceOf (wsX6_putCell) := ggX2_distanceOf_X6_putCell
set_option maxRecDepth 20000 in
theorem ggX2_distanceOf_X6_cell : GoodIn wsX2_distanceOf wsX6_cell := goodIn_r _ [14] (by decide +kernel) (by decide +kernel)
set_option maxRecDepth 20000 in
theorem gX2_distanceOf_X6_cell_n59 : GoodIn wsX2_distanceOf (wsX6_cell) := ggX2_distanceOf_X6_cell
set_option maxRecDepth 20000 in
theorem ggX2_distanceOf_X0_signAt : GoodIn wsX2_distanceOf wsX0_signAt := goodIn_r _ [20, 11, 21, 12, 13, 14, 38, 39, 40, 41, 42] (by decide +kernel) (by decide +kernel)
set_option maxRecDepth 20000 in
theorem gX2_distanceOf_X0_signAt : GoodIn wsX2_distanceOf (wsV RX2 72 RX0 yX0_signAt wsX0_signAt) := goodIn_app (goodIn_of _ (by decide +kernel)) ggX2_distanceOf_X0_signAt
set_option maxRecDepth 20000 in
theorem ggX2_distanceOf_X2_costAlone : GoodIn wsX2_distanceOf wsX2_costAlone := goodIn_r _ [25] (by decide +kernel) (by decide +kernel)
set_option maxRecDepth 20000 in
theorem gX2_distanceOf_X2_costAlone : GoodIn wsX2_distanceOf (va_wsS RX2 76 yX2_costAlone wsX2_costAlone) := goodIn_app (goodIn_of _ (by decide +kernel)) ggX2_distanceOf_X2_costAlone
set_option maxRecDepth 20000 in
theorem ggX2_distanceOf_X2_costInstead : GoodIn wsX2_distanceOf wsX2_costInstead := goodIn_r _ [28, 29, 30, 4, 31] (by decide +kernel) (by decide +kernel)
set_option maxRecDepth 20000 in
theorem gX2_distanceOf_X2_costInstead : GoodIn wsX2_distanceOf (va_wsS RX2 79 yX2_costInstead wsX2_costInstead) := goodIn_app (goodIn_of _ (by decide +kernel)) ggX2_distanceOf_X2_costInstead
theorem dX2_distanceOf_0 : decode cX2_distanceOf 0 = .ok (.aload_n 1, 1) := by decide +kernel
theorem dX2_distanceOf_1 : decode cX2_distanceOf 1 = .ok (.iload_n 3, 1) := by decide +kernel
theorem dX2_distanceOf_2 : decode cX2_distanceOf 2 = .ok (.invokevirtual 67, 3) := by decide +kernel
theorem dX2_distanceOf_5 : decode cX2_distanceOf 5 = .ok (.istore 4, 2) := by decide +kernel
theorem dX2_distanceOf_7 : decode cX2_distanceOf 7 = .ok (.aload_n 0, 1) := by decide +kernel
theorem dX2_distanceOf_8 : decode cX2_distanceOf 8 = .ok (.getfield 9, 3) := by decide +kernel
theorem dX2_distanceOf_11 : decode cX2_distanceOf 11 = .ok (.iconst 0, 1) := by decide +kernel
theorem dX2_distanceOf_12 : decode cX2_distanceOf 12 = .ok (.iconst 0, 1) := by decide +kernel
theorem dX2_distanceOf_13 : decode cX2_distanceOf 13 = .ok (.invokestatic 41, 3) := by decide +kernel
theorem dX2_distanceOf_16 : decode cX2_distanceOf 16 = .ok (.iconst 1, 1) := by decide +kernel
theorem dX2_distanceOf_17 : decode cX2_distanceOf 17 = .ok (.istore 5, 2) := by decide +kernel
theorem dX2_distanceOf_19 : decode cX2_distanceOf 19 = .ok (.iload 5, 2) := by decide +kernel
theorem dX2_distanceOf_21 : decode cX2_distanceOf 21 = .ok (.iload 4, 2) := by decide +kernel
theorem dX2_distanceOf_23 : decode cX2_distanceOf 23 = .ok (.if_icmp .gt 42, 3) := by decide +kernel
theorem dX2_distanceOf_26 : decode cX2_distanceOf 26 = .ok (.aload_n 0, 1) := by decide +kernel
theorem dX2_distanceOf_27 : decode cX2_distanceOf 27 = .ok (.getfield 9, 3) := by decide +kernel
theorem dX2_distanceOf_30 : decode cX2_distanceOf 30 = .ok (.iload 5, 2) := by decide +kernel
theorem dX2_distanceOf_32 : decode cX2_distanceOf 32 = .ok (.aload_n 0, 1) := by decide +kernel
theorem dX2_distanceOf_33 : decode cX2_distanceOf 33 = .ok (.getfield 9, 3) := by decide +kernel
theorem dX2_distanceOf_36 : decode cX2_distanceOf 36 = .ok (.iload 5, 2) := by decide +kernel
theorem dX2_distanceOf_38 : decode cX2_distanceOf 38 = .ok (.iconst 1, 1) := by decide +kernel
theorem dX2_distanceOf_39 : decode cX2_distanceOf 39 = .ok (.isub, 1) := by decide +kernel
theorem dX2_distanceOf_40 : decode cX2_distanceOf 40 = .ok (.invokestatic 59, 3) := by decide +kernel
theorem dX2_distanceOf_43 : decode cX2_distanceOf 43 = .ok (.aload_n 1, 1) := by decide +kernel
theorem dX2_distanceOf_44 : decode cX2_distanceOf 44 = .ok (.iload_n 3, 1) := by decide +kernel
theorem dX2_distanceOf_45 : decode cX2_distanceOf 45 = .ok (.iload 5, 2) := by decide +kernel
theorem dX2_distanceOf_47 : decode cX2_distanceOf 47 = .ok (.iconst 1, 1) := by decide +kernel
theorem dX2_distanceOf_48 : decode cX2_distanceOf 48 = .ok (.isub, 1) := by decide +kernel
theorem dX2_distanceOf_49 : decode cX2_distanceOf 49 = .ok (.invokevirtual 72, 3) := by decide +kernel
theorem dX2_distanceOf_52 : decode cX2_distanceOf 52 = .ok (.invokestatic 76, 3) := by decide +kernel
theorem dX2_distanceOf_55 : decode cX2_distanceOf 55 = .ok (.iadd, 1) := by decide +kernel
theorem dX2_distanceOf_56 : decode cX2_distanceOf 56 = .ok (.invokestatic 41, 3) := by decide +kernel
theorem dX2_distanceOf_59 : decode cX2_distanceOf 59 = .ok (.iinc 5 1, 3) := by decide +kernel
theorem dX2_distanceOf_62 : decode cX2_distanceOf 62 = .ok (.goto (-43), 3) := by decide +kernel
theorem dX2_distanceOf_65 : decode cX2_distanceOf 65 = .ok (.iconst 0, 1) := by decide +kernel
theorem dX2_distanceOf_66 : decode cX2_distanceOf 66 = .ok (.istore 5, 2) := by decide +kernel
theorem dX2_distanceOf_68 : decode cX2_distanceOf 68 = .ok (.iload 5, 2) := by decide +kernel
theorem dX2_distanceOf_70 : decode cX2_distanceOf 70 = .ok (.aload_n 1, 1) := by decide +kernel
theorem dX2_distanceOf_71 : decode cX2_distanceOf 71 = .ok (.iload_n 2, 1) := by decide +kernel
theorem dX2_distanceOf_72 : decode cX2_distanceOf 72 = .ok (.invokevirtual 67, 3) := by decide +kernel
theorem dX2_distanceOf_75 : decode cX2_distanceOf 75 = .ok (.if_icmp .ge 151, 3) := by decide +kernel
theorem dX2_distanceOf_78 : decode cX2_distanceOf 78 = .ok (.aload_n 1, 1) := by decide +kernel
theorem dX2_distanceOf_79 : decode cX2_distanceOf 79 = .ok (.iload_n 2, 1) := by decide +kernel
theorem dX2_distanceOf_80 : decode cX2_distanceOf 80 = .ok (.iload 5, 2) := by decide +kernel
theorem dX2_distanceOf_82 : decode cX2_distanceOf 82 = .ok (.invokevirtual 72, 3) := by decide +kernel
theorem dX2_distanceOf_85 : decode cX2_distanceOf 85 = .ok (.istore 6, 2) := by decide +kernel
theorem dX2_distanceOf_87 : decode cX2_distanceOf 87 = .ok (.aload_n 0, 1) := by decide +kernel
theorem dX2_distanceOf_88 : decode cX2_distanceOf 88 = .ok (.getfield 9, 3) := by decide +kernel
theorem dX2_distanceOf_91 : decode cX2_distanceOf 91 = .ok (.iconst 0, 1) := by decide +kernel
theorem dX2_distanceOf_92 : decode cX2_distanceOf 92 = .ok (.invokestatic 59, 3) := by decide +kernel
theorem dX2_distanceOf_95 : decode cX2_distanceOf 95 = .ok (.istore 7, 2) := by decide +kernel
theorem dX2_distanceOf_97 : decode cX2_distanceOf 97 = .ok (.aload_n 0, 1) := by decide +kernel
theorem dX2_distanceOf_98 : decode cX2_distanceOf 98 = .ok (.getfield 9, 3) := by decide +kernel
theorem dX2_distanceOf_101 : decode cX2_distanceOf 101 = .ok (.iconst 0, 1) := by decide +kernel
theorem dX2_distanceOf_102 : decode cX2_distanceOf 102 = .ok (.iload 7, 2) := by decide +kernel
theorem dX2_distanceOf_104 : decode cX2_distanceOf 104 = .ok (.iload 6, 2) := by decide +kernel
theorem dX2_distanceOf_106 : decode cX2_distanceOf 106 = .ok (.invokestatic 76, 3) := by decide +kernel
theorem dX2_distanceOf_109 : decode cX2_distanceOf 109 = .ok (.iadd, 1) := by decide +kernel
theorem dX2_distanceOf_110 : decode cX2_distanceOf 110 = .ok (.invokestatic 41, 3) := by decide +kernel
theorem dX2_distanceOf_113 : decode cX2_distanceOf 113 = .ok (.iconst 1, 1) := by decide +kernel
theorem dX2_distanceOf_114 : decode cX2_distanceOf 114 = .ok (.istore 8, 2) := by decide +kernel
theorem dX2_distanceOf_116 : decode cX2_distanceOf 116 = .ok (.iload 8, 2) := by decide +kernel
theorem dX2_distanceOf_118 : decode cX2_distanceOf 118 = .ok (.iload 4, 2) := by decide +kernel
theorem dX2_distanceOf_120 : decode cX2_distanceOf 120 = .ok (.if_icmp .gt 100, 3) := by decide +kernel
theorem dX2_distanceOf_123 : decode cX2_distanceOf 123 = .ok (.aload_n 1, 1) := by decide +kernel
theorem dX2_distanceOf_124 : decode cX2_distanceOf 124 = .ok (.iload_n 3, 1) := by decide +kernel
theorem dX2_distanceOf_125 : decode cX2_distanceOf 125 = .ok (.iload 8, 2) := by decide +kernel
theorem dX2_distanceOf_127 : decode cX2_distanceOf 127 = .ok (.iconst 1, 1) := by decide +kernel
theorem dX2_distanceOf_128 : decode cX2_distanceOf 128 = .ok (.isub, 1) := by decide +kernel
theorem dX2_distanceOf_129 : decode cX2_distanceOf 129 = .ok (.invokevirtual 72, 3) := by decide +kernel
theorem dX2_distanceOf_132 : decode cX2_distanceOf 132 = .ok (.istore 9, 2) := by decide +kernel
theorem dX2_distanceOf_134 : decode cX2_distanceOf 134 = .ok (.aload_n 0, 1) := by decide +kernel
theorem dX2_distanceOf_135 : decode cX2_distanceOf 135 = .ok (.getfield 9, 3) := by decide +kernel
theorem dX2_distanceOf_138 : decode cX2_distanceOf 138 = .ok (.iload 8, 2) := by decide +kernel
theorem dX2_distanceOf_140 : decode cX2_distanceOf 140 = .ok (.invokestatic 59, 3) := by decide +kernel
theorem dX2_distanceOf_143 : decode cX2_distanceOf 143 = .ok (.iload 6, 2) := by decide +kernel
theorem dX2_distanceOf_145 : decode cX2_distanceOf 145 = .ok (.invokestatic 76, 3) := by decide +kernel
theorem dX2_distanceOf_148 : decode cX2_distanceOf 148 = .ok (.iadd, 1) := by decide +kernel
theorem dX2_distanceOf_149 : decode cX2_distanceOf 149 = .ok (.istore 10, 2) := by decide +kernel
theorem dX2_distanceOf_151 : decode cX2_distanceOf 151 = .ok (.aload_n 0, 1) := by decide +kernel
theorem dX2_distanceOf_152 : decode cX2_distanceOf 152 = .ok (.getfield 9, 3) := by decide +kernel
theorem dX2_distanceOf_155 : decode cX2_distanceOf 155 = .ok (.iload 8, 2) := by decide +kernel
theorem dX2_distanceOf_157 : decode cX2_distanceOf 157 = .ok (.iconst 1, 1) := by decide +kernel
theorem dX2_distanceOf_158 : decode cX2_distanceOf 158 = .ok (.isub, 1) := by decide +kernel
theorem dX2_distanceOf_159 : decode cX2_distanceOf 159 = .ok (.invokestatic 59, 3) := by decide +kernel
theorem dX2_distanceOf_162 : decode cX2_distanceOf 162 = .ok (.iload 9, 2) := by decide +kernel
theorem dX2_distanceOf_164 : decode cX2_distanceOf 164 = .ok (.invokestatic 76, 3) := by decide +kernel
theorem dX2_distanceOf_167 : decode cX2_distanceOf 167 = .ok (.iadd, 1) := by decide +kernel
theorem dX2_distanceOf_168 : decode cX2_distanceOf 168 = .ok (.istore 11, 2) := by decide +kernel
theorem dX2_distanceOf_170 : decode cX2_distanceOf 170 = .ok (.iload 7, 2) := by decide +kernel
theorem dX2_distanceOf_172 : decode cX2_distanceOf 172 = .ok (.iload 6, 2) := by decide +kernel
theorem dX2_distanceOf_174 : decode cX2_distanceOf 174 = .ok (.iload 9, 2) := by decide +kernel
theorem dX2_distanceOf_176 : decode cX2_distanceOf 176 = .ok (.invokestatic 79, 3) := by decide +kernel
theorem dX2_distanceOf_179 : decode cX2_distanceOf 179 = .ok (.iadd, 1) := by decide +kernel
theorem dX2_distanceOf_180 : decode cX2_distanceOf 180 = .ok (.istore 12, 2) := by decide +kernel
theorem dX2_distanceOf_182 : decode cX2_distanceOf 182 = .ok (.aload_n 0, 1) := by decide +kernel
theorem dX2_distanceOf_183 : decode cX2_distanceOf 183 = .ok (.getfield 9, 3) := by decide +kernel
theorem dX2_distanceOf_186 : decode cX2_distanceOf 186 = .ok (.iload 8, 2) := by decide +kernel
theorem dX2_distanceOf_188 : decode cX2_distanceOf 188 = .ok (.invokestatic 59, 3) := by decide +kernel
theorem dX2_distanceOf_191 : decode cX2_distanceOf 191 = .ok (.istore 7, 2) := by decide +kernel
theorem dX2_distanceOf_193 : decode cX2_distanceOf 193 = .ok (.aload_n 0, 1) := by decide +kernel
theorem dX2_distanceOf_194 : decode cX2_distanceOf 194 = .ok (.getfield 9, 3) := by decide +kernel
theorem dX2_distanceOf_197 : decode cX2_distanceOf 197 = .ok (.iload 8, 2) := by decide +kernel
theorem dX2_distanceOf_199 : decode cX2_distanceOf 199 = .ok (.iload 12, 2) := by decide +kernel
theorem dX2_distanceOf_201 : decode cX2_distanceOf 201 = .ok (.iload 10, 2) := by decide +kernel
theorem dX2_distanceOf_203 : decode cX2_distanceOf 203 = .ok (.iload 11, 2) := by decide +kernel
theorem dX2_distanceOf_205 : decode cX2_distanceOf 205 = .ok (.invokestatic 82, 3) := by decide +kernel
theorem dX2_distanceOf_208 : decode cX2_distanceOf 208 = .ok (.invokestatic 82, 3) := by decide +kernel
theorem dX2_distanceOf_211 : decode cX2_distanceOf 211 = .ok (.invokestatic 41, 3) := by decide +kernel
theorem dX2_distanceOf_214 : decode cX2_distanceOf 214 = .ok (.iinc 8 1, 3) := by decide +kernel
theorem dX2_distanceOf_217 : decode cX2_distanceOf 217 = .ok (.goto (-101), 3) := by decide +kernel
theorem dX2_distanceOf_220 : decode cX2_distanceOf 220 = .ok (.iinc 5 1, 3) := by decide +kernel
theorem dX2_distanceOf_223 : decode cX2_distanceOf 223 = .ok (.goto (-155), 3) := by decide +kernel
theorem dX2_distanceOf_226 : decode cX2_distanceOf 226 = .ok (.aload_n 0, 1) := by decide +kernel
theorem dX2_distanceOf_227 : decode cX2_distanceOf 227 = .ok (.getfield 9, 3) := by decide +kernel
theorem dX2_distanceOf_230 : decode cX2_distanceOf 230 = .ok (.iload 4, 2) := by decide +kernel
theorem dX2_distanceOf_232 : decode cX2_distanceOf 232 = .ok (.invokestatic 59, 3) := by decide +kernel
theorem dX2_distanceOf_235 : decode cX2_distanceOf 235 = .ok (.ireturn, 1) := by decide +kernel
theorem dX2_costAlone_0 : decode cX2_costAlone 0 = .ok (.iload_n 0, 1) := by decide +kernel
theorem dX2_costAlone_1 : decode cX2_costAlone 1 = .ok (.iconst 4, 1) := by decide +kernel
theorem dX2_costAlone_2 : decode cX2_costAlone 2 = .ok (.if_icmp .ne 7, 3) := by decide +kernel
theorem dX2_costAlone_5 : decode cX2_costAlone 5 = .ok (.iconst 3, 1) := by decide +kernel
theorem dX2_costAlone_6 : decode cX2_costAlone 6 = .ok (.goto 4, 3) := by decide +kernel
theorem dX2_costAlone_9 : decode cX2_costAlone 9 = .ok (.iconst 2, 1) := by decide +kernel
theorem dX2_costAlone_10 : decode cX2_costAlone 10 = .ok (.ireturn, 1) := by decide +kernel
theorem dX2_costInstead_0 : decode cX2_costInstead 0 = .ok (.iload_n 0, 1) := by decide +kernel
theorem dX2_costInstead_1 : decode cX2_costInstead 1 = .ok (.iload_n 1, 1) := by decide +kernel
theorem dX2_costInstead_2 : decode cX2_costInstead 2 = .ok (.if_icmp .ne 5, 3) := by decide +kernel
theorem dX2_costInstead_5 : decode cX2_costInstead 5 = .ok (.iconst 0, 1) := by decide +kernel
theorem dX2_costInstead_6 : decode cX2_costInstead 6 = .ok (.ireturn, 1) := by decide +kernel
theorem dX2_costInstead_7 : decode cX2_costInstead 7 = .ok (.iload_n 0, 1) := by decide +kernel
theorem dX2_costInstead_8 : decode cX2_costInstead 8 = .ok (.iconst 4, 1) := by decide +kernel
theorem dX2_costInstead_9 : decode cX2_costInstead 9 = .ok (.if_icmp .eq 8, 3) := by decide +kernel
theorem dX2_costInstead_12 : decode cX2_costInstead 12 = .ok (.iload_n 1, 1) := by decide +kernel
theorem dX2_costInstead_13 : decode cX2_costInstead 13 = .ok (.iconst 4, 1) := by decide +kernel
theorem dX2_costInstead_14 : decode cX2_costInstead 14 = .ok (.if_icmp .ne 5, 3) := by decide +kernel
theorem dX2_costInstead_17 : decode cX2_costInstead 17 = .ok (.iconst 5, 1) := by decide +kernel
theorem dX2_costInstead_18 : decode cX2_costInstead 18 = .ok (.ireturn, 1) := by decide +kernel
theorem dX2_costInstead_19 : decode cX2_costInstead 19 = .ok (.iload_n 0, 1) := by decide +kernel
theorem dX2_costInstead_20 : decode cX2_costInstead 20 = .ok (.iload_n 1, 1) := by decide +kernel
theorem dX2_costInstead_21 : decode cX2_costInstead 21 = .ok (.isub, 1) := by decide +kernel
theorem dX2_costInstead_22 : decode cX2_costInstead 22 = .ok (.invokestatic 87, 3) := by decide +kernel
theorem dX2_costInstead_25 : decode cX2_costInstead 25 = .ok (.iconst 2, 1) := by decide +kernel
theorem dX2_costInstead_26 : decode cX2_costInstead 26 = .ok (.if_icmp .ne 7, 3) := by decide +kernel
theorem dX2_costInstead_29 : decode cX2_costInstead 29 = .ok (.iconst 3, 1) := by decide +kernel
theorem dX2_costInstead_30 : decode cX2_costInstead 30 = .ok (.goto 4, 3) := by decide +kernel
theorem dX2_costInstead_33 : decode cX2_costInstead 33 = .ok (.iconst 2, 1) := by decide +kernel
theorem dX2_costInstead_34 : decode cX2_costInstead 34 = .ok (.ireturn, 1) := by decide +kernel
theorem dX3_init_0 : decode cX3_init 0 = .ok (.aload_n 0, 1) := by decide +kernel
theorem dX3_init_1 : decode cX3_init 1 = .ok (.invokespecial 1, 3) := by decide +kernel
theorem dX3_init_4 : decode cX3_init 4 = .ok (.aload_n 0, 1) := by decide +kernel
theorem dX3_init_5 : decode cX3_init 5 = .ok (.iload_n 1, 1) := by decide +kernel
theorem dX3_init_6 : decode cX3_init 6 = .ok (.iconst 0, 1) := by decide +kernel
theorem dX3_init_7 : decode cX3_init 7 = .ok (.invokestatic 7, 3) := by decide +kernel
theorem dX3_init_10 : decode cX3_init 10 = .ok (.anewarray 13, 3) := by decide +kernel
theorem dX3_init_13 : decode cX3_init 13 = .ok (.putfield 15, 3) := by decide +kernel
theorem dX3_init_16 : decode cX3_init 16 = .ok (.return_, 1) := by decide +kernel
theorem dX3_copyAt_0 : decode cX3_copyAt 0 = .ok (.iload_n 1, 1) := by decide +kernel
theorem dX3_copyAt_1 : decode cX3_copyAt 1 = .ok (.ifCond .lt 21, 3) := by decide +kernel
theorem dX3_copyAt_4 : decode cX3_copyAt 4 = .ok (.iload_n 1, 1) := by decide +kernel
theorem dX3_copyAt_5 : decode cX3_copyAt 5 = .ok (.aload_n 0, 1) := by decide +kernel
theorem dX3_copyAt_6 : decode cX3_copyAt 6 = .ok (.getfield 15, 3) := by decide +kernel
theorem dX3_copyAt_9 : decode cX3_copyAt 9 = .ok (.arraylength, 1) := by decide +kernel
theorem dX3_copyAt_10 : decode cX3_copyAt 10 = .ok (.if_icmp .ge 12, 3) := by decide +kernel
theorem dX3_copyAt_13 : decode cX3_copyAt 13 = .ok (.aload_n 0, 1) := by decide +kernel
theorem dX3_copyAt_14 : decode cX3_copyAt 14 = .ok (.getfield 15, 3) := by decide +kernel
theorem dX3_copyAt_17 : decode cX3_copyAt 17 = .ok (.iload_n 1, 1) := by decide +kernel
theorem dX3_copyAt_18 : decode cX3_copyAt 18 = .ok (.aaload, 1) := by decide +kernel
theorem dX3_copyAt_19 : decode cX3_copyAt 19 = .ok (.goto 4, 3) := by decide +kernel
theorem dX3_copyAt_22 : decode cX3_copyAt 22 = .ok (.aconst_null, 1) := by decide +kernel
theorem dX3_copyAt_23 : decode cX3_copyAt 23 = .ok (.areturn, 1) := by decide +kernel
set_option maxRecDepth 20000 in
theorem ggX3_keepCopy_X4_init_p0 : GoodIn wsX3_keepCopy [.code yX4_init cX4_init 1 none] := goodIn_r _ [6] (by decide +kernel) (by decide +kernel)
theorem ggX3_keepCopy_X4_init_p1 : GoodIn wsX3_keepCopy [.methodLink RX4 3 objectInit, .instanceMethod objectInit, .code objectInit ⟨#[0xb1]⟩ 1 none, .classLink RX4 9 RX0, .instantiable RX0 5, .initialized RX0, .fieldLink RX4 12 "RuledStrokes$State" "figures" "LRuledStrokes$Figures;", .arrayClass .int, .fieldLink RX4 18 "RuledStrokes$State" "names" "[I", .fieldLink RX4 22 "RuledStrokes$State" "settings" "[I", .fieldLink RX4 25 "RuledStrokes$State" "outcomes" "[I", .instanceMethod yX0_init, .code yX0_init cX0_init 1 none, .methodLink RX0 3 objectInit, .fieldLink RX0 9 "RuledStrokes$Figures" "strokes" "[I", .fieldLink RX0 15 "RuledStrokes$Figures" "lengths" "[I", .fieldLink RX0 18 "RuledStrokes$Figures" "points" "[I", .fieldLink RX0 21 "RuledStrokes$Figures" "signCounts" "[I", .fieldLink RX0 24 "RuledStrokes$Figures" "signs" "[I"] := goodIn_r _ [7, 8, 9, 10, 11, 12, 13, 14, 15, 16, 17, 18, 19, 20, 21, 22, 23, 24, 25] (by decide +kernel) (by decide +kernel)
theorem ggX3_keepCopy_X4_init_p2 : GoodIn wsX3_keepCopy wsX00 := goodIn_r _ [54, 55, 56, 57, 58] (by decide +kernel) (by decide +kernel)
theorem ggX3_keepCopy_X4_init_p3 : GoodIn wsX3_keepCopy wsX40 := goodIn_r _ [48, 49, 50, 51, 52, 53] (by decide +kernel) (by decide +kernel)
theorem ggX3_keepCopy_X4_init : GoodIn wsX3_keepCopy wsX4_init := (goodIn_c2 ggX3_keepCopy_X4_init_p0 (goodIn_app (goodIn_app ggX3_keepCopy_X4_init_p1 ggX3_keepCopy_X4_init_p2) ggX3_keepCopy_X4_init_p3))
set_option maxRecDepth 20000 in
theorem gX3_keepCopy_X4_init_n21 : GoodIn wsX3_keepCopy (wsX4_init) := ggX3_keepCopy_X4_init
set_option maxRecDepth 20000 in
theorem ggX3_keepCopy_X4_copyFrom_p0 : GoodIn wsX3_keepCopy [.code yX4_copyFrom cX4_copyFrom 2 none] := goodIn_r _ [29] (by decide +kernel) (by decide +kernel)
theorem ggX3_keepCopy_X4_copyFrom_p1 : GoodIn wsX3_keepCopy wsX4_copyFrom_r1 := goodIn_r _ [13, 15, 16, 17, 30, 31, 32, 33, 34, 12, 35, 21, 22, 23, 24, 25, 36, 37, 38, 39, 40, 41, 42, 43] (by decide +kernel) (by decide +kernel)
theorem ggX3_keepCopy_X4_copyFrom_p2 : GoodIn wsX3_keepCopy wsX4_copyFrom_r2 := goodIn_r _ [44, 45, 46] (by decide +kernel) (by decide +kernel)
theorem ggX3_keepCopy_X4_copyFrom_p3 : GoodIn wsX3_keepCopy wsX40 := goodIn_r _ [48, 49, 50, 51, 52, 53] (by decide +kernel) (by decide +kernel)
theorem ggX3_keepCopy_X4_copyFrom_p4 : GoodIn wsX3_keepCopy wsX00 := goodIn_r _ [54, 55, 56, 57, 58] (by decide +kernel) (by decide +kernel)
theorem ggX3_keepCopy_X4_copyFrom : GoodIn wsX3_keepCopy wsX4_copyFrom := (goodIn_c2 ggX3_keepCopy_X4_copyFrom_p0 (goodIn_app (goodIn_app (goodIn_app ggX3_keepCopy_X4_copyFrom_p1 ggX3_keepCopy_X4_copyFrom_p2) ggX3_keepCopy_X4_copyFrom_p3) ggX3_keepCopy_X4_copyFrom_p4))
set_option maxRecDepth 20000 in
theorem gX3_keepCopy_X4_copyFrom : GoodIn wsX3_keepCopy (wsV RX3 22 RX4 yX4_copyFrom wsX4_copyFrom) := goodIn_app (goodIn_of _ (by decide +kernel)) ggX3_keepCopy_X4_copyFrom
theorem dX3_keepCopy_0 : decode cX3_keepCopy 0 = .ok (.iload_n 1, 1) := by decide +kernel
theorem dX3_keepCopy_1 : decode cX3_keepCopy 1 = .ok (.ifCond .lt 12, 3) := by decide +kernel
theorem dX3_keepCopy_4 : decode cX3_keepCopy 4 = .ok (.iload_n 1, 1) := by decide +kernel
theorem dX3_keepCopy_5 : decode cX3_keepCopy 5 = .ok (.aload_n 0, 1) := by decide +kernel
theorem dX3_keepCopy_6 : decode cX3_keepCopy 6 = .ok (.getfield 15, 3) := by decide +kernel
theorem dX3_keepCopy_9 : decode cX3_keepCopy 9 = .ok (.arraylength, 1) := by decide +kernel
theorem dX3_keepCopy_10 : decode cX3_keepCopy 10 = .ok (.if_icmp .lt 4, 3) := by decide +kernel
theorem dX3_keepCopy_13 : decode cX3_keepCopy 13 = .ok (.return_, 1) := by decide +kernel
theorem dX3_keepCopy_14 : decode cX3_keepCopy 14 = .ok (.aload_n 0, 1) := by decide +kernel
theorem dX3_keepCopy_15 : decode cX3_keepCopy 15 = .ok (.getfield 15, 3) := by decide +kernel
theorem dX3_keepCopy_18 : decode cX3_keepCopy 18 = .ok (.iload_n 1, 1) := by decide +kernel
theorem dX3_keepCopy_19 : decode cX3_keepCopy 19 = .ok (.aaload, 1) := by decide +kernel
theorem dX3_keepCopy_20 : decode cX3_keepCopy 20 = .ok (.astore_n 3, 1) := by decide +kernel
theorem dX3_keepCopy_21 : decode cX3_keepCopy 21 = .ok (.aload_n 3, 1) := by decide +kernel
theorem dX3_keepCopy_22 : decode cX3_keepCopy 22 = .ok (.ifnonnull 18, 3) := by decide +kernel
theorem dX3_keepCopy_25 : decode cX3_keepCopy 25 = .ok (.new 13, 3) := by decide +kernel
theorem dX3_keepCopy_28 : decode cX3_keepCopy 28 = .ok (.dup, 1) := by decide +kernel
theorem dX3_keepCopy_29 : decode cX3_keepCopy 29 = .ok (.invokespecial 21, 3) := by decide +kernel
theorem dX3_keepCopy_32 : decode cX3_keepCopy 32 = .ok (.astore_n 3, 1) := by decide +kernel
theorem dX3_keepCopy_33 : decode cX3_keepCopy 33 = .ok (.aload_n 0, 1) := by decide +kernel
theorem dX3_keepCopy_34 : decode cX3_keepCopy 34 = .ok (.getfield 15, 3) := by decide +kernel
theorem dX3_keepCopy_37 : decode cX3_keepCopy 37 = .ok (.iload_n 1, 1) := by decide +kernel
theorem dX3_keepCopy_38 : decode cX3_keepCopy 38 = .ok (.aload_n 3, 1) := by decide +kernel
theorem dX3_keepCopy_39 : decode cX3_keepCopy 39 = .ok (.aastore, 1) := by decide +kernel
theorem dX3_keepCopy_40 : decode cX3_keepCopy 40 = .ok (.aload_n 3, 1) := by decide +kernel
theorem dX3_keepCopy_41 : decode cX3_keepCopy 41 = .ok (.aload_n 2, 1) := by decide +kernel
theorem dX3_keepCopy_42 : decode cX3_keepCopy 42 = .ok (.invokevirtual 22, 3) := by decide +kernel
theorem dX3_keepCopy_45 : decode cX3_keepCopy 45 = .ok (.return_, 1) := by decide +kernel
set_option maxRecDepth 20000 in
theorem ggX4_init_X0_init : GoodIn wsX4_init wsX0_init := goodIn_r _ [13, 14, 2, 3, 8, 15, 16, 17, 18, 19, 20, 21, 22, 23, 24] (by decide +kernel) (by decide +kernel)
set_option maxRecDepth 20000 in
theorem gX4_init_X0_init_n11 : GoodIn wsX4_init (wsX0_init) := ggX4_init_X0_init
theorem dX4_init_0 : decode cX4_init 0 = .ok (.aload_n 0, 1) := by decide +kernel
theorem dX4_init_1 : decode cX4_init 1 = .ok (.invokespecial 3, 3) := by decide +kernel
theorem dX4_init_4 : decode cX4_init 4 = .ok (.aload_n 0, 1) := by decide +kernel
theorem dX4_init_5 : decode cX4_init 5 = .ok (.new 9, 3) := by decide +kernel
theorem dX4_init_8 : decode cX4_init 8 = .ok (.dup, 1) := by decide +kernel
theorem dX4_init_9 : decode cX4_init 9 = .ok (.invokespecial 11, 3) := by decide +kernel
theorem dX4_init_12 : decode cX4_init 12 = .ok (.putfield 12, 3) := by decide +kernel
theorem dX4_init_15 : decode cX4_init 15 = .ok (.aload_n 0, 1) := by decide +kernel
theorem dX4_init_16 : decode cX4_init 16 = .ok (.bipush 16, 2) := by decide +kernel
theorem dX4_init_18 : decode cX4_init 18 = .ok (.newarray .int, 2) := by decide +kernel
theorem dX4_init_20 : decode cX4_init 20 = .ok (.putfield 18, 3) := by decide +kernel
theorem dX4_init_23 : decode cX4_init 23 = .ok (.aload_n 0, 1) := by decide +kernel
theorem dX4_init_24 : decode cX4_init 24 = .ok (.iconst 3, 1) := by decide +kernel
theorem dX4_init_25 : decode cX4_init 25 = .ok (.newarray .int, 2) := by decide +kernel
theorem dX4_init_27 : decode cX4_init 27 = .ok (.dup, 1) := by decide +kernel
theorem dX4_init_28 : decode cX4_init 28 = .ok (.iconst 0, 1) := by decide +kernel
theorem dX4_init_29 : decode cX4_init 29 = .ok (.bipush 10, 2) := by decide +kernel
theorem dX4_init_31 : decode cX4_init 31 = .ok (.iastore, 1) := by decide +kernel
theorem dX4_init_32 : decode cX4_init 32 = .ok (.dup, 1) := by decide +kernel
theorem dX4_init_33 : decode cX4_init 33 = .ok (.iconst 1, 1) := by decide +kernel
theorem dX4_init_34 : decode cX4_init 34 = .ok (.bipush 12, 2) := by decide +kernel
theorem dX4_init_36 : decode cX4_init 36 = .ok (.iastore, 1) := by decide +kernel
theorem dX4_init_37 : decode cX4_init 37 = .ok (.dup, 1) := by decide +kernel
theorem dX4_init_38 : decode cX4_init 38 = .ok (.iconst 2, 1) := by decide +kernel
theorem dX4_init_39 : decode cX4_init 39 = .ok (.iconst 1, 1) := by decide +kernel
theorem dX4_init_40 : decode cX4_init 40 = .ok (.iastore, 1) := by decide +kernel
theorem dX4_init_41 : decode cX4_init 41 = .ok (.putfield 22, 3) := by decide +kernel
theorem dX4_init_44 : decode cX4_init 44 = .ok (.aload_n 0, 1) := by decide +kernel
theorem dX4_init_45 : decode cX4_init 45 = .ok (.bipush 30, 2) := by decide +kernel
theorem dX4_init_47 : decode cX4_init 47 = .ok (.newarray .int, 2) := by decide +kernel
theorem dX4_init_49 : decode cX4_init 49 = .ok (.putfield 25, 3) := by decide +kernel
theorem dX4_init_52 : decode cX4_init 52 = .ok (.return_, 1) := by decide +kernel
set_option maxRecDepth 20000 in
theorem ggX4_copyFrom_X0_copyFrom : GoodIn wsX4_copyFrom wsX0_copyFrom := goodIn_r _ [11, 12, 13, 14, 15, 16, 17, 18, 19, 20, 21, 22, 23, 24, 25, 26, 27, 34, 35, 36, 37, 38] (by decide +kernel) (by decide +kernel)
set_option maxRecDepth 20000 in
theorem gX4_copyFrom_X0_copyFrom : GoodIn wsX4_copyFrom (wsV RX4 28 RX0 yX0_copyFrom wsX0_copyFrom) := goodIn_app (goodIn_of _ (by decide +kernel)) ggX4_copyFrom_X0_copyFrom
set_option maxRecDepth 20000 in
theorem ggX4_copyFrom_X6_copyRow : GoodIn wsX4_copyFrom wsX6_copyRow := goodIn_r _ [19, 20, 21, 22, 23, 24, 25, 26, 27] (by decide +kernel) (by decide +kernel)
set_option maxRecDepth 20000 in
theorem gX4_copyFrom_X6_copyRow_n32 : GoodIn wsX4_copyFrom (wsX6_copyRow) := ggX4_copyFrom_X6_copyRow
theorem dX4_copyFrom_0 : decode cX4_copyFrom 0 = .ok (.aload_n 0, 1) := by decide +kernel
theorem dX4_copyFrom_1 : decode cX4_copyFrom 1 = .ok (.getfield 12, 3) := by decide +kernel
theorem dX4_copyFrom_4 : decode cX4_copyFrom 4 = .ok (.aload_n 1, 1) := by decide +kernel
theorem dX4_copyFrom_5 : decode cX4_copyFrom 5 = .ok (.getfield 12, 3) := by decide +kernel
theorem dX4_copyFrom_8 : decode cX4_copyFrom 8 = .ok (.invokevirtual 28, 3) := by decide +kernel
theorem dX4_copyFrom_11 : decode cX4_copyFrom 11 = .ok (.aload_n 1, 1) := by decide +kernel
theorem dX4_copyFrom_12 : decode cX4_copyFrom 12 = .ok (.getfield 18, 3) := by decide +kernel
theorem dX4_copyFrom_15 : decode cX4_copyFrom 15 = .ok (.aload_n 0, 1) := by decide +kernel
theorem dX4_copyFrom_16 : decode cX4_copyFrom 16 = .ok (.getfield 18, 3) := by decide +kernel
theorem dX4_copyFrom_19 : decode cX4_copyFrom 19 = .ok (.invokestatic 32, 3) := by decide +kernel
theorem dX4_copyFrom_22 : decode cX4_copyFrom 22 = .ok (.aload_n 1, 1) := by decide +kernel
theorem dX4_copyFrom_23 : decode cX4_copyFrom 23 = .ok (.getfield 22, 3) := by decide +kernel
theorem dX4_copyFrom_26 : decode cX4_copyFrom 26 = .ok (.aload_n 0, 1) := by decide +kernel
theorem dX4_copyFrom_27 : decode cX4_copyFrom 27 = .ok (.getfield 22, 3) := by decide +kernel
theorem dX4_copyFrom_30 : decode cX4_copyFrom 30 = .ok (.invokestatic 32, 3) := by decide +kernel
theorem dX4_copyFrom_33 : decode cX4_copyFrom 33 = .ok (.aload_n 1, 1) := by decide +kernel
theorem dX4_copyFrom_34 : decode cX4_copyFrom 34 = .ok (.getfield 25, 3) := by decide +kernel
theorem dX4_copyFrom_37 : decode cX4_copyFrom 37 = .ok (.aload_n 0, 1) := by decide +kernel
theorem dX4_copyFrom_38 : decode cX4_copyFrom 38 = .ok (.getfield 25, 3) := by decide +kernel
theorem dX4_copyFrom_41 : decode cX4_copyFrom 41 = .ok (.invokestatic 32, 3) := by decide +kernel
theorem dX4_copyFrom_44 : decode cX4_copyFrom 44 = .ok (.aload_n 0, 1) := by decide +kernel
theorem dX4_copyFrom_45 : decode cX4_copyFrom 45 = .ok (.aload_n 1, 1) := by decide +kernel
theorem dX4_copyFrom_46 : decode cX4_copyFrom 46 = .ok (.getfield 36, 3) := by decide +kernel
theorem dX4_copyFrom_49 : decode cX4_copyFrom 49 = .ok (.putfield 36, 3) := by decide +kernel
theorem dX4_copyFrom_52 : decode cX4_copyFrom 52 = .ok (.aload_n 0, 1) := by decide +kernel
theorem dX4_copyFrom_53 : decode cX4_copyFrom 53 = .ok (.aload_n 1, 1) := by decide +kernel
theorem dX4_copyFrom_54 : decode cX4_copyFrom 54 = .ok (.getfield 40, 3) := by decide +kernel
theorem dX4_copyFrom_57 : decode cX4_copyFrom 57 = .ok (.putfield 40, 3) := by decide +kernel
theorem dX4_copyFrom_60 : decode cX4_copyFrom 60 = .ok (.return_, 1) := by decide +kernel
theorem dX4_hasSample_0 : decode cX4_hasSample 0 = .ok (.iload_n 1, 1) := by decide +kernel
theorem dX4_hasSample_1 : decode cX4_hasSample 1 = .ok (.ifCond .lt 15, 3) := by decide +kernel
theorem dX4_hasSample_4 : decode cX4_hasSample 4 = .ok (.iload_n 1, 1) := by decide +kernel
theorem dX4_hasSample_5 : decode cX4_hasSample 5 = .ok (.aload_n 0, 1) := by decide +kernel
theorem dX4_hasSample_6 : decode cX4_hasSample 6 = .ok (.getfield 36, 3) := by decide +kernel
theorem dX4_hasSample_9 : decode cX4_hasSample 9 = .ok (.if_icmp .ge 7, 3) := by decide +kernel
theorem dX4_hasSample_12 : decode cX4_hasSample 12 = .ok (.iconst 1, 1) := by decide +kernel
theorem dX4_hasSample_13 : decode cX4_hasSample 13 = .ok (.goto 4, 3) := by decide +kernel
theorem dX4_hasSample_16 : decode cX4_hasSample 16 = .ok (.iconst 0, 1) := by decide +kernel
theorem dX4_hasSample_17 : decode cX4_hasSample 17 = .ok (.ireturn, 1) := by decide +kernel
set_option maxRecDepth 20000 in
theorem ggX4_nameOf_X6_cell : GoodIn wsX4_nameOf wsX6_cell := goodIn_r _ [4] (by decide +kernel) (by decide +kernel)
set_option maxRecDepth 20000 in
theorem gX4_nameOf_X6_cell_n44 : GoodIn wsX4_nameOf (wsX6_cell) := ggX4_nameOf_X6_cell
theorem dX4_nameOf_0 : decode cX4_nameOf 0 = .ok (.aload_n 0, 1) := by decide +kernel
theorem dX4_nameOf_1 : decode cX4_nameOf 1 = .ok (.getfield 18, 3) := by decide +kernel
theorem dX4_nameOf_4 : decode cX4_nameOf 4 = .ok (.iload_n 1, 1) := by decide +kernel
theorem dX4_nameOf_5 : decode cX4_nameOf 5 = .ok (.invokestatic 44, 3) := by decide +kernel
theorem dX4_nameOf_8 : decode cX4_nameOf 8 = .ok (.ireturn, 1) := by decide +kernel
set_option maxRecDepth 20000 in
theorem ggX4_settingOf_X6_cell : GoodIn wsX4_settingOf wsX6_cell := goodIn_r _ [4] (by decide +kernel) (by decide +kernel)
set_option maxRecDepth 20000 in
theorem gX4_settingOf_X6_cell_n44 : GoodIn wsX4_settingOf (wsX6_cell) := ggX4_settingOf_X6_cell
theorem dX4_settingOf_0 : decode cX4_settingOf 0 = .ok (.aload_n 0, 1) := by decide +kernel
theorem dX4_settingOf_1 : decode cX4_settingOf 1 = .ok (.getfield 22, 3) := by decide +kernel
theorem dX4_settingOf_4 : decode cX4_settingOf 4 = .ok (.iload_n 1, 1) := by decide +kernel
theorem dX4_settingOf_5 : decode cX4_settingOf 5 = .ok (.invokestatic 44, 3) := by decide +kernel
theorem dX4_settingOf_8 : decode cX4_settingOf 8 = .ok (.ireturn, 1) := by decide +kernel
set_option maxRecDepth 20000 in
theorem ggX4_outcomeOf_X6_cell : GoodIn wsX4_outcomeOf wsX6_cell := goodIn_r _ [4] (by decide +kernel) (by decide +kernel)
set_option maxRecDepth 20000 in
theorem gX4_outcomeOf_X6_cell_n44 : GoodIn wsX4_outcomeOf (wsX6_cell) := ggX4_outcomeOf_X6_cell
theorem dX4_outcomeOf_0 : decode cX4_outcomeOf 0 = .ok (.aload_n 0, 1) := by decide +kernel
theorem dX4_outcomeOf_1 : decode cX4_outcomeOf 1 = .ok (.getfield 25, 3) := by decide +kernel
theorem dX4_outcomeOf_4 : decode cX4_outcomeOf 4 = .ok (.iload_n 1, 1) := by decide +kernel
theorem dX4_outcomeOf_5 : decode cX4_outcomeOf 5 = .ok (.iconst 3, 1) := by decide +kernel
theorem dX4_outcomeOf_6 : decode cX4_outcomeOf 6 = .ok (.imul, 1) := by decide +kernel
theorem dX4_outcomeOf_7 : decode cX4_outcomeOf 7 = .ok (.iload_n 2, 1) := by decide +kernel
theorem dX4_outcomeOf_8 : decode cX4_outcomeOf 8 = .ok (.iadd, 1) := by decide +kernel
theorem dX4_outcomeOf_9 : decode cX4_outcomeOf 9 = .ok (.invokestatic 44, 3) := by decide +kernel
theorem dX4_outcomeOf_12 : decode cX4_outcomeOf 12 = .ok (.ireturn, 1) := by decide +kernel
set_option maxRecDepth 20000 in
theorem ggX4_outcomesOf_X4_outcomeOf : GoodIn wsX4_outcomesOf wsX4_outcomeOf := goodIn_r _ [5, 6, 7, 8, 9, 10, 11, 12, 13, 14, 15] (by decide +kernel) (by decide +kernel)
set_option maxRecDepth 20000 in
theorem gX4_outcomesOf_X4_outcomeOf : GoodIn wsX4_outcomesOf (wsV RX4 48 RX4 yX4_outcomeOf wsX4_outcomeOf) := goodIn_app (goodIn_of _ (by decide +kernel)) ggX4_outcomesOf_X4_outcomeOf
theorem dX4_outcomesOf_0 : decode cX4_outcomesOf 0 = .ok (.iconst 0, 1) := by decide +kernel
theorem dX4_outcomesOf_1 : decode cX4_outcomesOf 1 = .ok (.istore_n 2, 1) := by decide +kernel
theorem dX4_outcomesOf_2 : decode cX4_outcomesOf 2 = .ok (.iconst 0, 1) := by decide +kernel
theorem dX4_outcomesOf_3 : decode cX4_outcomesOf 3 = .ok (.istore_n 3, 1) := by decide +kernel
theorem dX4_outcomesOf_4 : decode cX4_outcomesOf 4 = .ok (.iload_n 3, 1) := by decide +kernel
theorem dX4_outcomesOf_5 : decode cX4_outcomesOf 5 = .ok (.bipush 10, 2) := by decide +kernel
theorem dX4_outcomesOf_7 : decode cX4_outcomesOf 7 = .ok (.if_icmp .ge 18, 3) := by decide +kernel
theorem dX4_outcomesOf_10 : decode cX4_outcomesOf 10 = .ok (.iload_n 2, 1) := by decide +kernel
theorem dX4_outcomesOf_11 : decode cX4_outcomesOf 11 = .ok (.aload_n 0, 1) := by decide +kernel
theorem dX4_outcomesOf_12 : decode cX4_outcomesOf 12 = .ok (.iload_n 3, 1) := by decide +kernel
theorem dX4_outcomesOf_13 : decode cX4_outcomesOf 13 = .ok (.iload_n 1, 1) := by decide +kernel
theorem dX4_outcomesOf_14 : decode cX4_outcomesOf 14 = .ok (.invokevirtual 48, 3) := by decide +kernel
theorem dX4_outcomesOf_17 : decode cX4_outcomesOf 17 = .ok (.iadd, 1) := by decide +kernel
theorem dX4_outcomesOf_18 : decode cX4_outcomesOf 18 = .ok (.istore_n 2, 1) := by decide +kernel
theorem dX4_outcomesOf_19 : decode cX4_outcomesOf 19 = .ok (.iinc 3 1, 3) := by decide +kernel
theorem dX4_outcomesOf_22 : decode cX4_outcomesOf 22 = .ok (.goto (-18), 3) := by decide +kernel
theorem dX4_outcomesOf_25 : decode cX4_outcomesOf 25 = .ok (.iload_n 2, 1) := by decide +kernel
theorem dX4_outcomesOf_26 : decode cX4_outcomesOf 26 = .ok (.ireturn, 1) := by decide +kernel
set_option maxRecDepth 20000 in
theorem ggX4_countOutcome_X4_outcomeOf : GoodIn wsX4_countOutcome wsX4_outcomeOf := goodIn_r _ [6, 1, 7, 8, 9, 12, 13, 14, 15, 16, 17] (by decide +kernel) (by decide +kernel)
set_option maxRecDepth 20000 in
theorem gX4_countOutcome_X4_outcomeOf : GoodIn wsX4_countOutcome (wsV RX4 48 RX4 yX4_outcomeOf wsX4_outcomeOf) := goodIn_app (goodIn_of _ (by decide +kernel)) ggX4_countOutcome_X4_outcomeOf
set_option maxRecDepth 20000 in
theorem ggX4_countOutcome_X6_putCell : GoodIn wsX4_countOutcome wsX6_putCell := goodIn_r _ [11] (by decide +kernel) (by decide +kernel)
set_option maxRecDepth 20000 in
theorem gX4_countOutcome_X6_putCell_n52 : GoodIn wsX4_countOutcome (wsX6_putCell) := ggX4_countOutcome_X6_putCell
theorem dX4_countOutcome_0 : decode cX4_countOutcome 0 = .ok (.aload_n 0, 1) := by decide +kernel
theorem dX4_countOutcome_1 : decode cX4_countOutcome 1 = .ok (.getfield 25, 3) := by decide +kernel
theorem dX4_countOutcome_4 : decode cX4_countOutcome 4 = .ok (.iload_n 1, 1) := by decide +kernel
theorem dX4_countOutcome_5 : decode cX4_countOutcome 5 = .ok (.iconst 3, 1) := by decide +kernel
theorem dX4_countOutcome_6 : decode cX4_countOutcome 6 = .ok (.imul, 1) := by decide +kernel
theorem dX4_countOutcome_7 : decode cX4_countOutcome 7 = .ok (.iload_n 2, 1) := by decide +kernel
theorem dX4_countOutcome_8 : decode cX4_countOutcome 8 = .ok (.iadd, 1) := by decide +kernel
theorem dX4_countOutcome_9 : decode cX4_countOutcome 9 = .ok (.aload_n 0, 1) := by decide +kernel
theorem dX4_countOutcome_10 : decode cX4_countOutcome 10 = .ok (.iload_n 1, 1) := by decide +kernel
theorem dX4_countOutcome_11 : decode cX4_countOutcome 11 = .ok (.iload_n 2, 1) := by decide +kernel
theorem dX4_countOutcome_12 : decode cX4_countOutcome 12 = .ok (.invokevirtual 48, 3) := by decide +kernel
theorem dX4_countOutcome_15 : decode cX4_countOutcome 15 = .ok (.iconst 1, 1) := by decide +kernel
theorem dX4_countOutcome_16 : decode cX4_countOutcome 16 = .ok (.iadd, 1) := by decide +kernel
theorem dX4_countOutcome_17 : decode cX4_countOutcome 17 = .ok (.invokestatic 52, 3) := by decide +kernel
theorem dX4_countOutcome_20 : decode cX4_countOutcome 20 = .ok (.return_, 1) := by decide +kernel
set_option maxRecDepth 20000 in
theorem ggX4_clearHand_X0_clearPlace : GoodIn wsX4_clearHand wsX0_clearPlace := goodIn_r _ [7, 8, 9, 10, 11, 12, 19, 20, 21, 22, 23] (by decide +kernel) (by decide +kernel)
set_option maxRecDepth 20000 in
theorem gX4_clearHand_X0_clearPlace : GoodIn wsX4_clearHand (wsV RX4 56 RX0 yX0_clearPlace wsX0_clearPlace) := goodIn_app (goodIn_of _ (by decide +kernel)) ggX4_clearHand_X0_clearPlace
theorem dX4_clearHand_0 : decode cX4_clearHand 0 = .ok (.aload_n 0, 1) := by decide +kernel
theorem dX4_clearHand_1 : decode cX4_clearHand 1 = .ok (.getfield 12, 3) := by decide +kernel
theorem dX4_clearHand_4 : decode cX4_clearHand 4 = .ok (.bipush 16, 2) := by decide +kernel
theorem dX4_clearHand_6 : decode cX4_clearHand 6 = .ok (.invokevirtual 56, 3) := by decide +kernel
theorem dX4_clearHand_9 : decode cX4_clearHand 9 = .ok (.aload_n 0, 1) := by decide +kernel
theorem dX4_clearHand_10 : decode cX4_clearHand 10 = .ok (.iconst 0, 1) := by decide +kernel
theorem dX4_clearHand_11 : decode cX4_clearHand 11 = .ok (.putfield 40, 3) := by decide +kernel
theorem dX4_clearHand_14 : decode cX4_clearHand 14 = .ok (.return_, 1) := by decide +kernel
theorem dX4_liftPen_0 : decode cX4_liftPen 0 = .ok (.aload_n 0, 1) := by decide +kernel
theorem dX4_liftPen_1 : decode cX4_liftPen 1 = .ok (.iconst 0, 1) := by decide +kernel
theorem dX4_liftPen_2 : decode cX4_liftPen 2 = .ok (.putfield 40, 3) := by decide +kernel
theorem dX4_liftPen_5 : decode cX4_liftPen 5 = .ok (.return_, 1) := by decide +kernel
set_option maxRecDepth 20000 in
theorem ggX4_addPoint_X6_isOnGrid : GoodIn wsX4_addPoint wsX6_isOnGrid := goodIn_r _ [5] (by decide +kernel) (by decide +kernel)
set_option maxRecDepth 20000 in
theorem gX4_addPoint_X6_isOnGrid_n60 : GoodIn wsX4_addPoint (wsX6_isOnGrid) := ggX4_addPoint_X6_isOnGrid
set_option maxRecDepth 20000 in
theorem ggX4_addPoint_X4_settingOf : GoodIn wsX4_addPoint wsX4_settingOf := goodIn_r _ [10, 11, 12, 4, 13, 71, 72, 73, 74, 75, 76] (by decide +kernel) (by decide +kernel)
set_option maxRecDepth 20000 in
theorem gX4_addPoint_X4_settingOf : GoodIn wsX4_addPoint (wsV RX4 64 RX4 yX4_settingOf wsX4_settingOf) := goodIn_app (goodIn_of _ (by decide +kernel)) ggX4_addPoint_X4_settingOf
set_option maxRecDepth 20000 in
theorem ggX4_addPoint_X0_extendStroke_p0 : GoodIn wsX4_addPoint [.code yX0_extendStroke cX0_extendStroke 7 (some .boolean)] := goodIn_r _ [18] (by decide +kernel) (by decide +kernel)
theorem ggX4_addPoint_X0_extendStroke_p1 : GoodIn wsX4_addPoint wsX0_extendStroke_r1 := goodIn_r _ [19, 20, 21, 22, 17, 23, 24, 12, 4, 13, 25, 26, 27, 28, 29, 30, 31, 32, 33, 34, 35, 36, 37, 38] (by decide +kernel) (by decide +kernel)
theorem ggX4_addPoint_X0_extendStroke_p2 : GoodIn wsX4_addPoint wsX0_extendStroke_r2 := goodIn_r _ [39, 40, 41, 42, 43, 44, 45, 46, 47, 48, 49, 50, 51, 52, 53, 54, 55, 56, 57, 58, 59, 60, 61, 62] (by decide +kernel) (by decide +kernel)
theorem ggX4_addPoint_X0_extendStroke_p3 : GoodIn wsX4_addPoint wsX0_extendStroke_r3 := goodIn_r _ [63, 64, 65, 66] (by decide +kernel) (by decide +kernel)
theorem ggX4_addPoint_X0_extendStroke_p4 : GoodIn wsX4_addPoint wsX00 := goodIn_r _ [77, 78, 79, 80, 81] (by decide +kernel) (by decide +kernel)
theorem ggX4_addPoint_X0_extendStroke : GoodIn wsX4_addPoint wsX0_extendStroke := (goodIn_c2 ggX4_addPoint_X0_extendStroke_p0 (goodIn_app (goodIn_app ggX4_addPoint_X0_extendStroke_p1 (goodIn_app ggX4_addPoint_X0_extendStroke_p2 ggX4_addPoint_X0_extendStroke_p3)) ggX4_addPoint_X0_extendStroke_p4))
set_option maxRecDepth 20000 in
theorem gX4_addPoint_X0_extendStroke : GoodIn wsX4_addPoint (wsV RX4 68 RX0 yX0_extendStroke wsX0_extendStroke) := goodIn_app (goodIn_of _ (by decide +kernel)) ggX4_addPoint_X0_extendStroke
set_option maxRecDepth 20000 in
theorem ggX4_addPoint_X0_beginStroke_p0 : GoodIn wsX4_addPoint [.code yX0_beginStroke cX0_beginStroke 5 (some .boolean)] := goodIn_r _ [70] (by decide +kernel) (by decide +kernel)
theorem ggX4_addPoint_X0_beginStroke_p1 : GoodIn wsX4_addPoint wsX0_beginStroke_r1 := goodIn_r _ [24, 19, 20, 21, 22, 17, 23, 12, 4, 13, 34, 35, 36, 37, 38, 49, 50, 51, 52, 53, 54, 33, 62, 63] (by decide +kernel) (by decide +kernel)
theorem ggX4_addPoint_X0_beginStroke_p2 : GoodIn wsX4_addPoint wsX0_beginStroke_r2 := goodIn_r _ [64, 65, 66] (by decide +kernel) (by decide +kernel)
theorem ggX4_addPoint_X0_beginStroke_p3 : GoodIn wsX4_addPoint wsX00 := goodIn_r _ [77, 78, 79, 80, 81] (by decide +kernel) (by decide +kernel)
theorem ggX4_addPoint_X0_beginStroke : GoodIn wsX4_addPoint wsX0_beginStroke := (goodIn_c2 ggX4_addPoint_X0_beginStroke_p0 (goodIn_app (goodIn_app ggX4_addPoint_X0_beginStroke_p1 ggX4_addPoint_X0_beginStroke_p2) ggX4_addPoint_X0_beginStroke_p3))
set_option maxRecDepth 20000 in
theorem gX4_addPoint_X0_beginStroke : GoodIn wsX4_addPoint (wsV RX4 72 RX0 yX0_beginStroke wsX0_beginStroke) := goodIn_app (goodIn_of _ (by decide +kernel)) ggX4_addPoint_X0_beginStroke
theorem dX4_addPoint_0 : decode cX4_addPoint 0 = .ok (.iload_n 1, 1) := by decide +kernel
theorem dX4_addPoint_1 : decode cX4_addPoint 1 = .ok (.invokestatic 60, 3) := by decide +kernel
theorem dX4_addPoint_4 : decode cX4_addPoint 4 = .ok (.ifCond .eq 10, 3) := by decide +kernel
theorem dX4_addPoint_7 : decode cX4_addPoint 7 = .ok (.iload_n 2, 1) := by decide +kernel
theorem dX4_addPoint_8 : decode cX4_addPoint 8 = .ok (.invokestatic 60, 3) := by decide +kernel
theorem dX4_addPoint_11 : decode cX4_addPoint 11 = .ok (.ifCond .ne 5, 3) := by decide +kernel
theorem dX4_addPoint_14 : decode cX4_addPoint 14 = .ok (.iconst 0, 1) := by decide +kernel
theorem dX4_addPoint_15 : decode cX4_addPoint 15 = .ok (.ireturn, 1) := by decide +kernel
theorem dX4_addPoint_16 : decode cX4_addPoint 16 = .ok (.iload_n 1, 1) := by decide +kernel
theorem dX4_addPoint_17 : decode cX4_addPoint 17 = .ok (.bipush 61, 2) := by decide +kernel
theorem dX4_addPoint_19 : decode cX4_addPoint 19 = .ok (.imul, 1) := by decide +kernel
theorem dX4_addPoint_20 : decode cX4_addPoint 20 = .ok (.iload_n 2, 1) := by decide +kernel
theorem dX4_addPoint_21 : decode cX4_addPoint 21 = .ok (.iadd, 1) := by decide +kernel
theorem dX4_addPoint_22 : decode cX4_addPoint 22 = .ok (.istore_n 3, 1) := by decide +kernel
theorem dX4_addPoint_23 : decode cX4_addPoint 23 = .ok (.aload_n 0, 1) := by decide +kernel
theorem dX4_addPoint_24 : decode cX4_addPoint 24 = .ok (.getfield 40, 3) := by decide +kernel
theorem dX4_addPoint_27 : decode cX4_addPoint 27 = .ok (.ifCond .eq 21, 3) := by decide +kernel
theorem dX4_addPoint_30 : decode cX4_addPoint 30 = .ok (.aload_n 0, 1) := by decide +kernel
theorem dX4_addPoint_31 : decode cX4_addPoint 31 = .ok (.getfield 12, 3) := by decide +kernel
theorem dX4_addPoint_34 : decode cX4_addPoint 34 = .ok (.bipush 16, 2) := by decide +kernel
theorem dX4_addPoint_36 : decode cX4_addPoint 36 = .ok (.iload_n 3, 1) := by decide +kernel
theorem dX4_addPoint_37 : decode cX4_addPoint 37 = .ok (.aload_n 0, 1) := by decide +kernel
theorem dX4_addPoint_38 : decode cX4_addPoint 38 = .ok (.iconst 0, 1) := by decide +kernel
theorem dX4_addPoint_39 : decode cX4_addPoint 39 = .ok (.invokevirtual 64, 3) := by decide +kernel
theorem dX4_addPoint_42 : decode cX4_addPoint 42 = .ok (.invokevirtual 68, 3) := by decide +kernel
theorem dX4_addPoint_45 : decode cX4_addPoint 45 = .ok (.goto 13, 3) := by decide +kernel
theorem dX4_addPoint_48 : decode cX4_addPoint 48 = .ok (.aload_n 0, 1) := by decide +kernel
theorem dX4_addPoint_49 : decode cX4_addPoint 49 = .ok (.getfield 12, 3) := by decide +kernel
theorem dX4_addPoint_52 : decode cX4_addPoint 52 = .ok (.bipush 16, 2) := by decide +kernel
theorem dX4_addPoint_54 : decode cX4_addPoint 54 = .ok (.iload_n 3, 1) := by decide +kernel
theorem dX4_addPoint_55 : decode cX4_addPoint 55 = .ok (.invokevirtual 72, 3) := by decide +kernel
theorem dX4_addPoint_58 : decode cX4_addPoint 58 = .ok (.istore 4, 2) := by decide +kernel
theorem dX4_addPoint_60 : decode cX4_addPoint 60 = .ok (.aload_n 0, 1) := by decide +kernel
theorem dX4_addPoint_61 : decode cX4_addPoint 61 = .ok (.aload_n 0, 1) := by decide +kernel
theorem dX4_addPoint_62 : decode cX4_addPoint 62 = .ok (.getfield 40, 3) := by decide +kernel
theorem dX4_addPoint_65 : decode cX4_addPoint 65 = .ok (.ifCond .ne 8, 3) := by decide +kernel
theorem dX4_addPoint_68 : decode cX4_addPoint 68 = .ok (.iload 4, 2) := by decide +kernel
theorem dX4_addPoint_70 : decode cX4_addPoint 70 = .ok (.ifCond .eq 7, 3) := by decide +kernel
theorem dX4_addPoint_73 : decode cX4_addPoint 73 = .ok (.iconst 1, 1) := by decide +kernel
theorem dX4_addPoint_74 : decode cX4_addPoint 74 = .ok (.goto 4, 3) := by decide +kernel
theorem dX4_addPoint_77 : decode cX4_addPoint 77 = .ok (.iconst 0, 1) := by decide +kernel
theorem dX4_addPoint_78 : decode cX4_addPoint 78 = .ok (.putfield 40, 3) := by decide +kernel
theorem dX4_addPoint_81 : decode cX4_addPoint 81 = .ok (.iload 4, 2) := by decide +kernel
theorem dX4_addPoint_83 : decode cX4_addPoint 83 = .ok (.ireturn, 1) := by decide +kernel
set_option maxRecDepth 20000 in
theorem ggX4_keepHand_X0_strokesOf : GoodIn wsX4_keepHand wsX0_strokesOf := goodIn_r _ [8, 9, 10, 11, 12, 65, 66, 67, 68, 69] (by decide +kernel) (by decide +kernel)
set_option maxRecDepth 20000 in
theorem gX4_keepHand_X0_strokesOf : GoodIn wsX4_keepHand (wsV RX4 76 RX0 yX0_strokesOf wsX0_strokesOf) := goodIn_app (goodIn_of _ (by decide +kernel)) ggX4_keepHand_X0_strokesOf
set_option maxRecDepth 20000 in
theorem ggX4_keepHand_X4_isTaken_p0 : GoodIn wsX4_keepHand [.code yX4_isTaken cX4_isTaken 3 (some .boolean)] := goodIn_r _ [17] (by decide +kernel) (by decide +kernel)
theorem ggX4_keepHand_X4_isTaken_p1 : GoodIn wsX4_keepHand wsX4_isTaken_r1 := goodIn_r _ [2, 18, 19, 20, 16, 21, 3, 10, 11, 12, 22, 23, 24, 25, 1, 26, 27, 28, 7, 29, 30, 31, 32, 33] (by decide +kernel) (by decide +kernel)
theorem ggX4_keepHand_X4_isTaken_p2 : GoodIn wsX4_keepHand wsX4_isTaken_r2 := goodIn_r _ [34, 35] (by decide +kernel) (by decide +kernel)
theorem ggX4_keepHand_X4_isTaken_p3 : GoodIn wsX4_keepHand wsX40 := goodIn_r _ [59, 60, 61, 62, 63, 64] (by decide +kernel) (by decide +kernel)
theorem ggX4_keepHand_X4_isTaken_p4 : GoodIn wsX4_keepHand wsX00 := goodIn_r _ [65, 66, 67, 68, 69] (by decide +kernel) (by decide +kernel)
theorem ggX4_keepHand_X4_isTaken : GoodIn wsX4_keepHand wsX4_isTaken := (goodIn_c2 ggX4_keepHand_X4_isTaken_p0 (goodIn_app (goodIn_app (goodIn_app ggX4_keepHand_X4_isTaken_p1 ggX4_keepHand_X4_isTaken_p2) ggX4_keepHand_X4_isTaken_p3) ggX4_keepHand_X4_isTaken_p4))
set_option maxRecDepth 20000 in
theorem gX4_keepHand_X4_isTaken : GoodIn wsX4_keepHand (wsV RX4 79 RX4 yX4_isTaken wsX4_isTaken) := goodIn_app (goodIn_of _ (by decide +kernel)) ggX4_keepHand_X4_isTaken
set_option maxRecDepth 20000 in
theorem ggX4_keepHand_X0_copyPlace : GoodIn wsX4_keepHand wsX0_copyPlace := goodIn_r _ [39, 9, 40, 41, 30, 35, 42, 11, 43, 44, 45, 46, 47, 65, 66, 67, 68, 69] (by decide +kernel) (by decide +kernel)
set_option maxRecDepth 20000 in
theorem gX4_keepHand_X0_copyPlace : GoodIn wsX4_keepHand (wsV RX4 82 RX0 yX0_copyPlace wsX0_copyPlace) := goodIn_app (goodIn_of _ (by decide +kernel)) ggX4_keepHand_X0_copyPlace
set_option maxRecDepth 20000 in
theorem ggX4_keepHand_X6_putCell : GoodIn wsX4_keepHand wsX6_putCell := goodIn_r _ [49] (by decide +kernel) (by decide +kernel)
set_option maxRecDepth 20000 in
theorem gX4_keepHand_X6_putCell_n52 : GoodIn wsX4_keepHand (wsX6_putCell) := ggX4_keepHand_X6_putCell
set_option maxRecDepth 20000 in
theorem ggX4_keepHand_X4_clearHand : GoodIn wsX4_keepHand wsX4_clearHand := goodIn_r _ [53, 1, 54, 55, 56, 57, 7, 58, 9, 30, 48, 11, 49, 59, 60, 61, 62, 63, 64, 65, 66, 67, 68, 69] (by decide +kernel) (by decide +kernel)
set_option maxRecDepth 20000 in
theorem gX4_keepHand_X4_clearHand : GoodIn wsX4_keepHand (wsV RX4 86 RX4 yX4_clearHand wsX4_clearHand) := goodIn_app (goodIn_of _ (by decide +kernel)) ggX4_keepHand_X4_clearHand
theorem dX4_keepHand_0 : decode cX4_keepHand 0 = .ok (.aload_n 0, 1) := by decide +kernel
theorem dX4_keepHand_1 : decode cX4_keepHand 1 = .ok (.getfield 12, 3) := by decide +kernel
theorem dX4_keepHand_4 : decode cX4_keepHand 4 = .ok (.bipush 16, 2) := by decide +kernel
theorem dX4_keepHand_6 : decode cX4_keepHand 6 = .ok (.invokevirtual 76, 3) := by decide +kernel
theorem dX4_keepHand_9 : decode cX4_keepHand 9 = .ok (.ifCond .eq 20, 3) := by decide +kernel
theorem dX4_keepHand_12 : decode cX4_keepHand 12 = .ok (.aload_n 0, 1) := by decide +kernel
theorem dX4_keepHand_13 : decode cX4_keepHand 13 = .ok (.getfield 36, 3) := by decide +kernel
theorem dX4_keepHand_16 : decode cX4_keepHand 16 = .ok (.bipush 16, 2) := by decide +kernel
theorem dX4_keepHand_18 : decode cX4_keepHand 18 = .ok (.if_icmp .ge 11, 3) := by decide +kernel
theorem dX4_keepHand_21 : decode cX4_keepHand 21 = .ok (.aload_n 0, 1) := by decide +kernel
theorem dX4_keepHand_22 : decode cX4_keepHand 22 = .ok (.iload_n 1, 1) := by decide +kernel
theorem dX4_keepHand_23 : decode cX4_keepHand 23 = .ok (.invokevirtual 79, 3) := by decide +kernel
theorem dX4_keepHand_26 : decode cX4_keepHand 26 = .ok (.ifCond .eq 5, 3) := by decide +kernel
theorem dX4_keepHand_29 : decode cX4_keepHand 29 = .ok (.iconst 0, 1) := by decide +kernel
theorem dX4_keepHand_30 : decode cX4_keepHand 30 = .ok (.ireturn, 1) := by decide +kernel
theorem dX4_keepHand_31 : decode cX4_keepHand 31 = .ok (.aload_n 0, 1) := by decide +kernel
theorem dX4_keepHand_32 : decode cX4_keepHand 32 = .ok (.getfield 12, 3) := by decide +kernel
theorem dX4_keepHand_35 : decode cX4_keepHand 35 = .ok (.bipush 16, 2) := by decide +kernel
theorem dX4_keepHand_37 : decode cX4_keepHand 37 = .ok (.aload_n 0, 1) := by decide +kernel
theorem dX4_keepHand_38 : decode cX4_keepHand 38 = .ok (.getfield 36, 3) := by decide +kernel
theorem dX4_keepHand_41 : decode cX4_keepHand 41 = .ok (.invokevirtual 82, 3) := by decide +kernel
theorem dX4_keepHand_44 : decode cX4_keepHand 44 = .ok (.aload_n 0, 1) := by decide +kernel
theorem dX4_keepHand_45 : decode cX4_keepHand 45 = .ok (.getfield 18, 3) := by decide +kernel
theorem dX4_keepHand_48 : decode cX4_keepHand 48 = .ok (.aload_n 0, 1) := by decide +kernel
theorem dX4_keepHand_49 : decode cX4_keepHand 49 = .ok (.getfield 36, 3) := by decide +kernel
theorem dX4_keepHand_52 : decode cX4_keepHand 52 = .ok (.iload_n 1, 1) := by decide +kernel
theorem dX4_keepHand_53 : decode cX4_keepHand 53 = .ok (.invokestatic 52, 3) := by decide +kernel
theorem dX4_keepHand_56 : decode cX4_keepHand 56 = .ok (.aload_n 0, 1) := by decide +kernel
theorem dX4_keepHand_57 : decode cX4_keepHand 57 = .ok (.dup, 1) := by decide +kernel
theorem dX4_keepHand_58 : decode cX4_keepHand 58 = .ok (.getfield 36, 3) := by decide +kernel
theorem dX4_keepHand_61 : decode cX4_keepHand 61 = .ok (.iconst 1, 1) := by decide +kernel
theorem dX4_keepHand_62 : decode cX4_keepHand 62 = .ok (.iadd, 1) := by decide +kernel
theorem dX4_keepHand_63 : decode cX4_keepHand 63 = .ok (.putfield 36, 3) := by decide +kernel
theorem dX4_keepHand_66 : decode cX4_keepHand 66 = .ok (.aload_n 0, 1) := by decide +kernel
theorem dX4_keepHand_67 : decode cX4_keepHand 67 = .ok (.invokevirtual 86, 3) := by decide +kernel
theorem dX4_keepHand_70 : decode cX4_keepHand 70 = .ok (.iconst 1, 1) := by decide +kernel
theorem dX4_keepHand_71 : decode cX4_keepHand 71 = .ok (.ireturn, 1) := by decide +kernel
set_option maxRecDepth 20000 in
theorem ggX4_isTaken_X4_nameOf : GoodIn wsX4_isTaken wsX4_nameOf := goodIn_r _ [6, 7, 8, 9, 10, 27, 28, 29, 30, 31, 32] (by decide +kernel) (by decide +kernel)
set_option maxRecDepth 20000 in
theorem gX4_isTaken_X4_nameOf : GoodIn wsX4_isTaken (wsV RX4 89 RX4 yX4_nameOf wsX4_nameOf) := goodIn_app (goodIn_of _ (by decide +kernel)) ggX4_isTaken_X4_nameOf
set_option maxRecDepth 20000 in
theorem ggX4_isTaken_X4_isSignedLikeHand : GoodIn wsX4_isTaken wsX4_isSignedLikeHand := goodIn_r _ [14, 15, 16, 17, 18, 19, 20, 21, 8, 9, 10, 22, 23, 24, 25, 26, 27, 28, 29, 30, 31, 32, 33, 34, 35, 36, 37] (by decide +kernel) (by decide +kernel)
set_option maxRecDepth 20000 in
theorem gX4_isTaken_X4_isSignedLikeHand : GoodIn wsX4_isTaken (wsV RX4 92 RX4 yX4_isSignedLikeHand wsX4_isSignedLikeHand) := goodIn_app (goodIn_of _ (by decide +kernel)) ggX4_isTaken_X4_isSignedLikeHand
theorem dX4_isTaken_0 : decode cX4_isTaken 0 = .ok (.iconst 0, 1) := by decide +kernel
theorem dX4_isTaken_1 : decode cX4_isTaken 1 = .ok (.istore_n 2, 1) := by decide +kernel
theorem dX4_isTaken_2 : decode cX4_isTaken 2 = .ok (.iload_n 2, 1) := by decide +kernel
theorem dX4_isTaken_3 : decode cX4_isTaken 3 = .ok (.aload_n 0, 1) := by decide +kernel
theorem dX4_isTaken_4 : decode cX4_isTaken 4 = .ok (.getfield 36, 3) := by decide +kernel
theorem dX4_isTaken_7 : decode cX4_isTaken 7 = .ok (.if_icmp .ge 28, 3) := by decide +kernel
theorem dX4_isTaken_10 : decode cX4_isTaken 10 = .ok (.aload_n 0, 1) := by decide +kernel
theorem dX4_isTaken_11 : decode cX4_isTaken 11 = .ok (.iload_n 2, 1) := by decide +kernel
theorem dX4_isTaken_12 : decode cX4_isTaken 12 = .ok (.invokevirtual 89, 3) := by decide +kernel
theorem dX4_isTaken_15 : decode cX4_isTaken 15 = .ok (.iload_n 1, 1) := by decide +kernel
theorem dX4_isTaken_16 : decode cX4_isTaken 16 = .ok (.if_icmp .eq 13, 3) := by decide +kernel
theorem dX4_isTaken_19 : decode cX4_isTaken 19 = .ok (.aload_n 0, 1) := by decide +kernel
theorem dX4_isTaken_20 : decode cX4_isTaken 20 = .ok (.iload_n 2, 1) := by decide +kernel
theorem dX4_isTaken_21 : decode cX4_isTaken 21 = .ok (.invokevirtual 92, 3) := by decide +kernel
theorem dX4_isTaken_24 : decode cX4_isTaken 24 = .ok (.ifCond .eq 5, 3) := by decide +kernel
theorem dX4_isTaken_27 : decode cX4_isTaken 27 = .ok (.iconst 1, 1) := by decide +kernel
theorem dX4_isTaken_28 : decode cX4_isTaken 28 = .ok (.ireturn, 1) := by decide +kernel
theorem dX4_isTaken_29 : decode cX4_isTaken 29 = .ok (.iinc 2 1, 3) := by decide +kernel
theorem dX4_isTaken_32 : decode cX4_isTaken 32 = .ok (.goto (-30), 3) := by decide +kernel
theorem dX4_isTaken_35 : decode cX4_isTaken 35 = .ok (.iconst 0, 1) := by decide +kernel
theorem dX4_isTaken_36 : decode cX4_isTaken 36 = .ok (.ireturn, 1) := by decide +kernel
set_option maxRecDepth 20000 in
theorem ggX4_isSignedLikeHand_X0_signsOf : GoodIn wsX4_isSignedLikeHand wsX0_signsOf := goodIn_r _ [6, 7, 8, 9, 10, 22, 23, 24, 25, 26] (by decide +kernel) (by decide +kernel)
set_option maxRecDepth 20000 in
theorem gX4_isSignedLikeHand_X0_signsOf : GoodIn wsX4_isSignedLikeHand (wsV RX4 95 RX0 yX0_signsOf wsX0_signsOf) := goodIn_app (goodIn_of _ (by decide +kernel)) ggX4_isSignedLikeHand_X0_signsOf
set_option maxRecDepth 20000 in
theorem ggX4_isSignedLikeHand_X0_signAt : GoodIn wsX4_isSignedLikeHand wsX0_signAt := goodIn_r _ [14, 7, 15, 8, 9, 10, 22, 23, 24, 25, 26] (by decide +kernel) (by decide +kernel)
set_option maxRecDepth 20000 in
theorem gX4_isSignedLikeHand_X0_signAt : GoodIn wsX4_isSignedLikeHand (wsV RX4 98 RX0 yX0_signAt wsX0_signAt) := goodIn_app (goodIn_of _ (by decide +kernel)) ggX4_isSignedLikeHand_X0_signAt
theorem dX4_isSignedLikeHand_0 : decode cX4_isSignedLikeHand 0 = .ok (.aload_n 0, 1) := by decide +kernel
theorem dX4_isSignedLikeHand_1 : decode cX4_isSignedLikeHand 1 = .ok (.getfield 12, 3) := by decide +kernel
theorem dX4_isSignedLikeHand_4 : decode cX4_isSignedLikeHand 4 = .ok (.bipush 16, 2) := by decide +kernel
theorem dX4_isSignedLikeHand_6 : decode cX4_isSignedLikeHand 6 = .ok (.invokevirtual 95, 3) := by decide +kernel
theorem dX4_isSignedLikeHand_9 : decode cX4_isSignedLikeHand 9 = .ok (.istore_n 2, 1) := by decide +kernel
theorem dX4_isSignedLikeHand_10 : decode cX4_isSignedLikeHand 10 = .ok (.aload_n 0, 1) := by decide +kernel
theorem dX4_isSignedLikeHand_11 : decode cX4_isSignedLikeHand 11 = .ok (.getfield 12, 3) := by decide +kernel
theorem dX4_isSignedLikeHand_14 : decode cX4_isSignedLikeHand 14 = .ok (.iload_n 1, 1) := by decide +kernel
theorem dX4_isSignedLikeHand_15 : decode cX4_isSignedLikeHand 15 = .ok (.invokevirtual 95, 3) := by decide +kernel
theorem dX4_isSignedLikeHand_18 : decode cX4_isSignedLikeHand 18 = .ok (.iload_n 2, 1) := by decide +kernel
theorem dX4_isSignedLikeHand_19 : decode cX4_isSignedLikeHand 19 = .ok (.if_icmp .ne 7, 3) := by decide +kernel
theorem dX4_isSignedLikeHand_22 : decode cX4_isSignedLikeHand 22 = .ok (.iconst 1, 1) := by decide +kernel
theorem dX4_isSignedLikeHand_23 : decode cX4_isSignedLikeHand 23 = .ok (.goto 4, 3) := by decide +kernel
theorem dX4_isSignedLikeHand_26 : decode cX4_isSignedLikeHand 26 = .ok (.iconst 0, 1) := by decide +kernel
theorem dX4_isSignedLikeHand_27 : decode cX4_isSignedLikeHand 27 = .ok (.istore_n 3, 1) := by decide +kernel
theorem dX4_isSignedLikeHand_28 : decode cX4_isSignedLikeHand 28 = .ok (.iconst 0, 1) := by decide +kernel
theorem dX4_isSignedLikeHand_29 : decode cX4_isSignedLikeHand 29 = .ok (.istore 4, 2) := by decide +kernel
theorem dX4_isSignedLikeHand_31 : decode cX4_isSignedLikeHand 31 = .ok (.iload 4, 2) := by decide +kernel
theorem dX4_isSignedLikeHand_33 : decode cX4_isSignedLikeHand 33 = .ok (.iload_n 2, 1) := by decide +kernel
theorem dX4_isSignedLikeHand_34 : decode cX4_isSignedLikeHand 34 = .ok (.if_icmp .ge 43, 3) := by decide +kernel
theorem dX4_isSignedLikeHand_37 : decode cX4_isSignedLikeHand 37 = .ok (.iload_n 3, 1) := by decide +kernel
theorem dX4_isSignedLikeHand_38 : decode cX4_isSignedLikeHand 38 = .ok (.ifCond .eq 39, 3) := by decide +kernel
theorem dX4_isSignedLikeHand_41 : decode cX4_isSignedLikeHand 41 = .ok (.aload_n 0, 1) := by decide +kernel
theorem dX4_isSignedLikeHand_42 : decode cX4_isSignedLikeHand 42 = .ok (.getfield 12, 3) := by decide +kernel
theorem dX4_isSignedLikeHand_45 : decode cX4_isSignedLikeHand 45 = .ok (.iload_n 1, 1) := by decide +kernel
theorem dX4_isSignedLikeHand_46 : decode cX4_isSignedLikeHand 46 = .ok (.iload 4, 2) := by decide +kernel
theorem dX4_isSignedLikeHand_48 : decode cX4_isSignedLikeHand 48 = .ok (.invokevirtual 98, 3) := by decide +kernel
theorem dX4_isSignedLikeHand_51 : decode cX4_isSignedLikeHand 51 = .ok (.aload_n 0, 1) := by decide +kernel
theorem dX4_isSignedLikeHand_52 : decode cX4_isSignedLikeHand 52 = .ok (.getfield 12, 3) := by decide +kernel
theorem dX4_isSignedLikeHand_55 : decode cX4_isSignedLikeHand 55 = .ok (.bipush 16, 2) := by decide +kernel
theorem dX4_isSignedLikeHand_57 : decode cX4_isSignedLikeHand 57 = .ok (.iload 4, 2) := by decide +kernel
theorem dX4_isSignedLikeHand_59 : decode cX4_isSignedLikeHand 59 = .ok (.invokevirtual 98, 3) := by decide +kernel
theorem dX4_isSignedLikeHand_62 : decode cX4_isSignedLikeHand 62 = .ok (.if_icmp .ne 7, 3) := by decide +kernel
theorem dX4_isSignedLikeHand_65 : decode cX4_isSignedLikeHand 65 = .ok (.iconst 1, 1) := by decide +kernel
theorem dX4_isSignedLikeHand_66 : decode cX4_isSignedLikeHand 66 = .ok (.goto 4, 3) := by decide +kernel
theorem dX4_isSignedLikeHand_69 : decode cX4_isSignedLikeHand 69 = .ok (.iconst 0, 1) := by decide +kernel
theorem dX4_isSignedLikeHand_70 : decode cX4_isSignedLikeHand 70 = .ok (.istore_n 3, 1) := by decide +kernel
theorem dX4_isSignedLikeHand_71 : decode cX4_isSignedLikeHand 71 = .ok (.iinc 4 1, 3) := by decide +kernel
theorem dX4_isSignedLikeHand_74 : decode cX4_isSignedLikeHand 74 = .ok (.goto (-43), 3) := by decide +kernel
theorem dX4_isSignedLikeHand_77 : decode cX4_isSignedLikeHand 77 = .ok (.iload_n 3, 1) := by decide +kernel
theorem dX4_isSignedLikeHand_78 : decode cX4_isSignedLikeHand 78 = .ok (.ireturn, 1) := by decide +kernel
set_option maxRecDepth 20000 in
theorem ggX4_dropSample_X4_hasSample : GoodIn wsX4_dropSample wsX4_hasSample := goodIn_r _ [8, 1, 34, 35, 36, 37, 38, 39] (by decide +kernel) (by decide +kernel)
set_option maxRecDepth 20000 in
theorem gX4_dropSample_X4_hasSample : GoodIn wsX4_dropSample (wsV RX4 101 RX4 yX4_hasSample wsX4_hasSample) := goodIn_app (goodIn_of _ (by decide +kernel)) ggX4_dropSample_X4_hasSample
set_option maxRecDepth 20000 in
theorem ggX4_dropSample_X0_copyPlace : GoodIn wsX4_dropSample wsX0_copyPlace := goodIn_r _ [13, 14, 15, 16, 17, 18, 19, 20, 21, 22, 23, 24, 25, 40, 41, 42, 43, 44] (by decide +kernel) (by decide +kernel)
set_option maxRecDepth 20000 in
theorem gX4_dropSample_X0_copyPlace : GoodIn wsX4_dropSample (wsV RX4 82 RX0 yX0_copyPlace wsX0_copyPlace) := goodIn_app (goodIn_of _ (by decide +kernel)) ggX4_dropSample_X0_copyPlace
set_option maxRecDepth 20000 in
theorem ggX4_dropSample_X4_nameOf : GoodIn wsX4_dropSample wsX4_nameOf := goodIn_r _ [29, 3, 30, 20, 31, 34, 35, 36, 37, 38, 39] (by decide +kernel) (by decide +kernel)
set_option maxRecDepth 20000 in
theorem gX4_dropSample_X4_nameOf : GoodIn wsX4_dropSample (wsV RX4 89 RX4 yX4_nameOf wsX4_nameOf) := goodIn_app (goodIn_of _ (by decide +kernel)) ggX4_dropSample_X4_nameOf
set_option maxRecDepth 20000 in
theorem ggX4_dropSample_X6_putCell : GoodIn wsX4_dropSample wsX6_putCell := goodIn_r _ [33] (by decide +kernel) (by decide +kernel)
set_option maxRecDepth 20000 in
theorem gX4_dropSample_X6_putCell_n52 : GoodIn wsX4_dropSample (wsX6_putCell) := ggX4_dropSample_X6_putCell
theorem dX4_dropSample_0 : decode cX4_dropSample 0 = .ok (.aload_n 0, 1) := by decide +kernel
theorem dX4_dropSample_1 : decode cX4_dropSample 1 = .ok (.iload_n 1, 1) := by decide +kernel
theorem dX4_dropSample_2 : decode cX4_dropSample 2 = .ok (.invokevirtual 101, 3) := by decide +kernel
theorem dX4_dropSample_5 : decode cX4_dropSample 5 = .ok (.ifCond .ne 5, 3) := by decide +kernel
theorem dX4_dropSample_8 : decode cX4_dropSample 8 = .ok (.iconst 0, 1) := by decide +kernel
theorem dX4_dropSample_9 : decode cX4_dropSample 9 = .ok (.ireturn, 1) := by decide +kernel
theorem dX4_dropSample_10 : decode cX4_dropSample 10 = .ok (.iload_n 1, 1) := by decide +kernel
theorem dX4_dropSample_11 : decode cX4_dropSample 11 = .ok (.iconst 1, 1) := by decide +kernel
theorem dX4_dropSample_12 : decode cX4_dropSample 12 = .ok (.iadd, 1) := by decide +kernel
theorem dX4_dropSample_13 : decode cX4_dropSample 13 = .ok (.istore_n 2, 1) := by decide +kernel
theorem dX4_dropSample_14 : decode cX4_dropSample 14 = .ok (.iload_n 2, 1) := by decide +kernel
theorem dX4_dropSample_15 : decode cX4_dropSample 15 = .ok (.aload_n 0, 1) := by decide +kernel
theorem dX4_dropSample_16 : decode cX4_dropSample 16 = .ok (.getfield 36, 3) := by decide +kernel
theorem dX4_dropSample_19 : decode cX4_dropSample 19 = .ok (.if_icmp .ge 35, 3) := by decide +kernel
theorem dX4_dropSample_22 : decode cX4_dropSample 22 = .ok (.aload_n 0, 1) := by decide +kernel
theorem dX4_dropSample_23 : decode cX4_dropSample 23 = .ok (.getfield 12, 3) := by decide +kernel
theorem dX4_dropSample_26 : decode cX4_dropSample 26 = .ok (.iload_n 2, 1) := by decide +kernel
theorem dX4_dropSample_27 : decode cX4_dropSample 27 = .ok (.iload_n 2, 1) := by decide +kernel
theorem dX4_dropSample_28 : decode cX4_dropSample 28 = .ok (.iconst 1, 1) := by decide +kernel
theorem dX4_dropSample_29 : decode cX4_dropSample 29 = .ok (.isub, 1) := by decide +kernel
theorem dX4_dropSample_30 : decode cX4_dropSample 30 = .ok (.invokevirtual 82, 3) := by decide +kernel
theorem dX4_dropSample_33 : decode cX4_dropSample 33 = .ok (.aload_n 0, 1) := by decide +kernel
theorem dX4_dropSample_34 : decode cX4_dropSample 34 = .ok (.getfield 18, 3) := by decide +kernel
theorem dX4_dropSample_37 : decode cX4_dropSample 37 = .ok (.iload_n 2, 1) := by decide +kernel
theorem dX4_dropSample_38 : decode cX4_dropSample 38 = .ok (.iconst 1, 1) := by decide +kernel
theorem dX4_dropSample_39 : decode cX4_dropSample 39 = .ok (.isub, 1) := by decide +kernel
theorem dX4_dropSample_40 : decode cX4_dropSample 40 = .ok (.aload_n 0, 1) := by decide +kernel
theorem dX4_dropSample_41 : decode cX4_dropSample 41 = .ok (.iload_n 2, 1) := by decide +kernel
theorem dX4_dropSample_42 : decode cX4_dropSample 42 = .ok (.invokevirtual 89, 3) := by decide +kernel
theorem dX4_dropSample_45 : decode cX4_dropSample 45 = .ok (.invokestatic 52, 3) := by decide +kernel
theorem dX4_dropSample_48 : decode cX4_dropSample 48 = .ok (.iinc 2 1, 3) := by decide +kernel
theorem dX4_dropSample_51 : decode cX4_dropSample 51 = .ok (.goto (-37), 3) := by decide +kernel
theorem dX4_dropSample_54 : decode cX4_dropSample 54 = .ok (.aload_n 0, 1) := by decide +kernel
theorem dX4_dropSample_55 : decode cX4_dropSample 55 = .ok (.dup, 1) := by decide +kernel
theorem dX4_dropSample_56 : decode cX4_dropSample 56 = .ok (.getfield 36, 3) := by decide +kernel
theorem dX4_dropSample_59 : decode cX4_dropSample 59 = .ok (.iconst 1, 1) := by decide +kernel
theorem dX4_dropSample_60 : decode cX4_dropSample 60 = .ok (.isub, 1) := by decide +kernel
theorem dX4_dropSample_61 : decode cX4_dropSample 61 = .ok (.putfield 36, 3) := by decide +kernel
theorem dX4_dropSample_64 : decode cX4_dropSample 64 = .ok (.iconst 1, 1) := by decide +kernel
theorem dX4_dropSample_65 : decode cX4_dropSample 65 = .ok (.ireturn, 1) := by decide +kernel
set_option maxRecDepth 20000 in
theorem ggX4_changeSetting_X4_takesRuling_p0 : GoodIn wsX4_changeSetting [.code yX4_takesRuling cX4_takesRuling 4 (some .boolean)] := goodIn_r _ [8] (by decide +kernel) (by decide +kernel)
theorem ggX4_changeSetting_X4_takesRuling_p1 : GoodIn wsX4_changeSetting wsX4_takesRuling_r1 := goodIn_r _ [3, 2, 9, 10, 11, 12, 13, 14, 15, 16, 17, 18, 19, 20, 21, 22, 23, 24, 25, 26, 27, 28, 29, 30] (by decide +kernel) (by decide +kernel)
theorem ggX4_changeSetting_X4_takesRuling_p2 : GoodIn wsX4_changeSetting wsX4_takesRuling_r2 := goodIn_r _ [31, 32, 33, 34, 35, 36, 37, 38, 39, 40, 41, 42, 43, 44] (by decide +kernel) (by decide +kernel)
theorem ggX4_changeSetting_X4_takesRuling_p3 : GoodIn wsX4_changeSetting wsX40 := goodIn_r _ [68, 69, 70, 71, 72, 73] (by decide +kernel) (by decide +kernel)
theorem ggX4_changeSetting_X4_takesRuling_p4 : GoodIn wsX4_changeSetting wsX00 := goodIn_r _ [74, 75, 76, 77, 78] (by decide +kernel) (by decide +kernel)
theorem ggX4_changeSetting_X4_takesRuling : GoodIn wsX4_changeSetting wsX4_takesRuling := (goodIn_c2 ggX4_changeSetting_X4_takesRuling_p0 (goodIn_app (goodIn_app (goodIn_app ggX4_changeSetting_X4_takesRuling_p1 ggX4_changeSetting_X4_takesRuling_p2) ggX4_changeSetting_X4_takesRuling_p3) ggX4_changeSetting_X4_takesRuling_p4))
set_option maxRecDepth 20000 in
theorem gX4_changeSetting_X4_takesRuling : GoodIn wsX4_changeSetting (wsV RX4 104 RX4 yX4_takesRuling wsX4_takesRuling) := goodIn_app (goodIn_of _ (by decide +kernel)) ggX4_changeSetting_X4_takesRuling
set_option maxRecDepth 20000 in
theorem ggX4_changeSetting_X6_putCell : GoodIn wsX4_changeSetting wsX6_putCell := goodIn_r _ [46] (by decide +kernel) (by decide +kernel)
set_option maxRecDepth 20000 in
theorem gX4_changeSetting_X6_putCell_n52 : GoodIn wsX4_changeSetting (wsX6_putCell) := ggX4_changeSetting_X6_putCell
set_option maxRecDepth 20000 in
theorem ggX4_changeSetting_X0_writeSigns_p0 : GoodIn wsX4_changeSetting [.code yX0_writeSigns cX0_writeSigns 6 none] := goodIn_r _ [50] (by decide +kernel) (by decide +kernel)
theorem ggX4_changeSetting_X0_writeSigns_p1 : GoodIn wsX4_changeSetting wsX0_writeSigns_r1 := goodIn_r _ [51, 45, 24, 46, 18, 19, 20, 12, 21, 22, 23, 25, 52, 53, 54, 55, 56, 57, 58, 59, 60, 26, 27, 28] (by decide +kernel) (by decide +kernel)
theorem ggX4_changeSetting_X0_writeSigns_p2 : GoodIn wsX4_changeSetting wsX0_writeSigns_r2 := goodIn_r _ [29, 30, 31, 32, 33, 34, 35, 61, 62, 63, 64, 42, 43, 16, 44, 39, 40, 41, 65, 66, 67] (by decide +kernel) (by decide +kernel)
theorem ggX4_changeSetting_X0_writeSigns_p3 : GoodIn wsX4_changeSetting wsX00 := goodIn_r _ [74, 75, 76, 77, 78] (by decide +kernel) (by decide +kernel)
theorem ggX4_changeSetting_X0_writeSigns : GoodIn wsX4_changeSetting wsX0_writeSigns := (goodIn_c2 ggX4_changeSetting_X0_writeSigns_p0 (goodIn_app (goodIn_app ggX4_changeSetting_X0_writeSigns_p1 ggX4_changeSetting_X0_writeSigns_p2) ggX4_changeSetting_X0_writeSigns_p3))
set_option maxRecDepth 20000 in
theorem gX4_changeSetting_X0_writeSigns : GoodIn wsX4_changeSetting (wsV RX4 107 RX0 yX0_writeSigns wsX0_writeSigns) := goodIn_app (goodIn_of _ (by decide +kernel)) ggX4_changeSetting_X0_writeSigns
theorem dX4_changeSetting_0 : decode cX4_changeSetting 0 = .ok (.iload_n 1, 1) := by decide +kernel
theorem dX4_changeSetting_1 : decode cX4_changeSetting 1 = .ok (.ifCond .ne 13, 3) := by decide +kernel
theorem dX4_changeSetting_4 : decode cX4_changeSetting 4 = .ok (.aload_n 0, 1) := by decide +kernel
theorem dX4_changeSetting_5 : decode cX4_changeSetting 5 = .ok (.iload_n 2, 1) := by decide +kernel
theorem dX4_changeSetting_6 : decode cX4_changeSetting 6 = .ok (.invokevirtual 104, 3) := by decide +kernel
theorem dX4_changeSetting_9 : decode cX4_changeSetting 9 = .ok (.ifCond .ne 5, 3) := by decide +kernel
theorem dX4_changeSetting_12 : decode cX4_changeSetting 12 = .ok (.iconst 0, 1) := by decide +kernel
theorem dX4_changeSetting_13 : decode cX4_changeSetting 13 = .ok (.ireturn, 1) := by decide +kernel
theorem dX4_changeSetting_14 : decode cX4_changeSetting 14 = .ok (.aload_n 0, 1) := by decide +kernel
theorem dX4_changeSetting_15 : decode cX4_changeSetting 15 = .ok (.getfield 22, 3) := by decide +kernel
theorem dX4_changeSetting_18 : decode cX4_changeSetting 18 = .ok (.iload_n 1, 1) := by decide +kernel
theorem dX4_changeSetting_19 : decode cX4_changeSetting 19 = .ok (.iload_n 2, 1) := by decide +kernel
theorem dX4_changeSetting_20 : decode cX4_changeSetting 20 = .ok (.invokestatic 52, 3) := by decide +kernel
theorem dX4_changeSetting_23 : decode cX4_changeSetting 23 = .ok (.iload_n 1, 1) := by decide +kernel
theorem dX4_changeSetting_24 : decode cX4_changeSetting 24 = .ok (.ifCond .ne 38, 3) := by decide +kernel
theorem dX4_changeSetting_27 : decode cX4_changeSetting 27 = .ok (.iconst 0, 1) := by decide +kernel
theorem dX4_changeSetting_28 : decode cX4_changeSetting 28 = .ok (.istore_n 3, 1) := by decide +kernel
theorem dX4_changeSetting_29 : decode cX4_changeSetting 29 = .ok (.iload_n 3, 1) := by decide +kernel
theorem dX4_changeSetting_30 : decode cX4_changeSetting 30 = .ok (.aload_n 0, 1) := by decide +kernel
theorem dX4_changeSetting_31 : decode cX4_changeSetting 31 = .ok (.getfield 36, 3) := by decide +kernel
theorem dX4_changeSetting_34 : decode cX4_changeSetting 34 = .ok (.if_icmp .ge 18, 3) := by decide +kernel
theorem dX4_changeSetting_37 : decode cX4_changeSetting 37 = .ok (.aload_n 0, 1) := by decide +kernel
theorem dX4_changeSetting_38 : decode cX4_changeSetting 38 = .ok (.getfield 12, 3) := by decide +kernel
theorem dX4_changeSetting_41 : decode cX4_changeSetting 41 = .ok (.iload_n 3, 1) := by decide +kernel
theorem dX4_changeSetting_42 : decode cX4_changeSetting 42 = .ok (.iload_n 2, 1) := by decide +kernel
theorem dX4_changeSetting_43 : decode cX4_changeSetting 43 = .ok (.invokevirtual 107, 3) := by decide +kernel
theorem dX4_changeSetting_46 : decode cX4_changeSetting 46 = .ok (.iinc 3 1, 3) := by decide +kernel
theorem dX4_changeSetting_49 : decode cX4_changeSetting 49 = .ok (.goto (-20), 3) := by decide +kernel
theorem dX4_changeSetting_52 : decode cX4_changeSetting 52 = .ok (.aload_n 0, 1) := by decide +kernel
theorem dX4_changeSetting_53 : decode cX4_changeSetting 53 = .ok (.getfield 12, 3) := by decide +kernel
theorem dX4_changeSetting_56 : decode cX4_changeSetting 56 = .ok (.bipush 16, 2) := by decide +kernel
theorem dX4_changeSetting_58 : decode cX4_changeSetting 58 = .ok (.iload_n 2, 1) := by decide +kernel
theorem dX4_changeSetting_59 : decode cX4_changeSetting 59 = .ok (.invokevirtual 107, 3) := by decide +kernel
theorem dX4_changeSetting_62 : decode cX4_changeSetting 62 = .ok (.iconst 1, 1) := by decide +kernel
theorem dX4_changeSetting_63 : decode cX4_changeSetting 63 = .ok (.ireturn, 1) := by decide +kernel
set_option maxRecDepth 20000 in
theorem ggX4_takesRuling_X0_fits_p0 : GoodIn wsX4_takesRuling [.code yX0_fits cX0_fits 6 (some .boolean)] := goodIn_r _ [7] (by decide +kernel) (by decide +kernel)
theorem ggX4_takesRuling_X0_fits_p1 : GoodIn wsX4_takesRuling wsX0_fits_r1 := goodIn_r _ [8, 9, 10, 11, 12, 13, 14, 6, 15, 16, 17, 18, 19, 20, 21, 22, 23, 24, 25, 26, 27, 28, 29, 30] (by decide +kernel) (by decide +kernel)
theorem ggX4_takesRuling_X0_fits_p2 : GoodIn wsX4_takesRuling wsX0_fits_r2 := goodIn_r _ [31, 32, 33, 34, 35, 36, 37, 38] (by decide +kernel) (by decide +kernel)
theorem ggX4_takesRuling_X0_fits_p3 : GoodIn wsX4_takesRuling wsX00 := goodIn_r _ [45, 46, 47, 48, 49] (by decide +kernel) (by decide +kernel)
theorem ggX4_takesRuling_X0_fits : GoodIn wsX4_takesRuling wsX0_fits := (goodIn_c2 ggX4_takesRuling_X0_fits_p0 (goodIn_app (goodIn_app ggX4_takesRuling_X0_fits_p1 ggX4_takesRuling_X0_fits_p2) ggX4_takesRuling_X0_fits_p3))
set_option maxRecDepth 20000 in
theorem gX4_takesRuling_X0_fits : GoodIn wsX4_takesRuling (wsV RX4 110 RX0 yX0_fits wsX0_fits) := goodIn_app (goodIn_of _ (by decide +kernel)) ggX4_takesRuling_X0_fits
theorem dX4_takesRuling_0 : decode cX4_takesRuling 0 = .ok (.aload_n 0, 1) := by decide +kernel
theorem dX4_takesRuling_1 : decode cX4_takesRuling 1 = .ok (.getfield 12, 3) := by decide +kernel
theorem dX4_takesRuling_4 : decode cX4_takesRuling 4 = .ok (.bipush 16, 2) := by decide +kernel
theorem dX4_takesRuling_6 : decode cX4_takesRuling 6 = .ok (.iload_n 1, 1) := by decide +kernel
theorem dX4_takesRuling_7 : decode cX4_takesRuling 7 = .ok (.invokevirtual 110, 3) := by decide +kernel
theorem dX4_takesRuling_10 : decode cX4_takesRuling 10 = .ok (.istore_n 2, 1) := by decide +kernel
theorem dX4_takesRuling_11 : decode cX4_takesRuling 11 = .ok (.iconst 0, 1) := by decide +kernel
theorem dX4_takesRuling_12 : decode cX4_takesRuling 12 = .ok (.istore_n 3, 1) := by decide +kernel
theorem dX4_takesRuling_13 : decode cX4_takesRuling 13 = .ok (.iload_n 3, 1) := by decide +kernel
theorem dX4_takesRuling_14 : decode cX4_takesRuling 14 = .ok (.aload_n 0, 1) := by decide +kernel
theorem dX4_takesRuling_15 : decode cX4_takesRuling 15 = .ok (.getfield 36, 3) := by decide +kernel
theorem dX4_takesRuling_18 : decode cX4_takesRuling 18 = .ok (.if_icmp .ge 23, 3) := by decide +kernel
theorem dX4_takesRuling_21 : decode cX4_takesRuling 21 = .ok (.iload_n 2, 1) := by decide +kernel
theorem dX4_takesRuling_22 : decode cX4_takesRuling 22 = .ok (.ifCond .eq 19, 3) := by decide +kernel
theorem dX4_takesRuling_25 : decode cX4_takesRuling 25 = .ok (.aload_n 0, 1) := by decide +kernel
theorem dX4_takesRuling_26 : decode cX4_takesRuling 26 = .ok (.getfield 12, 3) := by decide +kernel
theorem dX4_takesRuling_29 : decode cX4_takesRuling 29 = .ok (.iload_n 3, 1) := by decide +kernel
theorem dX4_takesRuling_30 : decode cX4_takesRuling 30 = .ok (.iload_n 1, 1) := by decide +kernel
theorem dX4_takesRuling_31 : decode cX4_takesRuling 31 = .ok (.invokevirtual 110, 3) := by decide +kernel
theorem dX4_takesRuling_34 : decode cX4_takesRuling 34 = .ok (.istore_n 2, 1) := by decide +kernel
theorem dX4_takesRuling_35 : decode cX4_takesRuling 35 = .ok (.iinc 3 1, 3) := by decide +kernel
theorem dX4_takesRuling_38 : decode cX4_takesRuling 38 = .ok (.goto (-25), 3) := by decide +kernel
theorem dX4_takesRuling_41 : decode cX4_takesRuling 41 = .ok (.iload_n 2, 1) := by decide +kernel
theorem dX4_takesRuling_42 : decode cX4_takesRuling 42 = .ok (.ireturn, 1) := by decide +kernel
set_option maxRecDepth 20000 in
theorem ggX4_mirrorHand_X0_mirrorPlace_p0 : GoodIn wsX4_mirrorHand [.code yX0_mirrorPlace cX0_mirrorPlace 6 none] := goodIn_r _ [6] (by decide +kernel) (by decide +kernel)
theorem ggX4_mirrorHand_X0_mirrorPlace_p1 : GoodIn wsX4_mirrorHand wsX0_mirrorPlace_r1 := goodIn_r _ [7, 8, 9, 5, 10, 11, 12, 13, 14, 15, 16, 17, 18, 19, 20, 21, 22, 23, 24, 25, 26, 27, 28, 29] (by decide +kernel) (by decide +kernel)
theorem ggX4_mirrorHand_X0_mirrorPlace_p2 : GoodIn wsX4_mirrorHand wsX0_mirrorPlace_r2 := goodIn_r _ [30] (by decide +kernel) (by decide +kernel)
theorem ggX4_mirrorHand_X0_mirrorPlace_p3 : GoodIn wsX4_mirrorHand wsX00 := goodIn_r _ [81, 82, 83, 84, 85] (by decide +kernel) (by decide +kernel)
theorem ggX4_mirrorHand_X0_mirrorPlace : GoodIn wsX4_mirrorHand wsX0_mirrorPlace := (goodIn_c2 ggX4_mirrorHand_X0_mirrorPlace_p0 (goodIn_app (goodIn_app ggX4_mirrorHand_X0_mirrorPlace_p1 ggX4_mirrorHand_X0_mirrorPlace_p2) ggX4_mirrorHand_X0_mirrorPlace_p3))
set_option maxRecDepth 20000 in
theorem gX4_mirrorHand_X0_mirrorPlace : GoodIn wsX4_mirrorHand (wsV RX4 113 RX0 yX0_mirrorPlace wsX0_mirrorPlace) := goodIn_app (goodIn_of _ (by decide +kernel)) ggX4_mirrorHand_X0_mirrorPlace
set_option maxRecDepth 20000 in
theorem ggX4_mirrorHand_X4_settingOf : GoodIn wsX4_mirrorHand wsX4_settingOf := goodIn_r _ [35, 36, 12, 13, 14, 75, 76, 77, 78, 79, 80] (by decide +kernel) (by decide +kernel)
set_option maxRecDepth 20000 in
theorem gX4_mirrorHand_X4_settingOf : GoodIn wsX4_mirrorHand (wsV RX4 64 RX4 yX4_settingOf wsX4_settingOf) := goodIn_app (goodIn_of _ (by decide +kernel)) ggX4_mirrorHand_X4_settingOf
set_option maxRecDepth 20000 in
theorem ggX4_mirrorHand_X0_fits_p0 : GoodIn wsX4_mirrorHand [.code yX0_fits cX0_fits 6 (some .boolean)] := goodIn_r _ [40] (by decide +kernel) (by decide +kernel)
theorem ggX4_mirrorHand_X0_fits_p1 : GoodIn wsX4_mirrorHand wsX0_fits_r1 := goodIn_r _ [41, 42, 43, 44, 7, 8, 9, 5, 10, 11, 12, 13, 14, 15, 16, 17, 18, 19, 20, 21, 22, 23, 24, 45] (by decide +kernel) (by decide +kernel)
theorem ggX4_mirrorHand_X0_fits_p2 : GoodIn wsX4_mirrorHand wsX0_fits_r2 := goodIn_r _ [46, 47, 48, 49, 50, 51, 52, 53] (by decide +kernel) (by decide +kernel)
theorem ggX4_mirrorHand_X0_fits_p3 : GoodIn wsX4_mirrorHand wsX00 := goodIn_r _ [81, 82, 83, 84, 85] (by decide +kernel) (by decide +kernel)
theorem ggX4_mirrorHand_X0_fits : GoodIn wsX4_mirrorHand wsX0_fits := (goodIn_c2 ggX4_mirrorHand_X0_fits_p0 (goodIn_app (goodIn_app ggX4_mirrorHand_X0_fits_p1 ggX4_mirrorHand_X0_fits_p2) ggX4_mirrorHand_X0_fits_p3))
set_option maxRecDepth 20000 in
theorem gX4_mirrorHand_X0_fits : GoodIn wsX4_mirrorHand (wsV RX4 110 RX0 yX0_fits wsX0_fits) := goodIn_app (goodIn_of _ (by decide +kernel)) ggX4_mirrorHand_X0_fits
set_option maxRecDepth 20000 in
theorem ggX4_mirrorHand_X0_writeSigns_p0 : GoodIn wsX4_mirrorHand [.code yX0_writeSigns cX0_writeSigns 6 none] := goodIn_r _ [57] (by decide +kernel) (by decide +kernel)
theorem ggX4_mirrorHand_X0_writeSigns_p1 : GoodIn wsX4_mirrorHand wsX0_writeSigns_r1 := goodIn_r _ [58, 29, 13, 30, 7, 8, 9, 5, 10, 11, 12, 14, 59, 60, 61, 62, 63, 64, 65, 66, 67, 15, 16, 17] (by decide +kernel) (by decide +kernel)
theorem ggX4_mirrorHand_X0_writeSigns_p2 : GoodIn wsX4_mirrorHand wsX0_writeSigns_r2 := goodIn_r _ [18, 19, 20, 21, 22, 23, 24, 68, 69, 70, 71, 51, 52, 43, 53, 48, 49, 50, 72, 73, 74] (by decide +kernel) (by decide +kernel)
theorem ggX4_mirrorHand_X0_writeSigns_p3 : GoodIn wsX4_mirrorHand wsX00 := goodIn_r _ [81, 82, 83, 84, 85] (by decide +kernel) (by decide +kernel)
theorem ggX4_mirrorHand_X0_writeSigns : GoodIn wsX4_mirrorHand wsX0_writeSigns := (goodIn_c2 ggX4_mirrorHand_X0_writeSigns_p0 (goodIn_app (goodIn_app ggX4_mirrorHand_X0_writeSigns_p1 ggX4_mirrorHand_X0_writeSigns_p2) ggX4_mirrorHand_X0_writeSigns_p3))
set_option maxRecDepth 20000 in
theorem gX4_mirrorHand_X0_writeSigns : GoodIn wsX4_mirrorHand (wsV RX4 107 RX0 yX0_writeSigns wsX0_writeSigns) := goodIn_app (goodIn_of _ (by decide +kernel)) ggX4_mirrorHand_X0_writeSigns
theorem dX4_mirrorHand_0 : decode cX4_mirrorHand 0 = .ok (.aload_n 0, 1) := by decide +kernel
theorem dX4_mirrorHand_1 : decode cX4_mirrorHand 1 = .ok (.getfield 12, 3) := by decide +kernel
theorem dX4_mirrorHand_4 : decode cX4_mirrorHand 4 = .ok (.bipush 16, 2) := by decide +kernel
theorem dX4_mirrorHand_6 : decode cX4_mirrorHand 6 = .ok (.invokevirtual 113, 3) := by decide +kernel
theorem dX4_mirrorHand_9 : decode cX4_mirrorHand 9 = .ok (.aload_n 0, 1) := by decide +kernel
theorem dX4_mirrorHand_10 : decode cX4_mirrorHand 10 = .ok (.getfield 12, 3) := by decide +kernel
theorem dX4_mirrorHand_13 : decode cX4_mirrorHand 13 = .ok (.bipush 16, 2) := by decide +kernel
theorem dX4_mirrorHand_15 : decode cX4_mirrorHand 15 = .ok (.aload_n 0, 1) := by decide +kernel
theorem dX4_mirrorHand_16 : decode cX4_mirrorHand 16 = .ok (.iconst 0, 1) := by decide +kernel
theorem dX4_mirrorHand_17 : decode cX4_mirrorHand 17 = .ok (.invokevirtual 64, 3) := by decide +kernel
theorem dX4_mirrorHand_20 : decode cX4_mirrorHand 20 = .ok (.invokevirtual 110, 3) := by decide +kernel
theorem dX4_mirrorHand_23 : decode cX4_mirrorHand 23 = .ok (.ifCond .ne 5, 3) := by decide +kernel
theorem dX4_mirrorHand_26 : decode cX4_mirrorHand 26 = .ok (.iconst 0, 1) := by decide +kernel
theorem dX4_mirrorHand_27 : decode cX4_mirrorHand 27 = .ok (.ireturn, 1) := by decide +kernel
theorem dX4_mirrorHand_28 : decode cX4_mirrorHand 28 = .ok (.aload_n 0, 1) := by decide +kernel
theorem dX4_mirrorHand_29 : decode cX4_mirrorHand 29 = .ok (.getfield 12, 3) := by decide +kernel
theorem dX4_mirrorHand_32 : decode cX4_mirrorHand 32 = .ok (.bipush 16, 2) := by decide +kernel
theorem dX4_mirrorHand_34 : decode cX4_mirrorHand 34 = .ok (.aload_n 0, 1) := by decide +kernel
theorem dX4_mirrorHand_35 : decode cX4_mirrorHand 35 = .ok (.iconst 0, 1) := by decide +kernel
theorem dX4_mirrorHand_36 : decode cX4_mirrorHand 36 = .ok (.invokevirtual 64, 3) := by decide +kernel
theorem dX4_mirrorHand_39 : decode cX4_mirrorHand 39 = .ok (.invokevirtual 107, 3) := by decide +kernel
theorem dX4_mirrorHand_42 : decode cX4_mirrorHand 42 = .ok (.iconst 1, 1) := by decide +kernel
theorem dX4_mirrorHand_43 : decode cX4_mirrorHand 43 = .ok (.ireturn, 1) := by decide +kernel
theorem dX5_init_0 : decode cX5_init 0 = .ok (.aload_n 0, 1) := by decide +kernel
theorem dX5_init_1 : decode cX5_init 1 = .ok (.invokespecial 3, 3) := by decide +kernel
theorem dX5_init_4 : decode cX5_init 4 = .ok (.aload_n 0, 1) := by decide +kernel
theorem dX5_init_5 : decode cX5_init 5 = .ok (.bipush 100, 2) := by decide +kernel
theorem dX5_init_7 : decode cX5_init 7 = .ok (.newarray .int, 2) := by decide +kernel
theorem dX5_init_9 : decode cX5_init 9 = .ok (.putfield 9, 3) := by decide +kernel
theorem dX5_init_12 : decode cX5_init 12 = .ok (.return_, 1) := by decide +kernel
set_option maxRecDepth 20000 in
theorem ggX5_addCode_X6_putCell : GoodIn wsX5_addCode wsX6_putCell := goodIn_r _ [5] (by decide +kernel) (by decide +kernel)
set_option maxRecDepth 20000 in
theorem gX5_addCode_X6_putCell_n19 : GoodIn wsX5_addCode (wsX6_putCell) := ggX5_addCode_X6_putCell
theorem dX5_addCode_0 : decode cX5_addCode 0 = .ok (.aload_n 0, 1) := by decide +kernel
theorem dX5_addCode_1 : decode cX5_addCode 1 = .ok (.getfield 9, 3) := by decide +kernel
theorem dX5_addCode_4 : decode cX5_addCode 4 = .ok (.aload_n 0, 1) := by decide +kernel
theorem dX5_addCode_5 : decode cX5_addCode 5 = .ok (.getfield 15, 3) := by decide +kernel
theorem dX5_addCode_8 : decode cX5_addCode 8 = .ok (.iload_n 1, 1) := by decide +kernel
theorem dX5_addCode_9 : decode cX5_addCode 9 = .ok (.invokestatic 19, 3) := by decide +kernel
theorem dX5_addCode_12 : decode cX5_addCode 12 = .ok (.aload_n 0, 1) := by decide +kernel
theorem dX5_addCode_13 : decode cX5_addCode 13 = .ok (.dup, 1) := by decide +kernel
theorem dX5_addCode_14 : decode cX5_addCode 14 = .ok (.getfield 15, 3) := by decide +kernel
theorem dX5_addCode_17 : decode cX5_addCode 17 = .ok (.iconst 1, 1) := by decide +kernel
theorem dX5_addCode_18 : decode cX5_addCode 18 = .ok (.iadd, 1) := by decide +kernel
theorem dX5_addCode_19 : decode cX5_addCode 19 = .ok (.putfield 15, 3) := by decide +kernel
theorem dX5_addCode_22 : decode cX5_addCode 22 = .ok (.return_, 1) := by decide +kernel
set_option maxRecDepth 20000 in
theorem ggX5_firstError_X6_cell : GoodIn wsX5_firstError wsX6_cell := goodIn_r _ [5] (by decide +kernel) (by decide +kernel)
set_option maxRecDepth 20000 in
theorem gX5_firstError_X6_cell_n23 : GoodIn wsX5_firstError (wsX6_cell) := ggX5_firstError_X6_cell
set_option maxRecDepth 20000 in
theorem ggX5_firstError_X5_goesOn : GoodIn wsX5_firstError wsX5_goesOn := goodIn_r _ [9] (by decide +kernel) (by decide +kernel)
set_option maxRecDepth 20000 in
theorem gX5_firstError_X5_goesOn : GoodIn wsX5_firstError (va_wsS RX5 27 yX5_goesOn wsX5_goesOn) := goodIn_app (goodIn_of _ (by decide +kernel)) ggX5_firstError_X5_goesOn
theorem dX5_firstError_0 : decode cX5_firstError 0 = .ok (.iconst 1, 1) := by decide +kernel
theorem dX5_firstError_1 : decode cX5_firstError 1 = .ok (.istore_n 1, 1) := by decide +kernel
theorem dX5_firstError_2 : decode cX5_firstError 2 = .ok (.iconst 1, 1) := by decide +kernel
theorem dX5_firstError_3 : decode cX5_firstError 3 = .ok (.istore_n 2, 1) := by decide +kernel
theorem dX5_firstError_4 : decode cX5_firstError 4 = .ok (.iconst 0, 1) := by decide +kernel
theorem dX5_firstError_5 : decode cX5_firstError 5 = .ok (.istore_n 3, 1) := by decide +kernel
theorem dX5_firstError_6 : decode cX5_firstError 6 = .ok (.iconst 0, 1) := by decide +kernel
theorem dX5_firstError_7 : decode cX5_firstError 7 = .ok (.istore 4, 2) := by decide +kernel
theorem dX5_firstError_9 : decode cX5_firstError 9 = .ok (.iconst 1, 1) := by decide +kernel
theorem dX5_firstError_10 : decode cX5_firstError 10 = .ok (.istore 5, 2) := by decide +kernel
theorem dX5_firstError_12 : decode cX5_firstError 12 = .ok (.iconst 0, 1) := by decide +kernel
theorem dX5_firstError_13 : decode cX5_firstError 13 = .ok (.istore 6, 2) := by decide +kernel
theorem dX5_firstError_15 : decode cX5_firstError 15 = .ok (.iload 6, 2) := by decide +kernel
theorem dX5_firstError_17 : decode cX5_firstError 17 = .ok (.aload_n 0, 1) := by decide +kernel
theorem dX5_firstError_18 : decode cX5_firstError 18 = .ok (.getfield 15, 3) := by decide +kernel
theorem dX5_firstError_21 : decode cX5_firstError 21 = .ok (.if_icmp .ge 175, 3) := by decide +kernel
theorem dX5_firstError_24 : decode cX5_firstError 24 = .ok (.aload_n 0, 1) := by decide +kernel
theorem dX5_firstError_25 : decode cX5_firstError 25 = .ok (.getfield 9, 3) := by decide +kernel
theorem dX5_firstError_28 : decode cX5_firstError 28 = .ok (.iload 6, 2) := by decide +kernel
theorem dX5_firstError_30 : decode cX5_firstError 30 = .ok (.invokestatic 23, 3) := by decide +kernel
theorem dX5_firstError_33 : decode cX5_firstError 33 = .ok (.istore 7, 2) := by decide +kernel
theorem dX5_firstError_35 : decode cX5_firstError 35 = .ok (.iload 7, 2) := by decide +kernel
theorem dX5_firstError_37 : decode cX5_firstError 37 = .ok (.bipush 48, 2) := by decide +kernel
theorem dX5_firstError_39 : decode cX5_firstError 39 = .ok (.if_icmp .lt 14, 3) := by decide +kernel
theorem dX5_firstError_42 : decode cX5_firstError 42 = .ok (.iload 7, 2) := by decide +kernel
theorem dX5_firstError_44 : decode cX5_firstError 44 = .ok (.bipush 57, 2) := by decide +kernel
theorem dX5_firstError_46 : decode cX5_firstError 46 = .ok (.if_icmp .gt 7, 3) := by decide +kernel
theorem dX5_firstError_49 : decode cX5_firstError 49 = .ok (.iconst 1, 1) := by decide +kernel
theorem dX5_firstError_50 : decode cX5_firstError 50 = .ok (.goto 4, 3) := by decide +kernel
theorem dX5_firstError_53 : decode cX5_firstError 53 = .ok (.iconst 0, 1) := by decide +kernel
theorem dX5_firstError_54 : decode cX5_firstError 54 = .ok (.istore 8, 2) := by decide +kernel
theorem dX5_firstError_56 : decode cX5_firstError 56 = .ok (.iload 8, 2) := by decide +kernel
theorem dX5_firstError_58 : decode cX5_firstError 58 = .ok (.ifCond .eq 39, 3) := by decide +kernel
theorem dX5_firstError_61 : decode cX5_firstError 61 = .ok (.iload_n 3, 1) := by decide +kernel
theorem dX5_firstError_62 : decode cX5_firstError 62 = .ok (.ifCond .eq 16, 3) := by decide +kernel
theorem dX5_firstError_65 : decode cX5_firstError 65 = .ok (.iload 4, 2) := by decide +kernel
theorem dX5_firstError_67 : decode cX5_firstError 67 = .ok (.iload 7, 2) := by decide +kernel
theorem dX5_firstError_69 : decode cX5_firstError 69 = .ok (.bipush 48, 2) := by decide +kernel
theorem dX5_firstError_71 : decode cX5_firstError 71 = .ok (.isub, 1) := by decide +kernel
theorem dX5_firstError_72 : decode cX5_firstError 72 = .ok (.invokestatic 27, 3) := by decide +kernel
theorem dX5_firstError_75 : decode cX5_firstError 75 = .ok (.ifCond .eq 22, 3) := by decide +kernel
theorem dX5_firstError_78 : decode cX5_firstError 78 = .ok (.iload 4, 2) := by decide +kernel
theorem dX5_firstError_80 : decode cX5_firstError 80 = .ok (.bipush 10, 2) := by decide +kernel
theorem dX5_firstError_82 : decode cX5_firstError 82 = .ok (.imul, 1) := by decide +kernel
theorem dX5_firstError_83 : decode cX5_firstError 83 = .ok (.iload 7, 2) := by decide +kernel
theorem dX5_firstError_85 : decode cX5_firstError 85 = .ok (.iadd, 1) := by decide +kernel
theorem dX5_firstError_86 : decode cX5_firstError 86 = .ok (.bipush 48, 2) := by decide +kernel
theorem dX5_firstError_88 : decode cX5_firstError 88 = .ok (.isub, 1) := by decide +kernel
theorem dX5_firstError_89 : decode cX5_firstError 89 = .ok (.istore 4, 2) := by decide +kernel
theorem dX5_firstError_91 : decode cX5_firstError 91 = .ok (.iinc 3 1, 3) := by decide +kernel
theorem dX5_firstError_94 : decode cX5_firstError 94 = .ok (.goto 96, 3) := by decide +kernel
theorem dX5_firstError_97 : decode cX5_firstError 97 = .ok (.iload 8, 2) := by decide +kernel
theorem dX5_firstError_99 : decode cX5_firstError 99 = .ok (.ifCond .ne 7, 3) := by decide +kernel
theorem dX5_firstError_102 : decode cX5_firstError 102 = .ok (.iload_n 3, 1) := by decide +kernel
theorem dX5_firstError_103 : decode cX5_firstError 103 = .ok (.ifCond .ne 6, 3) := by decide +kernel
theorem dX5_firstError_106 : decode cX5_firstError 106 = .ok (.iload 6, 2) := by decide +kernel
theorem dX5_firstError_108 : decode cX5_firstError 108 = .ok (.ireturn, 1) := by decide +kernel
theorem dX5_firstError_109 : decode cX5_firstError 109 = .ok (.iload 5, 2) := by decide +kernel
theorem dX5_firstError_111 : decode cX5_firstError 111 = .ok (.ifCond .eq 16, 3) := by decide +kernel
theorem dX5_firstError_114 : decode cX5_firstError 114 = .ok (.iload 7, 2) := by decide +kernel
theorem dX5_firstError_116 : decode cX5_firstError 116 = .ok (.bipush 44, 2) := by decide +kernel
theorem dX5_firstError_118 : decode cX5_firstError 118 = .ok (.if_icmp .ne 9, 3) := by decide +kernel
theorem dX5_firstError_121 : decode cX5_firstError 121 = .ok (.iconst 0, 1) := by decide +kernel
theorem dX5_firstError_122 : decode cX5_firstError 122 = .ok (.istore 5, 2) := by decide +kernel
theorem dX5_firstError_124 : decode cX5_firstError 124 = .ok (.goto 61, 3) := by decide +kernel
theorem dX5_firstError_127 : decode cX5_firstError 127 = .ok (.iload 5, 2) := by decide +kernel
theorem dX5_firstError_129 : decode cX5_firstError 129 = .ok (.ifCond .ne 25, 3) := by decide +kernel
theorem dX5_firstError_132 : decode cX5_firstError 132 = .ok (.iload 7, 2) := by decide +kernel
theorem dX5_firstError_134 : decode cX5_firstError 134 = .ok (.bipush 45, 2) := by decide +kernel
theorem dX5_firstError_136 : decode cX5_firstError 136 = .ok (.if_icmp .ne 18, 3) := by decide +kernel
theorem dX5_firstError_139 : decode cX5_firstError 139 = .ok (.iload_n 2, 1) := by decide +kernel
theorem dX5_firstError_140 : decode cX5_firstError 140 = .ok (.bipush 12, 2) := by decide +kernel
theorem dX5_firstError_142 : decode cX5_firstError 142 = .ok (.if_icmp .ge 12, 3) := by decide +kernel
theorem dX5_firstError_145 : decode cX5_firstError 145 = .ok (.iinc 2 1, 3) := by decide +kernel
theorem dX5_firstError_148 : decode cX5_firstError 148 = .ok (.iconst 1, 1) := by decide +kernel
theorem dX5_firstError_149 : decode cX5_firstError 149 = .ok (.istore 5, 2) := by decide +kernel
theorem dX5_firstError_151 : decode cX5_firstError 151 = .ok (.goto 34, 3) := by decide +kernel
theorem dX5_firstError_154 : decode cX5_firstError 154 = .ok (.iload 5, 2) := by decide +kernel
theorem dX5_firstError_156 : decode cX5_firstError 156 = .ok (.ifCond .ne 26, 3) := by decide +kernel
theorem dX5_firstError_159 : decode cX5_firstError 159 = .ok (.iload 7, 2) := by decide +kernel
theorem dX5_firstError_161 : decode cX5_firstError 161 = .ok (.bipush 47, 2) := by decide +kernel
theorem dX5_firstError_163 : decode cX5_firstError 163 = .ok (.if_icmp .ne 19, 3) := by decide +kernel
theorem dX5_firstError_166 : decode cX5_firstError 166 = .ok (.iload_n 1, 1) := by decide +kernel
theorem dX5_firstError_167 : decode cX5_firstError 167 = .ok (.iconst 3, 1) := by decide +kernel
theorem dX5_firstError_168 : decode cX5_firstError 168 = .ok (.if_icmp .ge 14, 3) := by decide +kernel
theorem dX5_firstError_171 : decode cX5_firstError 171 = .ok (.iinc 1 1, 3) := by decide +kernel
theorem dX5_firstError_174 : decode cX5_firstError 174 = .ok (.iconst 1, 1) := by decide +kernel
theorem dX5_firstError_175 : decode cX5_firstError 175 = .ok (.istore_n 2, 1) := by decide +kernel
theorem dX5_firstError_176 : decode cX5_firstError 176 = .ok (.iconst 1, 1) := by decide +kernel
theorem dX5_firstError_177 : decode cX5_firstError 177 = .ok (.istore 5, 2) := by decide +kernel
theorem dX5_firstError_179 : decode cX5_firstError 179 = .ok (.goto 6, 3) := by decide +kernel
theorem dX5_firstError_182 : decode cX5_firstError 182 = .ok (.iload 6, 2) := by decide +kernel
theorem dX5_firstError_184 : decode cX5_firstError 184 = .ok (.ireturn, 1) := by decide +kernel
