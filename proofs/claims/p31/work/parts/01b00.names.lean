set_option maxRecDepth 20000 in
theorem ggX0_copyFrom_X6_copyRow : GoodIn wsX0_copyFrom wsX6_copyRow := goodIn_r _ [8, 9, 10, 11, 12, 13, 14, 15, 16] (by decide +kernel) (by decide +kernel)
set_option maxRecDepth 20000 in
theorem gX0_copyFrom_X6_copyRow_n27 : GoodIn wsX0_copyFrom (wsX6_copyRow) := ggX0_copyFrom_X6_copyRow
theorem dX0_copyFrom_0 : decode cX0_copyFrom 0 = .ok (.aload_n 1, 1) := by decide +kernel
theorem dX0_copyFrom_1 : decode cX0_copyFrom 1 = .ok (.getfield 9, 3) := by decide +kernel
theorem dX0_copyFrom_4 : decode cX0_copyFrom 4 = .ok (.aload_n 0, 1) := by decide +kernel
theorem dX0_copyFrom_5 : decode cX0_copyFrom 5 = .ok (.getfield 9, 3) := by decide +kernel
theorem dX0_copyFrom_8 : decode cX0_copyFrom 8 = .ok (.invokestatic 27, 3) := by decide +kernel
theorem dX0_copyFrom_11 : decode cX0_copyFrom 11 = .ok (.aload_n 1, 1) := by decide +kernel
theorem dX0_copyFrom_12 : decode cX0_copyFrom 12 = .ok (.getfield 15, 3) := by decide +kernel
theorem dX0_copyFrom_15 : decode cX0_copyFrom 15 = .ok (.aload_n 0, 1) := by decide +kernel
theorem dX0_copyFrom_16 : decode cX0_copyFrom 16 = .ok (.getfield 15, 3) := by decide +kernel
theorem dX0_copyFrom_19 : decode cX0_copyFrom 19 = .ok (.invokestatic 27, 3) := by decide +kernel
theorem dX0_copyFrom_22 : decode cX0_copyFrom 22 = .ok (.aload_n 1, 1) := by decide +kernel
theorem dX0_copyFrom_23 : decode cX0_copyFrom 23 = .ok (.getfield 18, 3) := by decide +kernel
theorem dX0_copyFrom_26 : decode cX0_copyFrom 26 = .ok (.aload_n 0, 1) := by decide +kernel
theorem dX0_copyFrom_27 : decode cX0_copyFrom 27 = .ok (.getfield 18, 3) := by decide +kernel
theorem dX0_copyFrom_30 : decode cX0_copyFrom 30 = .ok (.invokestatic 27, 3) := by decide +kernel
theorem dX0_copyFrom_33 : decode cX0_copyFrom 33 = .ok (.aload_n 1, 1) := by decide +kernel
theorem dX0_copyFrom_34 : decode cX0_copyFrom 34 = .ok (.getfield 21, 3) := by decide +kernel
theorem dX0_copyFrom_37 : decode cX0_copyFrom 37 = .ok (.aload_n 0, 1) := by decide +kernel
theorem dX0_copyFrom_38 : decode cX0_copyFrom 38 = .ok (.getfield 21, 3) := by decide +kernel
theorem dX0_copyFrom_41 : decode cX0_copyFrom 41 = .ok (.invokestatic 27, 3) := by decide +kernel
theorem dX0_copyFrom_44 : decode cX0_copyFrom 44 = .ok (.aload_n 1, 1) := by decide +kernel
theorem dX0_copyFrom_45 : decode cX0_copyFrom 45 = .ok (.getfield 24, 3) := by decide +kernel
theorem dX0_copyFrom_48 : decode cX0_copyFrom 48 = .ok (.aload_n 0, 1) := by decide +kernel
theorem dX0_copyFrom_49 : decode cX0_copyFrom 49 = .ok (.getfield 24, 3) := by decide +kernel
theorem dX0_copyFrom_52 : decode cX0_copyFrom 52 = .ok (.invokestatic 27, 3) := by decide +kernel
theorem dX0_copyFrom_55 : decode cX0_copyFrom 55 = .ok (.return_, 1) := by decide +kernel
set_option maxRecDepth 20000 in
theorem ggX0_copyPlace_X6_copyCells : GoodIn wsX0_copyPlace wsX6_copyCells := goodIn_r _ [8, 9, 10, 11, 12] (by decide +kernel) (by decide +kernel)
set_option maxRecDepth 20000 in
theorem gX0_copyPlace_X6_copyCells_n31 : GoodIn wsX0_copyPlace (wsX6_copyCells) := ggX0_copyPlace_X6_copyCells
theorem dX0_copyPlace_0 : decode cX0_copyPlace 0 = .ok (.bipush 36, 2) := by decide +kernel
theorem dX0_copyPlace_2 : decode cX0_copyPlace 2 = .ok (.istore_n 3, 1) := by decide +kernel
theorem dX0_copyPlace_3 : decode cX0_copyPlace 3 = .ok (.aload_n 0, 1) := by decide +kernel
theorem dX0_copyPlace_4 : decode cX0_copyPlace 4 = .ok (.getfield 9, 3) := by decide +kernel
theorem dX0_copyPlace_7 : decode cX0_copyPlace 7 = .ok (.iload_n 1, 1) := by decide +kernel
theorem dX0_copyPlace_8 : decode cX0_copyPlace 8 = .ok (.aload_n 0, 1) := by decide +kernel
theorem dX0_copyPlace_9 : decode cX0_copyPlace 9 = .ok (.getfield 9, 3) := by decide +kernel
theorem dX0_copyPlace_12 : decode cX0_copyPlace 12 = .ok (.iload_n 2, 1) := by decide +kernel
theorem dX0_copyPlace_13 : decode cX0_copyPlace 13 = .ok (.iconst 1, 1) := by decide +kernel
theorem dX0_copyPlace_14 : decode cX0_copyPlace 14 = .ok (.invokestatic 31, 3) := by decide +kernel
theorem dX0_copyPlace_17 : decode cX0_copyPlace 17 = .ok (.aload_n 0, 1) := by decide +kernel
theorem dX0_copyPlace_18 : decode cX0_copyPlace 18 = .ok (.getfield 15, 3) := by decide +kernel
theorem dX0_copyPlace_21 : decode cX0_copyPlace 21 = .ok (.iload_n 1, 1) := by decide +kernel
theorem dX0_copyPlace_22 : decode cX0_copyPlace 22 = .ok (.iconst 3, 1) := by decide +kernel
theorem dX0_copyPlace_23 : decode cX0_copyPlace 23 = .ok (.imul, 1) := by decide +kernel
theorem dX0_copyPlace_24 : decode cX0_copyPlace 24 = .ok (.aload_n 0, 1) := by decide +kernel
theorem dX0_copyPlace_25 : decode cX0_copyPlace 25 = .ok (.getfield 15, 3) := by decide +kernel
theorem dX0_copyPlace_28 : decode cX0_copyPlace 28 = .ok (.iload_n 2, 1) := by decide +kernel
theorem dX0_copyPlace_29 : decode cX0_copyPlace 29 = .ok (.iconst 3, 1) := by decide +kernel
theorem dX0_copyPlace_30 : decode cX0_copyPlace 30 = .ok (.imul, 1) := by decide +kernel
theorem dX0_copyPlace_31 : decode cX0_copyPlace 31 = .ok (.iconst 3, 1) := by decide +kernel
theorem dX0_copyPlace_32 : decode cX0_copyPlace 32 = .ok (.invokestatic 31, 3) := by decide +kernel
theorem dX0_copyPlace_35 : decode cX0_copyPlace 35 = .ok (.aload_n 0, 1) := by decide +kernel
theorem dX0_copyPlace_36 : decode cX0_copyPlace 36 = .ok (.getfield 18, 3) := by decide +kernel
theorem dX0_copyPlace_39 : decode cX0_copyPlace 39 = .ok (.iload_n 1, 1) := by decide +kernel
theorem dX0_copyPlace_40 : decode cX0_copyPlace 40 = .ok (.iload_n 3, 1) := by decide +kernel
theorem dX0_copyPlace_41 : decode cX0_copyPlace 41 = .ok (.imul, 1) := by decide +kernel
theorem dX0_copyPlace_42 : decode cX0_copyPlace 42 = .ok (.aload_n 0, 1) := by decide +kernel
theorem dX0_copyPlace_43 : decode cX0_copyPlace 43 = .ok (.getfield 18, 3) := by decide +kernel
theorem dX0_copyPlace_46 : decode cX0_copyPlace 46 = .ok (.iload_n 2, 1) := by decide +kernel
theorem dX0_copyPlace_47 : decode cX0_copyPlace 47 = .ok (.iload_n 3, 1) := by decide +kernel
theorem dX0_copyPlace_48 : decode cX0_copyPlace 48 = .ok (.imul, 1) := by decide +kernel
theorem dX0_copyPlace_49 : decode cX0_copyPlace 49 = .ok (.iload_n 3, 1) := by decide +kernel
theorem dX0_copyPlace_50 : decode cX0_copyPlace 50 = .ok (.invokestatic 31, 3) := by decide +kernel
theorem dX0_copyPlace_53 : decode cX0_copyPlace 53 = .ok (.aload_n 0, 1) := by decide +kernel
theorem dX0_copyPlace_54 : decode cX0_copyPlace 54 = .ok (.getfield 21, 3) := by decide +kernel
theorem dX0_copyPlace_57 : decode cX0_copyPlace 57 = .ok (.iload_n 1, 1) := by decide +kernel
theorem dX0_copyPlace_58 : decode cX0_copyPlace 58 = .ok (.aload_n 0, 1) := by decide +kernel
theorem dX0_copyPlace_59 : decode cX0_copyPlace 59 = .ok (.getfield 21, 3) := by decide +kernel
theorem dX0_copyPlace_62 : decode cX0_copyPlace 62 = .ok (.iload_n 2, 1) := by decide +kernel
theorem dX0_copyPlace_63 : decode cX0_copyPlace 63 = .ok (.iconst 1, 1) := by decide +kernel
theorem dX0_copyPlace_64 : decode cX0_copyPlace 64 = .ok (.invokestatic 31, 3) := by decide +kernel
theorem dX0_copyPlace_67 : decode cX0_copyPlace 67 = .ok (.aload_n 0, 1) := by decide +kernel
theorem dX0_copyPlace_68 : decode cX0_copyPlace 68 = .ok (.getfield 24, 3) := by decide +kernel
theorem dX0_copyPlace_71 : decode cX0_copyPlace 71 = .ok (.iload_n 1, 1) := by decide +kernel
theorem dX0_copyPlace_72 : decode cX0_copyPlace 72 = .ok (.bipush 40, 2) := by decide +kernel
theorem dX0_copyPlace_74 : decode cX0_copyPlace 74 = .ok (.imul, 1) := by decide +kernel
theorem dX0_copyPlace_75 : decode cX0_copyPlace 75 = .ok (.aload_n 0, 1) := by decide +kernel
theorem dX0_copyPlace_76 : decode cX0_copyPlace 76 = .ok (.getfield 24, 3) := by decide +kernel
theorem dX0_copyPlace_79 : decode cX0_copyPlace 79 = .ok (.iload_n 2, 1) := by decide +kernel
theorem dX0_copyPlace_80 : decode cX0_copyPlace 80 = .ok (.bipush 40, 2) := by decide +kernel
theorem dX0_copyPlace_82 : decode cX0_copyPlace 82 = .ok (.imul, 1) := by decide +kernel
theorem dX0_copyPlace_83 : decode cX0_copyPlace 83 = .ok (.bipush 40, 2) := by decide +kernel
theorem dX0_copyPlace_85 : decode cX0_copyPlace 85 = .ok (.invokestatic 31, 3) := by decide +kernel
theorem dX0_copyPlace_88 : decode cX0_copyPlace 88 = .ok (.return_, 1) := by decide +kernel
set_option maxRecDepth 20000 in
theorem ggX0_clearPlace_X6_putCell : GoodIn wsX0_clearPlace wsX6_putCell := goodIn_r _ [5] (by decide +kernel) (by decide +kernel)
set_option maxRecDepth 20000 in
theorem gX0_clearPlace_X6_putCell_n35 : GoodIn wsX0_clearPlace (wsX6_putCell) := ggX0_clearPlace_X6_putCell
theorem dX0_clearPlace_0 : decode cX0_clearPlace 0 = .ok (.aload_n 0, 1) := by decide +kernel
theorem dX0_clearPlace_1 : decode cX0_clearPlace 1 = .ok (.getfield 9, 3) := by decide +kernel
theorem dX0_clearPlace_4 : decode cX0_clearPlace 4 = .ok (.iload_n 1, 1) := by decide +kernel
theorem dX0_clearPlace_5 : decode cX0_clearPlace 5 = .ok (.iconst 0, 1) := by decide +kernel
theorem dX0_clearPlace_6 : decode cX0_clearPlace 6 = .ok (.invokestatic 35, 3) := by decide +kernel
theorem dX0_clearPlace_9 : decode cX0_clearPlace 9 = .ok (.aload_n 0, 1) := by decide +kernel
theorem dX0_clearPlace_10 : decode cX0_clearPlace 10 = .ok (.getfield 21, 3) := by decide +kernel
theorem dX0_clearPlace_13 : decode cX0_clearPlace 13 = .ok (.iload_n 1, 1) := by decide +kernel
theorem dX0_clearPlace_14 : decode cX0_clearPlace 14 = .ok (.iconst 0, 1) := by decide +kernel
theorem dX0_clearPlace_15 : decode cX0_clearPlace 15 = .ok (.invokestatic 35, 3) := by decide +kernel
theorem dX0_clearPlace_18 : decode cX0_clearPlace 18 = .ok (.return_, 1) := by decide +kernel
set_option maxRecDepth 20000 in
theorem ggX0_strokesOf_X6_cell : GoodIn wsX0_strokesOf wsX6_cell := goodIn_r _ [4] (by decide +kernel) (by decide +kernel)
set_option maxRecDepth 20000 in
theorem gX0_strokesOf_X6_cell_n39 : GoodIn wsX0_strokesOf (wsX6_cell) := ggX0_strokesOf_X6_cell
theorem dX0_strokesOf_0 : decode cX0_strokesOf 0 = .ok (.aload_n 0, 1) := by decide +kernel
theorem dX0_strokesOf_1 : decode cX0_strokesOf 1 = .ok (.getfield 9, 3) := by decide +kernel
theorem dX0_strokesOf_4 : decode cX0_strokesOf 4 = .ok (.iload_n 1, 1) := by decide +kernel
theorem dX0_strokesOf_5 : decode cX0_strokesOf 5 = .ok (.invokestatic 39, 3) := by decide +kernel
theorem dX0_strokesOf_8 : decode cX0_strokesOf 8 = .ok (.ireturn, 1) := by decide +kernel
set_option maxRecDepth 20000 in
theorem ggX0_pointsOf_X0_strokesOf : GoodIn wsX0_pointsOf wsX0_strokesOf := goodIn_r _ [5, 6, 7, 8, 9, 15, 16, 17, 18, 19] (by decide +kernel) (by decide +kernel)
set_option maxRecDepth 20000 in
theorem gX0_pointsOf_X0_strokesOf : GoodIn wsX0_pointsOf (wsV RX0 43 RX0 yX0_strokesOf wsX0_strokesOf) := goodIn_app (goodIn_of _ (by decide +kernel)) ggX0_pointsOf_X0_strokesOf
set_option maxRecDepth 20000 in
theorem ggX0_pointsOf_X0_lengthOf : GoodIn wsX0_pointsOf wsX0_lengthOf := goodIn_r _ [13, 14, 7, 8, 9, 15, 16, 17, 18, 19] (by decide +kernel) (by decide +kernel)
set_option maxRecDepth 20000 in
theorem gX0_pointsOf_X0_lengthOf : GoodIn wsX0_pointsOf (wsV RX0 47 RX0 yX0_lengthOf wsX0_lengthOf) := goodIn_app (goodIn_of _ (by decide +kernel)) ggX0_pointsOf_X0_lengthOf
theorem dX0_pointsOf_0 : decode cX0_pointsOf 0 = .ok (.iconst 0, 1) := by decide +kernel
theorem dX0_pointsOf_1 : decode cX0_pointsOf 1 = .ok (.istore_n 2, 1) := by decide +kernel
theorem dX0_pointsOf_2 : decode cX0_pointsOf 2 = .ok (.iconst 0, 1) := by decide +kernel
theorem dX0_pointsOf_3 : decode cX0_pointsOf 3 = .ok (.istore_n 3, 1) := by decide +kernel
theorem dX0_pointsOf_4 : decode cX0_pointsOf 4 = .ok (.iload_n 3, 1) := by decide +kernel
theorem dX0_pointsOf_5 : decode cX0_pointsOf 5 = .ok (.aload_n 0, 1) := by decide +kernel
theorem dX0_pointsOf_6 : decode cX0_pointsOf 6 = .ok (.iload_n 1, 1) := by decide +kernel
theorem dX0_pointsOf_7 : decode cX0_pointsOf 7 = .ok (.invokevirtual 43, 3) := by decide +kernel
theorem dX0_pointsOf_10 : decode cX0_pointsOf 10 = .ok (.if_icmp .ge 18, 3) := by decide +kernel
theorem dX0_pointsOf_13 : decode cX0_pointsOf 13 = .ok (.iload_n 2, 1) := by decide +kernel
theorem dX0_pointsOf_14 : decode cX0_pointsOf 14 = .ok (.aload_n 0, 1) := by decide +kernel
theorem dX0_pointsOf_15 : decode cX0_pointsOf 15 = .ok (.iload_n 1, 1) := by decide +kernel
theorem dX0_pointsOf_16 : decode cX0_pointsOf 16 = .ok (.iload_n 3, 1) := by decide +kernel
theorem dX0_pointsOf_17 : decode cX0_pointsOf 17 = .ok (.invokevirtual 47, 3) := by decide +kernel
theorem dX0_pointsOf_20 : decode cX0_pointsOf 20 = .ok (.iadd, 1) := by decide +kernel
theorem dX0_pointsOf_21 : decode cX0_pointsOf 21 = .ok (.istore_n 2, 1) := by decide +kernel
theorem dX0_pointsOf_22 : decode cX0_pointsOf 22 = .ok (.iinc 3 1, 3) := by decide +kernel
theorem dX0_pointsOf_25 : decode cX0_pointsOf 25 = .ok (.goto (-21), 3) := by decide +kernel
theorem dX0_pointsOf_28 : decode cX0_pointsOf 28 = .ok (.iload_n 2, 1) := by decide +kernel
theorem dX0_pointsOf_29 : decode cX0_pointsOf 29 = .ok (.ireturn, 1) := by decide +kernel
set_option maxRecDepth 20000 in
theorem ggX0_signsOf_X6_cell : GoodIn wsX0_signsOf wsX6_cell := goodIn_r _ [4] (by decide +kernel) (by decide +kernel)
set_option maxRecDepth 20000 in
theorem gX0_signsOf_X6_cell_n39 : GoodIn wsX0_signsOf (wsX6_cell) := ggX0_signsOf_X6_cell
theorem dX0_signsOf_0 : decode cX0_signsOf 0 = .ok (.aload_n 0, 1) := by decide +kernel
theorem dX0_signsOf_1 : decode cX0_signsOf 1 = .ok (.getfield 21, 3) := by decide +kernel
theorem dX0_signsOf_4 : decode cX0_signsOf 4 = .ok (.iload_n 1, 1) := by decide +kernel
theorem dX0_signsOf_5 : decode cX0_signsOf 5 = .ok (.invokestatic 39, 3) := by decide +kernel
theorem dX0_signsOf_8 : decode cX0_signsOf 8 = .ok (.ireturn, 1) := by decide +kernel
set_option maxRecDepth 20000 in
theorem ggX0_signAt_X6_cell : GoodIn wsX0_signAt wsX6_cell := goodIn_r _ [5] (by decide +kernel) (by decide +kernel)
set_option maxRecDepth 20000 in
theorem gX0_signAt_X6_cell_n39 : GoodIn wsX0_signAt (wsX6_cell) := ggX0_signAt_X6_cell
theorem dX0_signAt_0 : decode cX0_signAt 0 = .ok (.iload_n 2, 1) := by decide +kernel
theorem dX0_signAt_1 : decode cX0_signAt 1 = .ok (.ifCond .lt 19, 3) := by decide +kernel
theorem dX0_signAt_4 : decode cX0_signAt 4 = .ok (.iload_n 2, 1) := by decide +kernel
theorem dX0_signAt_5 : decode cX0_signAt 5 = .ok (.aload_n 0, 1) := by decide +kernel
theorem dX0_signAt_6 : decode cX0_signAt 6 = .ok (.getfield 21, 3) := by decide +kernel
theorem dX0_signAt_9 : decode cX0_signAt 9 = .ok (.iload_n 1, 1) := by decide +kernel
theorem dX0_signAt_10 : decode cX0_signAt 10 = .ok (.invokestatic 39, 3) := by decide +kernel
theorem dX0_signAt_13 : decode cX0_signAt 13 = .ok (.if_icmp .ge 7, 3) := by decide +kernel
theorem dX0_signAt_16 : decode cX0_signAt 16 = .ok (.iconst 1, 1) := by decide +kernel
theorem dX0_signAt_17 : decode cX0_signAt 17 = .ok (.goto 4, 3) := by decide +kernel
theorem dX0_signAt_20 : decode cX0_signAt 20 = .ok (.iconst 0, 1) := by decide +kernel
theorem dX0_signAt_21 : decode cX0_signAt 21 = .ok (.istore_n 3, 1) := by decide +kernel
theorem dX0_signAt_22 : decode cX0_signAt 22 = .ok (.iload_n 3, 1) := by decide +kernel
theorem dX0_signAt_23 : decode cX0_signAt 23 = .ok (.ifCond .eq 19, 3) := by decide +kernel
theorem dX0_signAt_26 : decode cX0_signAt 26 = .ok (.aload_n 0, 1) := by decide +kernel
theorem dX0_signAt_27 : decode cX0_signAt 27 = .ok (.getfield 24, 3) := by decide +kernel
theorem dX0_signAt_30 : decode cX0_signAt 30 = .ok (.iload_n 1, 1) := by decide +kernel
theorem dX0_signAt_31 : decode cX0_signAt 31 = .ok (.bipush 40, 2) := by decide +kernel
theorem dX0_signAt_33 : decode cX0_signAt 33 = .ok (.imul, 1) := by decide +kernel
theorem dX0_signAt_34 : decode cX0_signAt 34 = .ok (.iload_n 2, 1) := by decide +kernel
theorem dX0_signAt_35 : decode cX0_signAt 35 = .ok (.iadd, 1) := by decide +kernel
theorem dX0_signAt_36 : decode cX0_signAt 36 = .ok (.invokestatic 39, 3) := by decide +kernel
theorem dX0_signAt_39 : decode cX0_signAt 39 = .ok (.goto 4, 3) := by decide +kernel
theorem dX0_signAt_42 : decode cX0_signAt 42 = .ok (.iconst (-1), 1) := by decide +kernel
theorem dX0_signAt_43 : decode cX0_signAt 43 = .ok (.ireturn, 1) := by decide +kernel
set_option maxRecDepth 20000 in
theorem ggX0_lengthOf_X6_cell : GoodIn wsX0_lengthOf wsX6_cell := goodIn_r _ [4] (by decide +kernel) (by decide +kernel)
set_option maxRecDepth 20000 in
theorem gX0_lengthOf_X6_cell_n39 : GoodIn wsX0_lengthOf (wsX6_cell) := ggX0_lengthOf_X6_cell
theorem dX0_lengthOf_0 : decode cX0_lengthOf 0 = .ok (.aload_n 0, 1) := by decide +kernel
theorem dX0_lengthOf_1 : decode cX0_lengthOf 1 = .ok (.getfield 15, 3) := by decide +kernel
theorem dX0_lengthOf_4 : decode cX0_lengthOf 4 = .ok (.iload_n 1, 1) := by decide +kernel
theorem dX0_lengthOf_5 : decode cX0_lengthOf 5 = .ok (.iconst 3, 1) := by decide +kernel
theorem dX0_lengthOf_6 : decode cX0_lengthOf 6 = .ok (.imul, 1) := by decide +kernel
theorem dX0_lengthOf_7 : decode cX0_lengthOf 7 = .ok (.iload_n 2, 1) := by decide +kernel
theorem dX0_lengthOf_8 : decode cX0_lengthOf 8 = .ok (.iadd, 1) := by decide +kernel
theorem dX0_lengthOf_9 : decode cX0_lengthOf 9 = .ok (.invokestatic 39, 3) := by decide +kernel
theorem dX0_lengthOf_12 : decode cX0_lengthOf 12 = .ok (.ireturn, 1) := by decide +kernel
set_option maxRecDepth 20000 in
theorem ggX0_pointAt_X6_cell : GoodIn wsX0_pointAt wsX6_cell := goodIn_r _ [4] (by decide +kernel) (by decide +kernel)
set_option maxRecDepth 20000 in
theorem gX0_pointAt_X6_cell_n39 : GoodIn wsX0_pointAt (wsX6_cell) := ggX0_pointAt_X6_cell
theorem dX0_pointAt_0 : decode cX0_pointAt 0 = .ok (.aload_n 0, 1) := by decide +kernel
theorem dX0_pointAt_1 : decode cX0_pointAt 1 = .ok (.getfield 18, 3) := by decide +kernel
theorem dX0_pointAt_4 : decode cX0_pointAt 4 = .ok (.iload_n 1, 1) := by decide +kernel
theorem dX0_pointAt_5 : decode cX0_pointAt 5 = .ok (.iconst 3, 1) := by decide +kernel
theorem dX0_pointAt_6 : decode cX0_pointAt 6 = .ok (.imul, 1) := by decide +kernel
theorem dX0_pointAt_7 : decode cX0_pointAt 7 = .ok (.iload_n 2, 1) := by decide +kernel
theorem dX0_pointAt_8 : decode cX0_pointAt 8 = .ok (.iadd, 1) := by decide +kernel
theorem dX0_pointAt_9 : decode cX0_pointAt 9 = .ok (.bipush 12, 2) := by decide +kernel
theorem dX0_pointAt_11 : decode cX0_pointAt 11 = .ok (.imul, 1) := by decide +kernel
theorem dX0_pointAt_12 : decode cX0_pointAt 12 = .ok (.iload_n 3, 1) := by decide +kernel
theorem dX0_pointAt_13 : decode cX0_pointAt 13 = .ok (.iadd, 1) := by decide +kernel
theorem dX0_pointAt_14 : decode cX0_pointAt 14 = .ok (.invokestatic 39, 3) := by decide +kernel
theorem dX0_pointAt_17 : decode cX0_pointAt 17 = .ok (.ireturn, 1) := by decide +kernel
set_option maxRecDepth 20000 in
theorem ggX0_putPoint_X6_putCell : GoodIn wsX0_putPoint wsX6_putCell := goodIn_r _ [4] (by decide +kernel) (by decide +kernel)
set_option maxRecDepth 20000 in
theorem gX0_putPoint_X6_putCell_n35 : GoodIn wsX0_putPoint (wsX6_putCell) := ggX0_putPoint_X6_putCell
theorem dX0_putPoint_0 : decode cX0_putPoint 0 = .ok (.aload_n 0, 1) := by decide +kernel
theorem dX0_putPoint_1 : decode cX0_putPoint 1 = .ok (.getfield 18, 3) := by decide +kernel
theorem dX0_putPoint_4 : decode cX0_putPoint 4 = .ok (.iload_n 1, 1) := by decide +kernel
theorem dX0_putPoint_5 : decode cX0_putPoint 5 = .ok (.iconst 3, 1) := by decide +kernel
theorem dX0_putPoint_6 : decode cX0_putPoint 6 = .ok (.imul, 1) := by decide +kernel
theorem dX0_putPoint_7 : decode cX0_putPoint 7 = .ok (.iload_n 2, 1) := by decide +kernel
theorem dX0_putPoint_8 : decode cX0_putPoint 8 = .ok (.iadd, 1) := by decide +kernel
theorem dX0_putPoint_9 : decode cX0_putPoint 9 = .ok (.bipush 12, 2) := by decide +kernel
theorem dX0_putPoint_11 : decode cX0_putPoint 11 = .ok (.imul, 1) := by decide +kernel
theorem dX0_putPoint_12 : decode cX0_putPoint 12 = .ok (.iload_n 3, 1) := by decide +kernel
theorem dX0_putPoint_13 : decode cX0_putPoint 13 = .ok (.iadd, 1) := by decide +kernel
theorem dX0_putPoint_14 : decode cX0_putPoint 14 = .ok (.iload 4, 2) := by decide +kernel
theorem dX0_putPoint_16 : decode cX0_putPoint 16 = .ok (.invokestatic 35, 3) := by decide +kernel
theorem dX0_putPoint_19 : decode cX0_putPoint 19 = .ok (.return_, 1) := by decide +kernel
set_option maxRecDepth 20000 in
theorem ggX0_beginStroke_X0_strokesOf : GoodIn wsX0_beginStroke wsX0_strokesOf := goodIn_r _ [7, 1, 8, 9, 10, 28, 29, 30, 31, 32] (by decide +kernel) (by decide +kernel)
set_option maxRecDepth 20000 in
theorem gX0_beginStroke_X0_strokesOf : GoodIn wsX0_beginStroke (wsV RX0 43 RX0 yX0_strokesOf wsX0_strokesOf) := goodIn_app (goodIn_of _ (by decide +kernel)) ggX0_beginStroke_X0_strokesOf
set_option maxRecDepth 20000 in
theorem ggX0_beginStroke_X0_signsOf : GoodIn wsX0_beginStroke wsX0_signsOf := goodIn_r _ [14, 15, 8, 9, 10, 28, 29, 30, 31, 32] (by decide +kernel) (by decide +kernel)
set_option maxRecDepth 20000 in
theorem gX0_beginStroke_X0_signsOf : GoodIn wsX0_beginStroke (wsV RX0 51 RX0 yX0_signsOf wsX0_signsOf) := goodIn_app (goodIn_of _ (by decide +kernel)) ggX0_beginStroke_X0_signsOf
set_option maxRecDepth 20000 in
theorem ggX0_beginStroke_X6_putCell : GoodIn wsX0_beginStroke wsX6_putCell := goodIn_r _ [17] (by decide +kernel) (by decide +kernel)
set_option maxRecDepth 20000 in
theorem gX0_beginStroke_X6_putCell_n35 : GoodIn wsX0_beginStroke (wsX6_putCell) := ggX0_beginStroke_X6_putCell
set_option maxRecDepth 20000 in
theorem ggX0_beginStroke_X0_putPoint : GoodIn wsX0_beginStroke wsX0_putPoint := goodIn_r _ [21, 22, 16, 9, 17, 28, 29, 30, 31, 32] (by decide +kernel) (by decide +kernel)
set_option maxRecDepth 20000 in
theorem gX0_beginStroke_X0_putPoint : GoodIn wsX0_beginStroke (wsV RX0 54 RX0 yX0_putPoint wsX0_putPoint) := goodIn_app (goodIn_of _ (by decide +kernel)) ggX0_beginStroke_X0_putPoint
set_option maxRecDepth 20000 in
theorem ggX0_beginStroke_X0_writeSign : GoodIn wsX0_beginStroke wsX0_writeSign := goodIn_r _ [26, 27, 15, 11, 12, 13, 6, 14, 8, 9, 10, 16, 17, 28, 29, 30, 31, 32] (by decide +kernel) (by decide +kernel)
set_option maxRecDepth 20000 in
theorem gX0_beginStroke_X0_writeSign : GoodIn wsX0_beginStroke (wsV RX0 58 RX0 yX0_writeSign wsX0_writeSign) := goodIn_app (goodIn_of _ (by decide +kernel)) ggX0_beginStroke_X0_writeSign
theorem dX0_beginStroke_0 : decode cX0_beginStroke 0 = .ok (.aload_n 0, 1) := by decide +kernel
theorem dX0_beginStroke_1 : decode cX0_beginStroke 1 = .ok (.iload_n 1, 1) := by decide +kernel
theorem dX0_beginStroke_2 : decode cX0_beginStroke 2 = .ok (.invokevirtual 43, 3) := by decide +kernel
theorem dX0_beginStroke_5 : decode cX0_beginStroke 5 = .ok (.istore_n 3, 1) := by decide +kernel
theorem dX0_beginStroke_6 : decode cX0_beginStroke 6 = .ok (.iload_n 3, 1) := by decide +kernel
theorem dX0_beginStroke_7 : decode cX0_beginStroke 7 = .ok (.ifCond .le 7, 3) := by decide +kernel
theorem dX0_beginStroke_10 : decode cX0_beginStroke 10 = .ok (.iconst 1, 1) := by decide +kernel
theorem dX0_beginStroke_11 : decode cX0_beginStroke 11 = .ok (.goto 4, 3) := by decide +kernel
theorem dX0_beginStroke_14 : decode cX0_beginStroke 14 = .ok (.iconst 0, 1) := by decide +kernel
theorem dX0_beginStroke_15 : decode cX0_beginStroke 15 = .ok (.istore 4, 2) := by decide +kernel
theorem dX0_beginStroke_17 : decode cX0_beginStroke 17 = .ok (.iload_n 3, 1) := by decide +kernel
theorem dX0_beginStroke_18 : decode cX0_beginStroke 18 = .ok (.iconst 3, 1) := by decide +kernel
theorem dX0_beginStroke_19 : decode cX0_beginStroke 19 = .ok (.if_icmp .ge 16, 3) := by decide +kernel
theorem dX0_beginStroke_22 : decode cX0_beginStroke 22 = .ok (.aload_n 0, 1) := by decide +kernel
theorem dX0_beginStroke_23 : decode cX0_beginStroke 23 = .ok (.iload_n 1, 1) := by decide +kernel
theorem dX0_beginStroke_24 : decode cX0_beginStroke 24 = .ok (.invokevirtual 51, 3) := by decide +kernel
theorem dX0_beginStroke_27 : decode cX0_beginStroke 27 = .ok (.iload 4, 2) := by decide +kernel
theorem dX0_beginStroke_29 : decode cX0_beginStroke 29 = .ok (.iadd, 1) := by decide +kernel
theorem dX0_beginStroke_30 : decode cX0_beginStroke 30 = .ok (.bipush 40, 2) := by decide +kernel
theorem dX0_beginStroke_32 : decode cX0_beginStroke 32 = .ok (.if_icmp .le 5, 3) := by decide +kernel
theorem dX0_beginStroke_35 : decode cX0_beginStroke 35 = .ok (.iconst 0, 1) := by decide +kernel
theorem dX0_beginStroke_36 : decode cX0_beginStroke 36 = .ok (.ireturn, 1) := by decide +kernel
theorem dX0_beginStroke_37 : decode cX0_beginStroke 37 = .ok (.aload_n 0, 1) := by decide +kernel
theorem dX0_beginStroke_38 : decode cX0_beginStroke 38 = .ok (.getfield 9, 3) := by decide +kernel
theorem dX0_beginStroke_41 : decode cX0_beginStroke 41 = .ok (.iload_n 1, 1) := by decide +kernel
theorem dX0_beginStroke_42 : decode cX0_beginStroke 42 = .ok (.iload_n 3, 1) := by decide +kernel
theorem dX0_beginStroke_43 : decode cX0_beginStroke 43 = .ok (.iconst 1, 1) := by decide +kernel
theorem dX0_beginStroke_44 : decode cX0_beginStroke 44 = .ok (.iadd, 1) := by decide +kernel
theorem dX0_beginStroke_45 : decode cX0_beginStroke 45 = .ok (.invokestatic 35, 3) := by decide +kernel
theorem dX0_beginStroke_48 : decode cX0_beginStroke 48 = .ok (.aload_n 0, 1) := by decide +kernel
theorem dX0_beginStroke_49 : decode cX0_beginStroke 49 = .ok (.getfield 15, 3) := by decide +kernel
theorem dX0_beginStroke_52 : decode cX0_beginStroke 52 = .ok (.iload_n 1, 1) := by decide +kernel
theorem dX0_beginStroke_53 : decode cX0_beginStroke 53 = .ok (.iconst 3, 1) := by decide +kernel
theorem dX0_beginStroke_54 : decode cX0_beginStroke 54 = .ok (.imul, 1) := by decide +kernel
theorem dX0_beginStroke_55 : decode cX0_beginStroke 55 = .ok (.iload_n 3, 1) := by decide +kernel
theorem dX0_beginStroke_56 : decode cX0_beginStroke 56 = .ok (.iadd, 1) := by decide +kernel
theorem dX0_beginStroke_57 : decode cX0_beginStroke 57 = .ok (.iconst 1, 1) := by decide +kernel
theorem dX0_beginStroke_58 : decode cX0_beginStroke 58 = .ok (.invokestatic 35, 3) := by decide +kernel
theorem dX0_beginStroke_61 : decode cX0_beginStroke 61 = .ok (.aload_n 0, 1) := by decide +kernel
theorem dX0_beginStroke_62 : decode cX0_beginStroke 62 = .ok (.iload_n 1, 1) := by decide +kernel
theorem dX0_beginStroke_63 : decode cX0_beginStroke 63 = .ok (.iload_n 3, 1) := by decide +kernel
theorem dX0_beginStroke_64 : decode cX0_beginStroke 64 = .ok (.iconst 0, 1) := by decide +kernel
theorem dX0_beginStroke_65 : decode cX0_beginStroke 65 = .ok (.iload_n 2, 1) := by decide +kernel
theorem dX0_beginStroke_66 : decode cX0_beginStroke 66 = .ok (.invokevirtual 54, 3) := by decide +kernel
theorem dX0_beginStroke_69 : decode cX0_beginStroke 69 = .ok (.iload_n 3, 1) := by decide +kernel
theorem dX0_beginStroke_70 : decode cX0_beginStroke 70 = .ok (.ifCond .le 9, 3) := by decide +kernel
theorem dX0_beginStroke_73 : decode cX0_beginStroke 73 = .ok (.aload_n 0, 1) := by decide +kernel
theorem dX0_beginStroke_74 : decode cX0_beginStroke 74 = .ok (.iload_n 1, 1) := by decide +kernel
theorem dX0_beginStroke_75 : decode cX0_beginStroke 75 = .ok (.iconst 4, 1) := by decide +kernel
theorem dX0_beginStroke_76 : decode cX0_beginStroke 76 = .ok (.invokevirtual 58, 3) := by decide +kernel
theorem dX0_beginStroke_79 : decode cX0_beginStroke 79 = .ok (.iconst 1, 1) := by decide +kernel
theorem dX0_beginStroke_80 : decode cX0_beginStroke 80 = .ok (.ireturn, 1) := by decide +kernel
set_option maxRecDepth 20000 in
theorem ggX0_extendStroke_X0_strokesOf : GoodIn wsX0_extendStroke wsX0_strokesOf := goodIn_r _ [6, 7, 8, 9, 10, 53, 54, 55, 56, 57] (by decide +kernel) (by decide +kernel)
set_option maxRecDepth 20000 in
theorem gX0_extendStroke_X0_strokesOf : GoodIn wsX0_extendStroke (wsV RX0 43 RX0 yX0_strokesOf wsX0_strokesOf) := goodIn_app (goodIn_of _ (by decide +kernel)) ggX0_extendStroke_X0_strokesOf
set_option maxRecDepth 20000 in
theorem ggX0_extendStroke_X0_lengthOf : GoodIn wsX0_extendStroke wsX0_lengthOf := goodIn_r _ [14, 1, 8, 9, 10, 53, 54, 55, 56, 57] (by decide +kernel) (by decide +kernel)
set_option maxRecDepth 20000 in
theorem gX0_extendStroke_X0_lengthOf : GoodIn wsX0_extendStroke (wsV RX0 47 RX0 yX0_lengthOf wsX0_lengthOf) := goodIn_app (goodIn_of _ (by decide +kernel)) ggX0_extendStroke_X0_lengthOf
set_option maxRecDepth 20000 in
theorem ggX0_extendStroke_X0_pointAt : GoodIn wsX0_extendStroke wsX0_pointAt := goodIn_r _ [18, 19, 8, 9, 10, 53, 54, 55, 56, 57] (by decide +kernel) (by decide +kernel)
set_option maxRecDepth 20000 in
theorem gX0_extendStroke_X0_pointAt : GoodIn wsX0_extendStroke (wsV RX0 62 RX0 yX0_pointAt wsX0_pointAt) := goodIn_app (goodIn_of _ (by decide +kernel)) ggX0_extendStroke_X0_pointAt
set_option maxRecDepth 20000 in
theorem ggX0_extendStroke_X0_signsOf : GoodIn wsX0_extendStroke wsX0_signsOf := goodIn_r _ [23, 24, 8, 9, 10, 53, 54, 55, 56, 57] (by decide +kernel) (by decide +kernel)
set_option maxRecDepth 20000 in
theorem gX0_extendStroke_X0_signsOf : GoodIn wsX0_extendStroke (wsV RX0 51 RX0 yX0_signsOf wsX0_signsOf) := goodIn_app (goodIn_of _ (by decide +kernel)) ggX0_extendStroke_X0_signsOf
set_option maxRecDepth 20000 in
theorem ggX0_extendStroke_X0_crossings : GoodIn wsX0_extendStroke wsX0_crossings := goodIn_r _ [27, 28, 29, 5, 30, 31, 32, 33, 34] (by decide +kernel) (by decide +kernel)
set_option maxRecDepth 20000 in
theorem gX0_extendStroke_X0_crossings : GoodIn wsX0_extendStroke (va_wsS RX0 66 yX0_crossings wsX0_crossings) := goodIn_app (goodIn_of _ (by decide +kernel)) ggX0_extendStroke_X0_crossings
set_option maxRecDepth 20000 in
theorem ggX0_extendStroke_X6_putCell : GoodIn wsX0_extendStroke wsX6_putCell := goodIn_r _ [36] (by decide +kernel) (by decide +kernel)
set_option maxRecDepth 20000 in
theorem gX0_extendStroke_X6_putCell_n35 : GoodIn wsX0_extendStroke (wsX6_putCell) := ggX0_extendStroke_X6_putCell
set_option maxRecDepth 20000 in
theorem ggX0_extendStroke_X0_putPoint : GoodIn wsX0_extendStroke wsX0_putPoint := goodIn_r _ [40, 19, 35, 9, 36, 53, 54, 55, 56, 57] (by decide +kernel) (by decide +kernel)
set_option maxRecDepth 20000 in
theorem gX0_extendStroke_X0_putPoint : GoodIn wsX0_extendStroke (wsV RX0 54 RX0 yX0_putPoint wsX0_putPoint) := goodIn_app (goodIn_of _ (by decide +kernel)) ggX0_extendStroke_X0_putPoint
set_option maxRecDepth 20000 in
theorem ggX0_extendStroke_X0_writeCrossings_p0 : GoodIn wsX0_extendStroke [.code yX0_writeCrossings cX0_writeCrossings 18 none] := goodIn_r _ [44] (by decide +kernel) (by decide +kernel)
theorem ggX0_extendStroke_X0_writeCrossings_p1 : GoodIn wsX0_extendStroke wsX0_writeCrossings_r1 := goodIn_r _ [31, 32, 33, 34, 28, 29, 5, 30, 45, 46, 47, 48, 49, 50, 51, 52, 24, 20, 21, 22, 23, 8, 9, 10] (by decide +kernel) (by decide +kernel)
theorem ggX0_extendStroke_X0_writeCrossings_p2 : GoodIn wsX0_extendStroke wsX0_writeCrossings_r2 := goodIn_r _ [35, 36] (by decide +kernel) (by decide +kernel)
theorem ggX0_extendStroke_X0_writeCrossings_p3 : GoodIn wsX0_extendStroke wsX00 := goodIn_r _ [53, 54, 55, 56, 57] (by decide +kernel) (by decide +kernel)
theorem ggX0_extendStroke_X0_writeCrossings : GoodIn wsX0_extendStroke wsX0_writeCrossings := (goodIn_c2 ggX0_extendStroke_X0_writeCrossings_p0 (goodIn_app (goodIn_app ggX0_extendStroke_X0_writeCrossings_p1 ggX0_extendStroke_X0_writeCrossings_p2) ggX0_extendStroke_X0_writeCrossings_p3))
set_option maxRecDepth 20000 in
theorem gX0_extendStroke_X0_writeCrossings : GoodIn wsX0_extendStroke (wsV RX0 69 RX0 yX0_writeCrossings wsX0_writeCrossings) := goodIn_app (goodIn_of _ (by decide +kernel)) ggX0_extendStroke_X0_writeCrossings
theorem dX0_extendStroke_0 : decode cX0_extendStroke 0 = .ok (.aload_n 0, 1) := by decide +kernel
theorem dX0_extendStroke_1 : decode cX0_extendStroke 1 = .ok (.iload_n 1, 1) := by decide +kernel
theorem dX0_extendStroke_2 : decode cX0_extendStroke 2 = .ok (.invokevirtual 43, 3) := by decide +kernel
theorem dX0_extendStroke_5 : decode cX0_extendStroke 5 = .ok (.iconst 1, 1) := by decide +kernel
theorem dX0_extendStroke_6 : decode cX0_extendStroke 6 = .ok (.isub, 1) := by decide +kernel
theorem dX0_extendStroke_7 : decode cX0_extendStroke 7 = .ok (.istore 4, 2) := by decide +kernel
theorem dX0_extendStroke_9 : decode cX0_extendStroke 9 = .ok (.iload 4, 2) := by decide +kernel
theorem dX0_extendStroke_11 : decode cX0_extendStroke 11 = .ok (.ifCond .ge 8, 3) := by decide +kernel
theorem dX0_extendStroke_14 : decode cX0_extendStroke 14 = .ok (.bipush 12, 2) := by decide +kernel
theorem dX0_extendStroke_16 : decode cX0_extendStroke 16 = .ok (.goto 10, 3) := by decide +kernel
theorem dX0_extendStroke_19 : decode cX0_extendStroke 19 = .ok (.aload_n 0, 1) := by decide +kernel
theorem dX0_extendStroke_20 : decode cX0_extendStroke 20 = .ok (.iload_n 1, 1) := by decide +kernel
theorem dX0_extendStroke_21 : decode cX0_extendStroke 21 = .ok (.iload 4, 2) := by decide +kernel
theorem dX0_extendStroke_23 : decode cX0_extendStroke 23 = .ok (.invokevirtual 47, 3) := by decide +kernel
theorem dX0_extendStroke_26 : decode cX0_extendStroke 26 = .ok (.istore 5, 2) := by decide +kernel
theorem dX0_extendStroke_28 : decode cX0_extendStroke 28 = .ok (.iload 5, 2) := by decide +kernel
theorem dX0_extendStroke_30 : decode cX0_extendStroke 30 = .ok (.bipush 12, 2) := by decide +kernel
theorem dX0_extendStroke_32 : decode cX0_extendStroke 32 = .ok (.if_icmp .lt 5, 3) := by decide +kernel
theorem dX0_extendStroke_35 : decode cX0_extendStroke 35 = .ok (.iconst 0, 1) := by decide +kernel
theorem dX0_extendStroke_36 : decode cX0_extendStroke 36 = .ok (.ireturn, 1) := by decide +kernel
theorem dX0_extendStroke_37 : decode cX0_extendStroke 37 = .ok (.aload_n 0, 1) := by decide +kernel
theorem dX0_extendStroke_38 : decode cX0_extendStroke 38 = .ok (.iload_n 1, 1) := by decide +kernel
theorem dX0_extendStroke_39 : decode cX0_extendStroke 39 = .ok (.iload 4, 2) := by decide +kernel
theorem dX0_extendStroke_41 : decode cX0_extendStroke 41 = .ok (.iload 5, 2) := by decide +kernel
theorem dX0_extendStroke_43 : decode cX0_extendStroke 43 = .ok (.iconst 1, 1) := by decide +kernel
theorem dX0_extendStroke_44 : decode cX0_extendStroke 44 = .ok (.isub, 1) := by decide +kernel
theorem dX0_extendStroke_45 : decode cX0_extendStroke 45 = .ok (.invokevirtual 62, 3) := by decide +kernel
theorem dX0_extendStroke_48 : decode cX0_extendStroke 48 = .ok (.istore 6, 2) := by decide +kernel
theorem dX0_extendStroke_50 : decode cX0_extendStroke 50 = .ok (.aload_n 0, 1) := by decide +kernel
theorem dX0_extendStroke_51 : decode cX0_extendStroke 51 = .ok (.iload_n 1, 1) := by decide +kernel
theorem dX0_extendStroke_52 : decode cX0_extendStroke 52 = .ok (.invokevirtual 51, 3) := by decide +kernel
theorem dX0_extendStroke_55 : decode cX0_extendStroke 55 = .ok (.iload 6, 2) := by decide +kernel
theorem dX0_extendStroke_57 : decode cX0_extendStroke 57 = .ok (.iload_n 2, 1) := by decide +kernel
theorem dX0_extendStroke_58 : decode cX0_extendStroke 58 = .ok (.iload_n 3, 1) := by decide +kernel
theorem dX0_extendStroke_59 : decode cX0_extendStroke 59 = .ok (.invokestatic 66, 3) := by decide +kernel
theorem dX0_extendStroke_62 : decode cX0_extendStroke 62 = .ok (.iadd, 1) := by decide +kernel
theorem dX0_extendStroke_63 : decode cX0_extendStroke 63 = .ok (.bipush 40, 2) := by decide +kernel
theorem dX0_extendStroke_65 : decode cX0_extendStroke 65 = .ok (.if_icmp .le 5, 3) := by decide +kernel
theorem dX0_extendStroke_68 : decode cX0_extendStroke 68 = .ok (.iconst 0, 1) := by decide +kernel
theorem dX0_extendStroke_69 : decode cX0_extendStroke 69 = .ok (.ireturn, 1) := by decide +kernel
theorem dX0_extendStroke_70 : decode cX0_extendStroke 70 = .ok (.aload_n 0, 1) := by decide +kernel
theorem dX0_extendStroke_71 : decode cX0_extendStroke 71 = .ok (.getfield 15, 3) := by decide +kernel
theorem dX0_extendStroke_74 : decode cX0_extendStroke 74 = .ok (.iload_n 1, 1) := by decide +kernel
theorem dX0_extendStroke_75 : decode cX0_extendStroke 75 = .ok (.iconst 3, 1) := by decide +kernel
theorem dX0_extendStroke_76 : decode cX0_extendStroke 76 = .ok (.imul, 1) := by decide +kernel
theorem dX0_extendStroke_77 : decode cX0_extendStroke 77 = .ok (.iload 4, 2) := by decide +kernel
theorem dX0_extendStroke_79 : decode cX0_extendStroke 79 = .ok (.iadd, 1) := by decide +kernel
theorem dX0_extendStroke_80 : decode cX0_extendStroke 80 = .ok (.iload 5, 2) := by decide +kernel
theorem dX0_extendStroke_82 : decode cX0_extendStroke 82 = .ok (.iconst 1, 1) := by decide +kernel
theorem dX0_extendStroke_83 : decode cX0_extendStroke 83 = .ok (.iadd, 1) := by decide +kernel
theorem dX0_extendStroke_84 : decode cX0_extendStroke 84 = .ok (.invokestatic 35, 3) := by decide +kernel
theorem dX0_extendStroke_87 : decode cX0_extendStroke 87 = .ok (.aload_n 0, 1) := by decide +kernel
theorem dX0_extendStroke_88 : decode cX0_extendStroke 88 = .ok (.iload_n 1, 1) := by decide +kernel
theorem dX0_extendStroke_89 : decode cX0_extendStroke 89 = .ok (.iload 4, 2) := by decide +kernel
theorem dX0_extendStroke_91 : decode cX0_extendStroke 91 = .ok (.iload 5, 2) := by decide +kernel
theorem dX0_extendStroke_93 : decode cX0_extendStroke 93 = .ok (.iload_n 2, 1) := by decide +kernel
theorem dX0_extendStroke_94 : decode cX0_extendStroke 94 = .ok (.invokevirtual 54, 3) := by decide +kernel
theorem dX0_extendStroke_97 : decode cX0_extendStroke 97 = .ok (.aload_n 0, 1) := by decide +kernel
theorem dX0_extendStroke_98 : decode cX0_extendStroke 98 = .ok (.iload_n 1, 1) := by decide +kernel
theorem dX0_extendStroke_99 : decode cX0_extendStroke 99 = .ok (.iload 6, 2) := by decide +kernel
theorem dX0_extendStroke_101 : decode cX0_extendStroke 101 = .ok (.iload_n 2, 1) := by decide +kernel
theorem dX0_extendStroke_102 : decode cX0_extendStroke 102 = .ok (.iload_n 3, 1) := by decide +kernel
theorem dX0_extendStroke_103 : decode cX0_extendStroke 103 = .ok (.invokevirtual 69, 3) := by decide +kernel
theorem dX0_extendStroke_106 : decode cX0_extendStroke 106 = .ok (.iconst 1, 1) := by decide +kernel
theorem dX0_extendStroke_107 : decode cX0_extendStroke 107 = .ok (.ireturn, 1) := by decide +kernel
set_option maxRecDepth 20000 in
theorem ggX0_mirrorPlace_X0_strokesOf : GoodIn wsX0_mirrorPlace wsX0_strokesOf := goodIn_r _ [5, 6, 7, 8, 9, 26, 27, 28, 29, 30] (by decide +kernel) (by decide +kernel)
set_option maxRecDepth 20000 in
theorem gX0_mirrorPlace_X0_strokesOf : GoodIn wsX0_mirrorPlace (wsV RX0 43 RX0 yX0_strokesOf wsX0_strokesOf) := goodIn_app (goodIn_of _ (by decide +kernel)) ggX0_mirrorPlace_X0_strokesOf
set_option maxRecDepth 20000 in
theorem ggX0_mirrorPlace_X0_lengthOf : GoodIn wsX0_mirrorPlace wsX0_lengthOf := goodIn_r _ [13, 14, 7, 8, 9, 26, 27, 28, 29, 30] (by decide +kernel) (by decide +kernel)
set_option maxRecDepth 20000 in
theorem gX0_mirrorPlace_X0_lengthOf : GoodIn wsX0_mirrorPlace (wsV RX0 47 RX0 yX0_lengthOf wsX0_lengthOf) := goodIn_app (goodIn_of _ (by decide +kernel)) ggX0_mirrorPlace_X0_lengthOf
set_option maxRecDepth 20000 in
theorem ggX0_mirrorPlace_X0_pointAt : GoodIn wsX0_mirrorPlace wsX0_pointAt := goodIn_r _ [18, 19, 7, 8, 9, 26, 27, 28, 29, 30] (by decide +kernel) (by decide +kernel)
set_option maxRecDepth 20000 in
theorem gX0_mirrorPlace_X0_pointAt : GoodIn wsX0_mirrorPlace (wsV RX0 62 RX0 yX0_pointAt wsX0_pointAt) := goodIn_app (goodIn_of _ (by decide +kernel)) ggX0_mirrorPlace_X0_pointAt
set_option maxRecDepth 20000 in
theorem ggX0_mirrorPlace_X0_putPoint : GoodIn wsX0_mirrorPlace wsX0_putPoint := goodIn_r _ [23, 19, 24, 8, 25, 26, 27, 28, 29, 30] (by decide +kernel) (by decide +kernel)
set_option maxRecDepth 20000 in
theorem gX0_mirrorPlace_X0_putPoint : GoodIn wsX0_mirrorPlace (wsV RX0 54 RX0 yX0_putPoint wsX0_putPoint) := goodIn_app (goodIn_of _ (by decide +kernel)) ggX0_mirrorPlace_X0_putPoint
theorem dX0_mirrorPlace_0 : decode cX0_mirrorPlace 0 = .ok (.iconst 0, 1) := by decide +kernel
theorem dX0_mirrorPlace_1 : decode cX0_mirrorPlace 1 = .ok (.istore_n 2, 1) := by decide +kernel
theorem dX0_mirrorPlace_2 : decode cX0_mirrorPlace 2 = .ok (.iload_n 2, 1) := by decide +kernel
theorem dX0_mirrorPlace_3 : decode cX0_mirrorPlace 3 = .ok (.aload_n 0, 1) := by decide +kernel
theorem dX0_mirrorPlace_4 : decode cX0_mirrorPlace 4 = .ok (.iload_n 1, 1) := by decide +kernel
theorem dX0_mirrorPlace_5 : decode cX0_mirrorPlace 5 = .ok (.invokevirtual 43, 3) := by decide +kernel
theorem dX0_mirrorPlace_8 : decode cX0_mirrorPlace 8 = .ok (.if_icmp .ge 64, 3) := by decide +kernel
theorem dX0_mirrorPlace_11 : decode cX0_mirrorPlace 11 = .ok (.iconst 0, 1) := by decide +kernel
theorem dX0_mirrorPlace_12 : decode cX0_mirrorPlace 12 = .ok (.istore_n 3, 1) := by decide +kernel
theorem dX0_mirrorPlace_13 : decode cX0_mirrorPlace 13 = .ok (.iload_n 3, 1) := by decide +kernel
theorem dX0_mirrorPlace_14 : decode cX0_mirrorPlace 14 = .ok (.aload_n 0, 1) := by decide +kernel
theorem dX0_mirrorPlace_15 : decode cX0_mirrorPlace 15 = .ok (.iload_n 1, 1) := by decide +kernel
theorem dX0_mirrorPlace_16 : decode cX0_mirrorPlace 16 = .ok (.iload_n 2, 1) := by decide +kernel
theorem dX0_mirrorPlace_17 : decode cX0_mirrorPlace 17 = .ok (.invokevirtual 47, 3) := by decide +kernel
theorem dX0_mirrorPlace_20 : decode cX0_mirrorPlace 20 = .ok (.if_icmp .ge 46, 3) := by decide +kernel
theorem dX0_mirrorPlace_23 : decode cX0_mirrorPlace 23 = .ok (.aload_n 0, 1) := by decide +kernel
theorem dX0_mirrorPlace_24 : decode cX0_mirrorPlace 24 = .ok (.iload_n 1, 1) := by decide +kernel
theorem dX0_mirrorPlace_25 : decode cX0_mirrorPlace 25 = .ok (.iload_n 2, 1) := by decide +kernel
theorem dX0_mirrorPlace_26 : decode cX0_mirrorPlace 26 = .ok (.iload_n 3, 1) := by decide +kernel
theorem dX0_mirrorPlace_27 : decode cX0_mirrorPlace 27 = .ok (.invokevirtual 62, 3) := by decide +kernel
theorem dX0_mirrorPlace_30 : decode cX0_mirrorPlace 30 = .ok (.istore 4, 2) := by decide +kernel
theorem dX0_mirrorPlace_32 : decode cX0_mirrorPlace 32 = .ok (.bipush 60, 2) := by decide +kernel
theorem dX0_mirrorPlace_34 : decode cX0_mirrorPlace 34 = .ok (.iload 4, 2) := by decide +kernel
theorem dX0_mirrorPlace_36 : decode cX0_mirrorPlace 36 = .ok (.bipush 61, 2) := by decide +kernel
theorem dX0_mirrorPlace_38 : decode cX0_mirrorPlace 38 = .ok (.idiv, 1) := by decide +kernel
theorem dX0_mirrorPlace_39 : decode cX0_mirrorPlace 39 = .ok (.isub, 1) := by decide +kernel
theorem dX0_mirrorPlace_40 : decode cX0_mirrorPlace 40 = .ok (.istore 5, 2) := by decide +kernel
theorem dX0_mirrorPlace_42 : decode cX0_mirrorPlace 42 = .ok (.aload_n 0, 1) := by decide +kernel
theorem dX0_mirrorPlace_43 : decode cX0_mirrorPlace 43 = .ok (.iload_n 1, 1) := by decide +kernel
theorem dX0_mirrorPlace_44 : decode cX0_mirrorPlace 44 = .ok (.iload_n 2, 1) := by decide +kernel
theorem dX0_mirrorPlace_45 : decode cX0_mirrorPlace 45 = .ok (.iload_n 3, 1) := by decide +kernel
theorem dX0_mirrorPlace_46 : decode cX0_mirrorPlace 46 = .ok (.iload 5, 2) := by decide +kernel
theorem dX0_mirrorPlace_48 : decode cX0_mirrorPlace 48 = .ok (.bipush 61, 2) := by decide +kernel
theorem dX0_mirrorPlace_50 : decode cX0_mirrorPlace 50 = .ok (.imul, 1) := by decide +kernel
theorem dX0_mirrorPlace_51 : decode cX0_mirrorPlace 51 = .ok (.iload 4, 2) := by decide +kernel
theorem dX0_mirrorPlace_53 : decode cX0_mirrorPlace 53 = .ok (.bipush 61, 2) := by decide +kernel
theorem dX0_mirrorPlace_55 : decode cX0_mirrorPlace 55 = .ok (.irem, 1) := by decide +kernel
theorem dX0_mirrorPlace_56 : decode cX0_mirrorPlace 56 = .ok (.iadd, 1) := by decide +kernel
theorem dX0_mirrorPlace_57 : decode cX0_mirrorPlace 57 = .ok (.invokevirtual 54, 3) := by decide +kernel
theorem dX0_mirrorPlace_60 : decode cX0_mirrorPlace 60 = .ok (.iinc 3 1, 3) := by decide +kernel
theorem dX0_mirrorPlace_63 : decode cX0_mirrorPlace 63 = .ok (.goto (-50), 3) := by decide +kernel
theorem dX0_mirrorPlace_66 : decode cX0_mirrorPlace 66 = .ok (.iinc 2 1, 3) := by decide +kernel
theorem dX0_mirrorPlace_69 : decode cX0_mirrorPlace 69 = .ok (.goto (-67), 3) := by decide +kernel
theorem dX0_mirrorPlace_72 : decode cX0_mirrorPlace 72 = .ok (.return_, 1) := by decide +kernel
set_option maxRecDepth 20000 in
theorem ggX0_fits_X0_strokesOf : GoodIn wsX0_fits wsX0_strokesOf := goodIn_r _ [9, 10, 11, 12, 13, 33, 34, 35, 36, 37] (by decide +kernel) (by decide +kernel)
set_option maxRecDepth 20000 in
theorem gX0_fits_X0_strokesOf : GoodIn wsX0_fits (wsV RX0 43 RX0 yX0_strokesOf wsX0_strokesOf) := goodIn_app (goodIn_of _ (by decide +kernel)) ggX0_fits_X0_strokesOf
set_option maxRecDepth 20000 in
theorem ggX0_fits_X0_lengthOf : GoodIn wsX0_fits wsX0_lengthOf := goodIn_r _ [17, 18, 11, 12, 13, 33, 34, 35, 36, 37] (by decide +kernel) (by decide +kernel)
set_option maxRecDepth 20000 in
theorem gX0_fits_X0_lengthOf : GoodIn wsX0_fits (wsV RX0 47 RX0 yX0_lengthOf wsX0_lengthOf) := goodIn_app (goodIn_of _ (by decide +kernel)) ggX0_fits_X0_lengthOf
set_option maxRecDepth 20000 in
theorem ggX0_fits_X0_pointAt : GoodIn wsX0_fits wsX0_pointAt := goodIn_r _ [22, 23, 11, 12, 13, 33, 34, 35, 36, 37] (by decide +kernel) (by decide +kernel)
set_option maxRecDepth 20000 in
theorem gX0_fits_X0_pointAt : GoodIn wsX0_fits (wsV RX0 62 RX0 yX0_pointAt wsX0_pointAt) := goodIn_app (goodIn_of _ (by decide +kernel)) ggX0_fits_X0_pointAt
set_option maxRecDepth 20000 in
theorem ggX0_fits_X0_crossings : GoodIn wsX0_fits wsX0_crossings := goodIn_r _ [26, 27, 28, 8, 29, 30, 31, 3, 32] (by decide +kernel) (by decide +kernel)
set_option maxRecDepth 20000 in
theorem gX0_fits_X0_crossings : GoodIn wsX0_fits (va_wsS RX0 66 yX0_crossings wsX0_crossings) := goodIn_app (goodIn_of _ (by decide +kernel)) ggX0_fits_X0_crossings
theorem dX0_fits_0 : decode cX0_fits 0 = .ok (.aload_n 0, 1) := by decide +kernel
theorem dX0_fits_1 : decode cX0_fits 1 = .ok (.iload_n 1, 1) := by decide +kernel
theorem dX0_fits_2 : decode cX0_fits 2 = .ok (.invokevirtual 43, 3) := by decide +kernel
theorem dX0_fits_5 : decode cX0_fits 5 = .ok (.iconst 1, 1) := by decide +kernel
theorem dX0_fits_6 : decode cX0_fits 6 = .ok (.isub, 1) := by decide +kernel
theorem dX0_fits_7 : decode cX0_fits 7 = .ok (.iconst 0, 1) := by decide +kernel
theorem dX0_fits_8 : decode cX0_fits 8 = .ok (.invokestatic 72, 3) := by decide +kernel
theorem dX0_fits_11 : decode cX0_fits 11 = .ok (.istore_n 3, 1) := by decide +kernel
theorem dX0_fits_12 : decode cX0_fits 12 = .ok (.iconst 0, 1) := by decide +kernel
theorem dX0_fits_13 : decode cX0_fits 13 = .ok (.istore 4, 2) := by decide +kernel
theorem dX0_fits_15 : decode cX0_fits 15 = .ok (.iload 4, 2) := by decide +kernel
theorem dX0_fits_17 : decode cX0_fits 17 = .ok (.aload_n 0, 1) := by decide +kernel
theorem dX0_fits_18 : decode cX0_fits 18 = .ok (.iload_n 1, 1) := by decide +kernel
theorem dX0_fits_19 : decode cX0_fits 19 = .ok (.invokevirtual 43, 3) := by decide +kernel
theorem dX0_fits_22 : decode cX0_fits 22 = .ok (.if_icmp .ge 57, 3) := by decide +kernel
theorem dX0_fits_25 : decode cX0_fits 25 = .ok (.iconst 1, 1) := by decide +kernel
theorem dX0_fits_26 : decode cX0_fits 26 = .ok (.istore 5, 2) := by decide +kernel
theorem dX0_fits_28 : decode cX0_fits 28 = .ok (.iload 5, 2) := by decide +kernel
theorem dX0_fits_30 : decode cX0_fits 30 = .ok (.aload_n 0, 1) := by decide +kernel
theorem dX0_fits_31 : decode cX0_fits 31 = .ok (.iload_n 1, 1) := by decide +kernel
theorem dX0_fits_32 : decode cX0_fits 32 = .ok (.iload 4, 2) := by decide +kernel
theorem dX0_fits_34 : decode cX0_fits 34 = .ok (.invokevirtual 47, 3) := by decide +kernel
theorem dX0_fits_37 : decode cX0_fits 37 = .ok (.if_icmp .ge 36, 3) := by decide +kernel
theorem dX0_fits_40 : decode cX0_fits 40 = .ok (.iload_n 3, 1) := by decide +kernel
theorem dX0_fits_41 : decode cX0_fits 41 = .ok (.aload_n 0, 1) := by decide +kernel
theorem dX0_fits_42 : decode cX0_fits 42 = .ok (.iload_n 1, 1) := by decide +kernel
theorem dX0_fits_43 : decode cX0_fits 43 = .ok (.iload 4, 2) := by decide +kernel
theorem dX0_fits_45 : decode cX0_fits 45 = .ok (.iload 5, 2) := by decide +kernel
theorem dX0_fits_47 : decode cX0_fits 47 = .ok (.iconst 1, 1) := by decide +kernel
theorem dX0_fits_48 : decode cX0_fits 48 = .ok (.isub, 1) := by decide +kernel
theorem dX0_fits_49 : decode cX0_fits 49 = .ok (.invokevirtual 62, 3) := by decide +kernel
theorem dX0_fits_52 : decode cX0_fits 52 = .ok (.aload_n 0, 1) := by decide +kernel
theorem dX0_fits_53 : decode cX0_fits 53 = .ok (.iload_n 1, 1) := by decide +kernel
theorem dX0_fits_54 : decode cX0_fits 54 = .ok (.iload 4, 2) := by decide +kernel
theorem dX0_fits_56 : decode cX0_fits 56 = .ok (.iload 5, 2) := by decide +kernel
theorem dX0_fits_58 : decode cX0_fits 58 = .ok (.invokevirtual 62, 3) := by decide +kernel
theorem dX0_fits_61 : decode cX0_fits 61 = .ok (.iload_n 2, 1) := by decide +kernel
theorem dX0_fits_62 : decode cX0_fits 62 = .ok (.invokestatic 66, 3) := by decide +kernel
theorem dX0_fits_65 : decode cX0_fits 65 = .ok (.iadd, 1) := by decide +kernel
theorem dX0_fits_66 : decode cX0_fits 66 = .ok (.istore_n 3, 1) := by decide +kernel
theorem dX0_fits_67 : decode cX0_fits 67 = .ok (.iinc 5 1, 3) := by decide +kernel
theorem dX0_fits_70 : decode cX0_fits 70 = .ok (.goto (-42), 3) := by decide +kernel
theorem dX0_fits_73 : decode cX0_fits 73 = .ok (.iinc 4 1, 3) := by decide +kernel
theorem dX0_fits_76 : decode cX0_fits 76 = .ok (.goto (-61), 3) := by decide +kernel
theorem dX0_fits_79 : decode cX0_fits 79 = .ok (.iload_n 3, 1) := by decide +kernel
theorem dX0_fits_80 : decode cX0_fits 80 = .ok (.bipush 40, 2) := by decide +kernel
theorem dX0_fits_82 : decode cX0_fits 82 = .ok (.if_icmp .gt 7, 3) := by decide +kernel
theorem dX0_fits_85 : decode cX0_fits 85 = .ok (.iconst 1, 1) := by decide +kernel
theorem dX0_fits_86 : decode cX0_fits 86 = .ok (.goto 4, 3) := by decide +kernel
theorem dX0_fits_89 : decode cX0_fits 89 = .ok (.iconst 0, 1) := by decide +kernel
theorem dX0_fits_90 : decode cX0_fits 90 = .ok (.ireturn, 1) := by decide +kernel
set_option maxRecDepth 20000 in
theorem ggX0_writeSigns_X6_putCell : GoodIn wsX0_writeSigns wsX6_putCell := goodIn_r _ [4] (by decide +kernel) (by decide +kernel)
set_option maxRecDepth 20000 in
theorem gX0_writeSigns_X6_putCell_n35 : GoodIn wsX0_writeSigns (wsX6_putCell) := ggX0_writeSigns_X6_putCell
set_option maxRecDepth 20000 in
theorem ggX0_writeSigns_X0_strokesOf : GoodIn wsX0_writeSigns wsX0_strokesOf := goodIn_r _ [9, 10, 11, 3, 12, 46, 47, 48, 49, 50] (by decide +kernel) (by decide +kernel)
set_option maxRecDepth 20000 in
theorem gX0_writeSigns_X0_strokesOf : GoodIn wsX0_writeSigns (wsV RX0 43 RX0 yX0_strokesOf wsX0_strokesOf) := goodIn_app (goodIn_of _ (by decide +kernel)) ggX0_writeSigns_X0_strokesOf
set_option maxRecDepth 20000 in
theorem ggX0_writeSigns_X0_writeSign : GoodIn wsX0_writeSigns wsX0_writeSign := goodIn_r _ [16, 17, 1, 18, 19, 20, 8, 21, 11, 3, 12, 2, 4, 46, 47, 48, 49, 50] (by decide +kernel) (by decide +kernel)
set_option maxRecDepth 20000 in
theorem gX0_writeSigns_X0_writeSign : GoodIn wsX0_writeSigns (wsV RX0 58 RX0 yX0_writeSign wsX0_writeSign) := goodIn_app (goodIn_of _ (by decide +kernel)) ggX0_writeSigns_X0_writeSign
set_option maxRecDepth 20000 in
theorem ggX0_writeSigns_X0_lengthOf : GoodIn wsX0_writeSigns wsX0_lengthOf := goodIn_r _ [25, 26, 11, 3, 12, 46, 47, 48, 49, 50] (by decide +kernel) (by decide +kernel)
set_option maxRecDepth 20000 in
theorem gX0_writeSigns_X0_lengthOf : GoodIn wsX0_writeSigns (wsV RX0 47 RX0 yX0_lengthOf wsX0_lengthOf) := goodIn_app (goodIn_of _ (by decide +kernel)) ggX0_writeSigns_X0_lengthOf
set_option maxRecDepth 20000 in
theorem ggX0_writeSigns_X0_pointAt : GoodIn wsX0_writeSigns wsX0_pointAt := goodIn_r _ [30, 31, 11, 3, 12, 46, 47, 48, 49, 50] (by decide +kernel) (by decide +kernel)
set_option maxRecDepth 20000 in
theorem gX0_writeSigns_X0_pointAt : GoodIn wsX0_writeSigns (wsV RX0 62 RX0 yX0_pointAt wsX0_pointAt) := goodIn_app (goodIn_of _ (by decide +kernel)) ggX0_writeSigns_X0_pointAt
set_option maxRecDepth 20000 in
theorem ggX0_writeSigns_X0_writeCrossings_p0 : GoodIn wsX0_writeSigns [.code yX0_writeCrossings cX0_writeCrossings 18 none] := goodIn_r _ [35] (by decide +kernel) (by decide +kernel)
theorem ggX0_writeSigns_X0_writeCrossings_p1 : GoodIn wsX0_writeSigns wsX0_writeCrossings_r1 := goodIn_r _ [36, 37, 38, 39, 40, 41, 8, 42, 43, 44, 45, 13, 14, 15, 16, 17, 1, 18, 19, 20, 21, 11, 3, 12] (by decide +kernel) (by decide +kernel)
theorem ggX0_writeSigns_X0_writeCrossings_p2 : GoodIn wsX0_writeSigns wsX0_writeCrossings_r2 := goodIn_r _ [2, 4] (by decide +kernel) (by decide +kernel)
theorem ggX0_writeSigns_X0_writeCrossings_p3 : GoodIn wsX0_writeSigns wsX00 := goodIn_r _ [46, 47, 48, 49, 50] (by decide +kernel) (by decide +kernel)
theorem ggX0_writeSigns_X0_writeCrossings : GoodIn wsX0_writeSigns wsX0_writeCrossings := (goodIn_c2 ggX0_writeSigns_X0_writeCrossings_p0 (goodIn_app (goodIn_app ggX0_writeSigns_X0_writeCrossings_p1 ggX0_writeSigns_X0_writeCrossings_p2) ggX0_writeSigns_X0_writeCrossings_p3))
set_option maxRecDepth 20000 in
theorem gX0_writeSigns_X0_writeCrossings : GoodIn wsX0_writeSigns (wsV RX0 69 RX0 yX0_writeCrossings wsX0_writeCrossings) := goodIn_app (goodIn_of _ (by decide +kernel)) ggX0_writeSigns_X0_writeCrossings
theorem dX0_writeSigns_0 : decode cX0_writeSigns 0 = .ok (.aload_n 0, 1) := by decide +kernel
theorem dX0_writeSigns_1 : decode cX0_writeSigns 1 = .ok (.getfield 21, 3) := by decide +kernel
theorem dX0_writeSigns_4 : decode cX0_writeSigns 4 = .ok (.iload_n 1, 1) := by decide +kernel
theorem dX0_writeSigns_5 : decode cX0_writeSigns 5 = .ok (.iconst 0, 1) := by decide +kernel
theorem dX0_writeSigns_6 : decode cX0_writeSigns 6 = .ok (.invokestatic 35, 3) := by decide +kernel
theorem dX0_writeSigns_9 : decode cX0_writeSigns 9 = .ok (.iconst 0, 1) := by decide +kernel
theorem dX0_writeSigns_10 : decode cX0_writeSigns 10 = .ok (.istore_n 3, 1) := by decide +kernel
theorem dX0_writeSigns_11 : decode cX0_writeSigns 11 = .ok (.iload_n 3, 1) := by decide +kernel
theorem dX0_writeSigns_12 : decode cX0_writeSigns 12 = .ok (.aload_n 0, 1) := by decide +kernel
theorem dX0_writeSigns_13 : decode cX0_writeSigns 13 = .ok (.iload_n 1, 1) := by decide +kernel
theorem dX0_writeSigns_14 : decode cX0_writeSigns 14 = .ok (.invokevirtual 43, 3) := by decide +kernel
theorem dX0_writeSigns_17 : decode cX0_writeSigns 17 = .ok (.if_icmp .ge 67, 3) := by decide +kernel
theorem dX0_writeSigns_20 : decode cX0_writeSigns 20 = .ok (.iload_n 3, 1) := by decide +kernel
theorem dX0_writeSigns_21 : decode cX0_writeSigns 21 = .ok (.ifCond .le 9, 3) := by decide +kernel
theorem dX0_writeSigns_24 : decode cX0_writeSigns 24 = .ok (.aload_n 0, 1) := by decide +kernel
theorem dX0_writeSigns_25 : decode cX0_writeSigns 25 = .ok (.iload_n 1, 1) := by decide +kernel
theorem dX0_writeSigns_26 : decode cX0_writeSigns 26 = .ok (.iconst 4, 1) := by decide +kernel
theorem dX0_writeSigns_27 : decode cX0_writeSigns 27 = .ok (.invokevirtual 58, 3) := by decide +kernel
theorem dX0_writeSigns_30 : decode cX0_writeSigns 30 = .ok (.iconst 1, 1) := by decide +kernel
theorem dX0_writeSigns_31 : decode cX0_writeSigns 31 = .ok (.istore 4, 2) := by decide +kernel
theorem dX0_writeSigns_33 : decode cX0_writeSigns 33 = .ok (.iload 4, 2) := by decide +kernel
theorem dX0_writeSigns_35 : decode cX0_writeSigns 35 = .ok (.aload_n 0, 1) := by decide +kernel
theorem dX0_writeSigns_36 : decode cX0_writeSigns 36 = .ok (.iload_n 1, 1) := by decide +kernel
theorem dX0_writeSigns_37 : decode cX0_writeSigns 37 = .ok (.iload_n 3, 1) := by decide +kernel
theorem dX0_writeSigns_38 : decode cX0_writeSigns 38 = .ok (.invokevirtual 47, 3) := by decide +kernel
theorem dX0_writeSigns_41 : decode cX0_writeSigns 41 = .ok (.if_icmp .ge 37, 3) := by decide +kernel
theorem dX0_writeSigns_44 : decode cX0_writeSigns 44 = .ok (.aload_n 0, 1) := by decide +kernel
theorem dX0_writeSigns_45 : decode cX0_writeSigns 45 = .ok (.iload_n 1, 1) := by decide +kernel
theorem dX0_writeSigns_46 : decode cX0_writeSigns 46 = .ok (.iload_n 3, 1) := by decide +kernel
theorem dX0_writeSigns_47 : decode cX0_writeSigns 47 = .ok (.iload 4, 2) := by decide +kernel
theorem dX0_writeSigns_49 : decode cX0_writeSigns 49 = .ok (.iconst 1, 1) := by decide +kernel
theorem dX0_writeSigns_50 : decode cX0_writeSigns 50 = .ok (.isub, 1) := by decide +kernel
theorem dX0_writeSigns_51 : decode cX0_writeSigns 51 = .ok (.invokevirtual 62, 3) := by decide +kernel
theorem dX0_writeSigns_54 : decode cX0_writeSigns 54 = .ok (.istore 5, 2) := by decide +kernel
theorem dX0_writeSigns_56 : decode cX0_writeSigns 56 = .ok (.aload_n 0, 1) := by decide +kernel
theorem dX0_writeSigns_57 : decode cX0_writeSigns 57 = .ok (.iload_n 1, 1) := by decide +kernel
theorem dX0_writeSigns_58 : decode cX0_writeSigns 58 = .ok (.iload 5, 2) := by decide +kernel
theorem dX0_writeSigns_60 : decode cX0_writeSigns 60 = .ok (.aload_n 0, 1) := by decide +kernel
theorem dX0_writeSigns_61 : decode cX0_writeSigns 61 = .ok (.iload_n 1, 1) := by decide +kernel
theorem dX0_writeSigns_62 : decode cX0_writeSigns 62 = .ok (.iload_n 3, 1) := by decide +kernel
theorem dX0_writeSigns_63 : decode cX0_writeSigns 63 = .ok (.iload 4, 2) := by decide +kernel
theorem dX0_writeSigns_65 : decode cX0_writeSigns 65 = .ok (.invokevirtual 62, 3) := by decide +kernel
theorem dX0_writeSigns_68 : decode cX0_writeSigns 68 = .ok (.iload_n 2, 1) := by decide +kernel
theorem dX0_writeSigns_69 : decode cX0_writeSigns 69 = .ok (.invokevirtual 69, 3) := by decide +kernel
theorem dX0_writeSigns_72 : decode cX0_writeSigns 72 = .ok (.iinc 4 1, 3) := by decide +kernel
theorem dX0_writeSigns_75 : decode cX0_writeSigns 75 = .ok (.goto (-42), 3) := by decide +kernel
theorem dX0_writeSigns_78 : decode cX0_writeSigns 78 = .ok (.iinc 3 1, 3) := by decide +kernel
theorem dX0_writeSigns_81 : decode cX0_writeSigns 81 = .ok (.goto (-70), 3) := by decide +kernel
theorem dX0_writeSigns_84 : decode cX0_writeSigns 84 = .ok (.return_, 1) := by decide +kernel
set_option maxRecDepth 20000 in
theorem ggX0_writeSign_X0_signsOf : GoodIn wsX0_writeSign wsX0_signsOf := goodIn_r _ [7, 2, 8, 9, 10, 13, 14, 15, 16, 17] (by decide +kernel) (by decide +kernel)
set_option maxRecDepth 20000 in
theorem gX0_writeSign_X0_signsOf : GoodIn wsX0_writeSign (wsV RX0 51 RX0 yX0_signsOf wsX0_signsOf) := goodIn_app (goodIn_of _ (by decide +kernel)) ggX0_writeSign_X0_signsOf
set_option maxRecDepth 20000 in
theorem ggX0_writeSign_X6_putCell : GoodIn wsX0_writeSign wsX6_putCell := goodIn_r _ [12] (by decide +kernel) (by decide +kernel)
set_option maxRecDepth 20000 in
theorem gX0_writeSign_X6_putCell_n35 : GoodIn wsX0_writeSign (wsX6_putCell) := ggX0_writeSign_X6_putCell
theorem dX0_writeSign_0 : decode cX0_writeSign 0 = .ok (.aload_n 0, 1) := by decide +kernel
theorem dX0_writeSign_1 : decode cX0_writeSign 1 = .ok (.iload_n 1, 1) := by decide +kernel
theorem dX0_writeSign_2 : decode cX0_writeSign 2 = .ok (.invokevirtual 51, 3) := by decide +kernel
theorem dX0_writeSign_5 : decode cX0_writeSign 5 = .ok (.istore_n 3, 1) := by decide +kernel
theorem dX0_writeSign_6 : decode cX0_writeSign 6 = .ok (.iload_n 3, 1) := by decide +kernel
theorem dX0_writeSign_7 : decode cX0_writeSign 7 = .ok (.bipush 40, 2) := by decide +kernel
theorem dX0_writeSign_9 : decode cX0_writeSign 9 = .ok (.if_icmp .ge 28, 3) := by decide +kernel
theorem dX0_writeSign_12 : decode cX0_writeSign 12 = .ok (.aload_n 0, 1) := by decide +kernel
theorem dX0_writeSign_13 : decode cX0_writeSign 13 = .ok (.getfield 24, 3) := by decide +kernel
theorem dX0_writeSign_16 : decode cX0_writeSign 16 = .ok (.iload_n 1, 1) := by decide +kernel
theorem dX0_writeSign_17 : decode cX0_writeSign 17 = .ok (.bipush 40, 2) := by decide +kernel
theorem dX0_writeSign_19 : decode cX0_writeSign 19 = .ok (.imul, 1) := by decide +kernel
theorem dX0_writeSign_20 : decode cX0_writeSign 20 = .ok (.iload_n 3, 1) := by decide +kernel
theorem dX0_writeSign_21 : decode cX0_writeSign 21 = .ok (.iadd, 1) := by decide +kernel
theorem dX0_writeSign_22 : decode cX0_writeSign 22 = .ok (.iload_n 2, 1) := by decide +kernel
theorem dX0_writeSign_23 : decode cX0_writeSign 23 = .ok (.invokestatic 35, 3) := by decide +kernel
theorem dX0_writeSign_26 : decode cX0_writeSign 26 = .ok (.aload_n 0, 1) := by decide +kernel
theorem dX0_writeSign_27 : decode cX0_writeSign 27 = .ok (.getfield 21, 3) := by decide +kernel
theorem dX0_writeSign_30 : decode cX0_writeSign 30 = .ok (.iload_n 1, 1) := by decide +kernel
theorem dX0_writeSign_31 : decode cX0_writeSign 31 = .ok (.iload_n 3, 1) := by decide +kernel
theorem dX0_writeSign_32 : decode cX0_writeSign 32 = .ok (.iconst 1, 1) := by decide +kernel
theorem dX0_writeSign_33 : decode cX0_writeSign 33 = .ok (.iadd, 1) := by decide +kernel
theorem dX0_writeSign_34 : decode cX0_writeSign 34 = .ok (.invokestatic 35, 3) := by decide +kernel
theorem dX0_writeSign_37 : decode cX0_writeSign 37 = .ok (.return_, 1) := by decide +kernel
theorem dX0_linesBetween_0 : decode cX0_linesBetween 0 = .ok (.iload_n 2, 1) := by decide +kernel
theorem dX0_linesBetween_1 : decode cX0_linesBetween 1 = .ok (.ifCond .le 16, 3) := by decide +kernel
theorem dX0_linesBetween_4 : decode cX0_linesBetween 4 = .ok (.iload_n 1, 1) := by decide +kernel
theorem dX0_linesBetween_5 : decode cX0_linesBetween 5 = .ok (.iload_n 2, 1) := by decide +kernel
theorem dX0_linesBetween_6 : decode cX0_linesBetween 6 = .ok (.idiv, 1) := by decide +kernel
theorem dX0_linesBetween_7 : decode cX0_linesBetween 7 = .ok (.iload_n 0, 1) := by decide +kernel
theorem dX0_linesBetween_8 : decode cX0_linesBetween 8 = .ok (.iload_n 2, 1) := by decide +kernel
theorem dX0_linesBetween_9 : decode cX0_linesBetween 9 = .ok (.idiv, 1) := by decide +kernel
theorem dX0_linesBetween_10 : decode cX0_linesBetween 10 = .ok (.isub, 1) := by decide +kernel
theorem dX0_linesBetween_11 : decode cX0_linesBetween 11 = .ok (.invokestatic 77, 3) := by decide +kernel
theorem dX0_linesBetween_14 : decode cX0_linesBetween 14 = .ok (.goto 4, 3) := by decide +kernel
theorem dX0_linesBetween_17 : decode cX0_linesBetween 17 = .ok (.iconst 0, 1) := by decide +kernel
theorem dX0_linesBetween_18 : decode cX0_linesBetween 18 = .ok (.ireturn, 1) := by decide +kernel
set_option maxRecDepth 20000 in
theorem ggX0_crossings_X0_linesBetween : GoodIn wsX0_crossings wsX0_linesBetween := goodIn_r _ [4, 5, 6, 7, 8] (by decide +kernel) (by decide +kernel)
set_option maxRecDepth 20000 in
theorem gX0_crossings_X0_linesBetween : GoodIn wsX0_crossings (va_wsS RX0 80 yX0_linesBetween wsX0_linesBetween) := goodIn_app (goodIn_of _ (by decide +kernel)) ggX0_crossings_X0_linesBetween
theorem dX0_crossings_0 : decode cX0_crossings 0 = .ok (.iload_n 0, 1) := by decide +kernel
theorem dX0_crossings_1 : decode cX0_crossings 1 = .ok (.bipush 61, 2) := by decide +kernel
theorem dX0_crossings_3 : decode cX0_crossings 3 = .ok (.idiv, 1) := by decide +kernel
theorem dX0_crossings_4 : decode cX0_crossings 4 = .ok (.iload_n 1, 1) := by decide +kernel
theorem dX0_crossings_5 : decode cX0_crossings 5 = .ok (.bipush 61, 2) := by decide +kernel
theorem dX0_crossings_7 : decode cX0_crossings 7 = .ok (.idiv, 1) := by decide +kernel
theorem dX0_crossings_8 : decode cX0_crossings 8 = .ok (.iload_n 2, 1) := by decide +kernel
theorem dX0_crossings_9 : decode cX0_crossings 9 = .ok (.invokestatic 80, 3) := by decide +kernel
theorem dX0_crossings_12 : decode cX0_crossings 12 = .ok (.iload_n 0, 1) := by decide +kernel
theorem dX0_crossings_13 : decode cX0_crossings 13 = .ok (.bipush 61, 2) := by decide +kernel
theorem dX0_crossings_15 : decode cX0_crossings 15 = .ok (.irem, 1) := by decide +kernel
theorem dX0_crossings_16 : decode cX0_crossings 16 = .ok (.iload_n 1, 1) := by decide +kernel
theorem dX0_crossings_17 : decode cX0_crossings 17 = .ok (.bipush 61, 2) := by decide +kernel
theorem dX0_crossings_19 : decode cX0_crossings 19 = .ok (.irem, 1) := by decide +kernel
theorem dX0_crossings_20 : decode cX0_crossings 20 = .ok (.iload_n 2, 1) := by decide +kernel
theorem dX0_crossings_21 : decode cX0_crossings 21 = .ok (.invokestatic 80, 3) := by decide +kernel
theorem dX0_crossings_24 : decode cX0_crossings 24 = .ok (.iadd, 1) := by decide +kernel
theorem dX0_crossings_25 : decode cX0_crossings 25 = .ok (.ireturn, 1) := by decide +kernel
theorem dX0_wayToLine_0 : decode cX0_wayToLine 0 = .ok (.iload_n 2, 1) := by decide +kernel
theorem dX0_wayToLine_1 : decode cX0_wayToLine 1 = .ok (.ifCond .le 9, 3) := by decide +kernel
theorem dX0_wayToLine_4 : decode cX0_wayToLine 4 = .ok (.iload_n 0, 1) := by decide +kernel
theorem dX0_wayToLine_5 : decode cX0_wayToLine 5 = .ok (.iload_n 2, 1) := by decide +kernel
theorem dX0_wayToLine_6 : decode cX0_wayToLine 6 = .ok (.irem, 1) := by decide +kernel
theorem dX0_wayToLine_7 : decode cX0_wayToLine 7 = .ok (.goto 4, 3) := by decide +kernel
theorem dX0_wayToLine_10 : decode cX0_wayToLine 10 = .ok (.iconst 0, 1) := by decide +kernel
theorem dX0_wayToLine_11 : decode cX0_wayToLine 11 = .ok (.istore_n 3, 1) := by decide +kernel
theorem dX0_wayToLine_12 : decode cX0_wayToLine 12 = .ok (.iload_n 1, 1) := by decide +kernel
theorem dX0_wayToLine_13 : decode cX0_wayToLine 13 = .ok (.iload_n 0, 1) := by decide +kernel
theorem dX0_wayToLine_14 : decode cX0_wayToLine 14 = .ok (.if_icmp .le 9, 3) := by decide +kernel
theorem dX0_wayToLine_17 : decode cX0_wayToLine 17 = .ok (.iload_n 2, 1) := by decide +kernel
theorem dX0_wayToLine_18 : decode cX0_wayToLine 18 = .ok (.iload_n 3, 1) := by decide +kernel
theorem dX0_wayToLine_19 : decode cX0_wayToLine 19 = .ok (.isub, 1) := by decide +kernel
theorem dX0_wayToLine_20 : decode cX0_wayToLine 20 = .ok (.goto 4, 3) := by decide +kernel
theorem dX0_wayToLine_23 : decode cX0_wayToLine 23 = .ok (.iload_n 3, 1) := by decide +kernel
theorem dX0_wayToLine_24 : decode cX0_wayToLine 24 = .ok (.ireturn, 1) := by decide +kernel
set_option maxRecDepth 20000 in
theorem ggX0_writeCrossings_X0_linesBetween : GoodIn wsX0_writeCrossings wsX0_linesBetween := goodIn_r _ [8, 1, 2, 3, 4] (by decide +kernel) (by decide +kernel)
set_option maxRecDepth 20000 in
theorem gX0_writeCrossings_X0_linesBetween : GoodIn wsX0_writeCrossings (va_wsS RX0 80 yX0_linesBetween wsX0_linesBetween) := goodIn_app (goodIn_of _ (by decide +kernel)) ggX0_writeCrossings_X0_linesBetween
set_option maxRecDepth 20000 in
theorem ggX0_writeCrossings_X0_wayToLine : GoodIn wsX0_writeCrossings wsX0_wayToLine := goodIn_r _ [11] (by decide +kernel) (by decide +kernel)
set_option maxRecDepth 20000 in
theorem gX0_writeCrossings_X0_wayToLine : GoodIn wsX0_writeCrossings (va_wsS RX0 83 yX0_wayToLine wsX0_wayToLine) := goodIn_app (goodIn_of _ (by decide +kernel)) ggX0_writeCrossings_X0_wayToLine
set_option maxRecDepth 20000 in
theorem ggX0_writeCrossings_X0_writeSign : GoodIn wsX0_writeCrossings wsX0_writeSign := goodIn_r _ [15, 16, 17, 18, 19, 20, 7, 21, 22, 23, 24, 25, 26, 27, 28, 29, 30, 31] (by decide +kernel) (by decide +kernel)
set_option maxRecDepth 20000 in
theorem gX0_writeCrossings_X0_writeSign : GoodIn wsX0_writeCrossings (wsV RX0 58 RX0 yX0_writeSign wsX0_writeSign) := goodIn_app (goodIn_of _ (by decide +kernel)) ggX0_writeCrossings_X0_writeSign
theorem dX0_writeCrossings_0 : decode cX0_writeCrossings 0 = .ok (.iload_n 2, 1) := by decide +kernel
theorem dX0_writeCrossings_1 : decode cX0_writeCrossings 1 = .ok (.bipush 61, 2) := by decide +kernel
theorem dX0_writeCrossings_3 : decode cX0_writeCrossings 3 = .ok (.idiv, 1) := by decide +kernel
theorem dX0_writeCrossings_4 : decode cX0_writeCrossings 4 = .ok (.istore 5, 2) := by decide +kernel
theorem dX0_writeCrossings_6 : decode cX0_writeCrossings 6 = .ok (.iload_n 2, 1) := by decide +kernel
theorem dX0_writeCrossings_7 : decode cX0_writeCrossings 7 = .ok (.bipush 61, 2) := by decide +kernel
theorem dX0_writeCrossings_9 : decode cX0_writeCrossings 9 = .ok (.irem, 1) := by decide +kernel
theorem dX0_writeCrossings_10 : decode cX0_writeCrossings 10 = .ok (.istore 6, 2) := by decide +kernel
theorem dX0_writeCrossings_12 : decode cX0_writeCrossings 12 = .ok (.iload_n 3, 1) := by decide +kernel
theorem dX0_writeCrossings_13 : decode cX0_writeCrossings 13 = .ok (.bipush 61, 2) := by decide +kernel
theorem dX0_writeCrossings_15 : decode cX0_writeCrossings 15 = .ok (.idiv, 1) := by decide +kernel
theorem dX0_writeCrossings_16 : decode cX0_writeCrossings 16 = .ok (.istore 7, 2) := by decide +kernel
theorem dX0_writeCrossings_18 : decode cX0_writeCrossings 18 = .ok (.iload_n 3, 1) := by decide +kernel
theorem dX0_writeCrossings_19 : decode cX0_writeCrossings 19 = .ok (.bipush 61, 2) := by decide +kernel
theorem dX0_writeCrossings_21 : decode cX0_writeCrossings 21 = .ok (.irem, 1) := by decide +kernel
theorem dX0_writeCrossings_22 : decode cX0_writeCrossings 22 = .ok (.istore 8, 2) := by decide +kernel
theorem dX0_writeCrossings_24 : decode cX0_writeCrossings 24 = .ok (.iload 7, 2) := by decide +kernel
theorem dX0_writeCrossings_26 : decode cX0_writeCrossings 26 = .ok (.iload 5, 2) := by decide +kernel
theorem dX0_writeCrossings_28 : decode cX0_writeCrossings 28 = .ok (.isub, 1) := by decide +kernel
theorem dX0_writeCrossings_29 : decode cX0_writeCrossings 29 = .ok (.invokestatic 77, 3) := by decide +kernel
theorem dX0_writeCrossings_32 : decode cX0_writeCrossings 32 = .ok (.istore 9, 2) := by decide +kernel
theorem dX0_writeCrossings_34 : decode cX0_writeCrossings 34 = .ok (.iload 8, 2) := by decide +kernel
theorem dX0_writeCrossings_36 : decode cX0_writeCrossings 36 = .ok (.iload 6, 2) := by decide +kernel
theorem dX0_writeCrossings_38 : decode cX0_writeCrossings 38 = .ok (.isub, 1) := by decide +kernel
theorem dX0_writeCrossings_39 : decode cX0_writeCrossings 39 = .ok (.invokestatic 77, 3) := by decide +kernel
theorem dX0_writeCrossings_42 : decode cX0_writeCrossings 42 = .ok (.istore 10, 2) := by decide +kernel
theorem dX0_writeCrossings_44 : decode cX0_writeCrossings 44 = .ok (.iload 5, 2) := by decide +kernel
theorem dX0_writeCrossings_46 : decode cX0_writeCrossings 46 = .ok (.iload 7, 2) := by decide +kernel
theorem dX0_writeCrossings_48 : decode cX0_writeCrossings 48 = .ok (.iload 4, 2) := by decide +kernel
theorem dX0_writeCrossings_50 : decode cX0_writeCrossings 50 = .ok (.invokestatic 80, 3) := by decide +kernel
theorem dX0_writeCrossings_53 : decode cX0_writeCrossings 53 = .ok (.istore 11, 2) := by decide +kernel
theorem dX0_writeCrossings_55 : decode cX0_writeCrossings 55 = .ok (.iload 6, 2) := by decide +kernel
theorem dX0_writeCrossings_57 : decode cX0_writeCrossings 57 = .ok (.iload 8, 2) := by decide +kernel
theorem dX0_writeCrossings_59 : decode cX0_writeCrossings 59 = .ok (.iload 4, 2) := by decide +kernel
theorem dX0_writeCrossings_61 : decode cX0_writeCrossings 61 = .ok (.invokestatic 80, 3) := by decide +kernel
theorem dX0_writeCrossings_64 : decode cX0_writeCrossings 64 = .ok (.istore 12, 2) := by decide +kernel
theorem dX0_writeCrossings_66 : decode cX0_writeCrossings 66 = .ok (.iload 5, 2) := by decide +kernel
theorem dX0_writeCrossings_68 : decode cX0_writeCrossings 68 = .ok (.iload 7, 2) := by decide +kernel
theorem dX0_writeCrossings_70 : decode cX0_writeCrossings 70 = .ok (.iload 4, 2) := by decide +kernel
theorem dX0_writeCrossings_72 : decode cX0_writeCrossings 72 = .ok (.invokestatic 83, 3) := by decide +kernel
theorem dX0_writeCrossings_75 : decode cX0_writeCrossings 75 = .ok (.istore 13, 2) := by decide +kernel
theorem dX0_writeCrossings_77 : decode cX0_writeCrossings 77 = .ok (.iload 6, 2) := by decide +kernel
theorem dX0_writeCrossings_79 : decode cX0_writeCrossings 79 = .ok (.iload 8, 2) := by decide +kernel
theorem dX0_writeCrossings_81 : decode cX0_writeCrossings 81 = .ok (.iload 4, 2) := by decide +kernel
theorem dX0_writeCrossings_83 : decode cX0_writeCrossings 83 = .ok (.invokestatic 83, 3) := by decide +kernel
theorem dX0_writeCrossings_86 : decode cX0_writeCrossings 86 = .ok (.istore 14, 2) := by decide +kernel
theorem dX0_writeCrossings_88 : decode cX0_writeCrossings 88 = .ok (.iconst 0, 1) := by decide +kernel
theorem dX0_writeCrossings_89 : decode cX0_writeCrossings 89 = .ok (.istore 15, 2) := by decide +kernel
theorem dX0_writeCrossings_91 : decode cX0_writeCrossings 91 = .ok (.iconst 0, 1) := by decide +kernel
theorem dX0_writeCrossings_92 : decode cX0_writeCrossings 92 = .ok (.istore 16, 2) := by decide +kernel
theorem dX0_writeCrossings_94 : decode cX0_writeCrossings 94 = .ok (.iload 16, 2) := by decide +kernel
theorem dX0_writeCrossings_96 : decode cX0_writeCrossings 96 = .ok (.iload 11, 2) := by decide +kernel
theorem dX0_writeCrossings_98 : decode cX0_writeCrossings 98 = .ok (.iload 12, 2) := by decide +kernel
theorem dX0_writeCrossings_100 : decode cX0_writeCrossings 100 = .ok (.iadd, 1) := by decide +kernel
theorem dX0_writeCrossings_101 : decode cX0_writeCrossings 101 = .ok (.if_icmp .ge 105, 3) := by decide +kernel
theorem dX0_writeCrossings_104 : decode cX0_writeCrossings 104 = .ok (.iload 16, 2) := by decide +kernel
theorem dX0_writeCrossings_106 : decode cX0_writeCrossings 106 = .ok (.iload 15, 2) := by decide +kernel
theorem dX0_writeCrossings_108 : decode cX0_writeCrossings 108 = .ok (.isub, 1) := by decide +kernel
theorem dX0_writeCrossings_109 : decode cX0_writeCrossings 109 = .ok (.iload 12, 2) := by decide +kernel
theorem dX0_writeCrossings_111 : decode cX0_writeCrossings 111 = .ok (.if_icmp .lt 7, 3) := by decide +kernel
theorem dX0_writeCrossings_114 : decode cX0_writeCrossings 114 = .ok (.iconst 1, 1) := by decide +kernel
theorem dX0_writeCrossings_115 : decode cX0_writeCrossings 115 = .ok (.goto 4, 3) := by decide +kernel
theorem dX0_writeCrossings_118 : decode cX0_writeCrossings 118 = .ok (.iconst 0, 1) := by decide +kernel
theorem dX0_writeCrossings_119 : decode cX0_writeCrossings 119 = .ok (.istore 17, 2) := by decide +kernel
theorem dX0_writeCrossings_121 : decode cX0_writeCrossings 121 = .ok (.iload 17, 2) := by decide +kernel
theorem dX0_writeCrossings_123 : decode cX0_writeCrossings 123 = .ok (.ifCond .ne 23, 3) := by decide +kernel
theorem dX0_writeCrossings_126 : decode cX0_writeCrossings 126 = .ok (.iload 15, 2) := by decide +kernel
theorem dX0_writeCrossings_128 : decode cX0_writeCrossings 128 = .ok (.iload 11, 2) := by decide +kernel
theorem dX0_writeCrossings_130 : decode cX0_writeCrossings 130 = .ok (.if_icmp .ge 46, 3) := by decide +kernel
theorem dX0_writeCrossings_133 : decode cX0_writeCrossings 133 = .ok (.iload 13, 2) := by decide +kernel
theorem dX0_writeCrossings_135 : decode cX0_writeCrossings 135 = .ok (.iload 10, 2) := by decide +kernel
theorem dX0_writeCrossings_137 : decode cX0_writeCrossings 137 = .ok (.imul, 1) := by decide +kernel
theorem dX0_writeCrossings_138 : decode cX0_writeCrossings 138 = .ok (.iload 14, 2) := by decide +kernel
theorem dX0_writeCrossings_140 : decode cX0_writeCrossings 140 = .ok (.iload 9, 2) := by decide +kernel
theorem dX0_writeCrossings_142 : decode cX0_writeCrossings 142 = .ok (.imul, 1) := by decide +kernel
theorem dX0_writeCrossings_143 : decode cX0_writeCrossings 143 = .ok (.if_icmp .gt 33, 3) := by decide +kernel
theorem dX0_writeCrossings_146 : decode cX0_writeCrossings 146 = .ok (.aload_n 0, 1) := by decide +kernel
theorem dX0_writeCrossings_147 : decode cX0_writeCrossings 147 = .ok (.iload_n 1, 1) := by decide +kernel
theorem dX0_writeCrossings_148 : decode cX0_writeCrossings 148 = .ok (.iload 7, 2) := by decide +kernel
theorem dX0_writeCrossings_150 : decode cX0_writeCrossings 150 = .ok (.iload 5, 2) := by decide +kernel
theorem dX0_writeCrossings_152 : decode cX0_writeCrossings 152 = .ok (.if_icmp .le 7, 3) := by decide +kernel
theorem dX0_writeCrossings_155 : decode cX0_writeCrossings 155 = .ok (.iconst 0, 1) := by decide +kernel
theorem dX0_writeCrossings_156 : decode cX0_writeCrossings 156 = .ok (.goto 4, 3) := by decide +kernel
theorem dX0_writeCrossings_159 : decode cX0_writeCrossings 159 = .ok (.iconst 2, 1) := by decide +kernel
theorem dX0_writeCrossings_160 : decode cX0_writeCrossings 160 = .ok (.invokevirtual 58, 3) := by decide +kernel
theorem dX0_writeCrossings_163 : decode cX0_writeCrossings 163 = .ok (.iload 13, 2) := by decide +kernel
theorem dX0_writeCrossings_165 : decode cX0_writeCrossings 165 = .ok (.iload 4, 2) := by decide +kernel
theorem dX0_writeCrossings_167 : decode cX0_writeCrossings 167 = .ok (.iadd, 1) := by decide +kernel
theorem dX0_writeCrossings_168 : decode cX0_writeCrossings 168 = .ok (.istore 13, 2) := by decide +kernel
theorem dX0_writeCrossings_170 : decode cX0_writeCrossings 170 = .ok (.iinc 15 1, 3) := by decide +kernel
theorem dX0_writeCrossings_173 : decode cX0_writeCrossings 173 = .ok (.goto 27, 3) := by decide +kernel
theorem dX0_writeCrossings_176 : decode cX0_writeCrossings 176 = .ok (.aload_n 0, 1) := by decide +kernel
theorem dX0_writeCrossings_177 : decode cX0_writeCrossings 177 = .ok (.iload_n 1, 1) := by decide +kernel
theorem dX0_writeCrossings_178 : decode cX0_writeCrossings 178 = .ok (.iload 8, 2) := by decide +kernel
theorem dX0_writeCrossings_180 : decode cX0_writeCrossings 180 = .ok (.iload 6, 2) := by decide +kernel
theorem dX0_writeCrossings_182 : decode cX0_writeCrossings 182 = .ok (.if_icmp .le 7, 3) := by decide +kernel
theorem dX0_writeCrossings_185 : decode cX0_writeCrossings 185 = .ok (.iconst 1, 1) := by decide +kernel
theorem dX0_writeCrossings_186 : decode cX0_writeCrossings 186 = .ok (.goto 4, 3) := by decide +kernel
theorem dX0_writeCrossings_189 : decode cX0_writeCrossings 189 = .ok (.iconst 3, 1) := by decide +kernel
theorem dX0_writeCrossings_190 : decode cX0_writeCrossings 190 = .ok (.invokevirtual 58, 3) := by decide +kernel
theorem dX0_writeCrossings_193 : decode cX0_writeCrossings 193 = .ok (.iload 14, 2) := by decide +kernel
theorem dX0_writeCrossings_195 : decode cX0_writeCrossings 195 = .ok (.iload 4, 2) := by decide +kernel
theorem dX0_writeCrossings_197 : decode cX0_writeCrossings 197 = .ok (.iadd, 1) := by decide +kernel
theorem dX0_writeCrossings_198 : decode cX0_writeCrossings 198 = .ok (.istore 14, 2) := by decide +kernel
theorem dX0_writeCrossings_200 : decode cX0_writeCrossings 200 = .ok (.iinc 16 1, 3) := by decide +kernel
theorem dX0_writeCrossings_203 : decode cX0_writeCrossings 203 = .ok (.goto (-109), 3) := by decide +kernel
theorem dX0_writeCrossings_206 : decode cX0_writeCrossings 206 = .ok (.return_, 1) := by decide +kernel
set_option maxRecDepth 20000 in
theorem ggX1_init_X3_init : GoodIn wsX1_init wsX3_init := goodIn_r _ [10, 11, 2, 3, 12, 13, 14, 15, 16, 17, 18] (by decide +kernel) (by decide +kernel)
set_option maxRecDepth 20000 in
theorem gX1_init_X3_init : GoodIn wsX1_init (wsX3_init) := ggX1_init_X3_init
theorem dX1_init_0 : decode cX1_init 0 = .ok (.aload_n 0, 1) := by decide +kernel
theorem dX1_init_1 : decode cX1_init 1 = .ok (.invokespecial 3, 3) := by decide +kernel
theorem dX1_init_4 : decode cX1_init 4 = .ok (.aload_n 0, 1) := by decide +kernel
theorem dX1_init_5 : decode cX1_init 5 = .ok (.new 9, 3) := by decide +kernel
theorem dX1_init_8 : decode cX1_init 8 = .ok (.dup, 1) := by decide +kernel
theorem dX1_init_9 : decode cX1_init 9 = .ok (.bipush 15, 2) := by decide +kernel
theorem dX1_init_11 : decode cX1_init 11 = .ok (.invokespecial 13, 3) := by decide +kernel
theorem dX1_init_14 : decode cX1_init 14 = .ok (.putfield 16, 3) := by decide +kernel
theorem dX1_init_17 : decode cX1_init 17 = .ok (.return_, 1) := by decide +kernel
set_option maxRecDepth 20000 in
theorem ggX1_prepare_X3_keepCopy_p0 : GoodIn wsX1_prepare [.code yX3_keepCopy cX3_keepCopy 4 none] := goodIn_r _ [7] (by decide +kernel) (by decide +kernel)
theorem ggX1_prepare_X3_keepCopy_p1 : GoodIn wsX1_prepare wsX3_keepCopy_r1 := goodIn_r _ [8, 9, 10, 11, 12, 13, 14, 15, 16, 17, 18, 19, 20, 21, 22, 23, 24, 25, 26, 27, 28, 29, 30, 31] (by decide +kernel) (by decide +kernel)
theorem ggX1_prepare_X3_keepCopy_p2 : GoodIn wsX1_prepare wsX3_keepCopy_r2 := goodIn_r _ [32, 33, 34, 35, 36, 37, 38, 39, 40, 41, 42, 43, 44, 45, 46, 47, 48, 49, 50, 51, 52, 53] (by decide +kernel) (by decide +kernel)
theorem ggX1_prepare_X3_keepCopy_p3 : GoodIn wsX1_prepare wsX30 := goodIn_r _ [57] (by decide +kernel) (by decide +kernel)
theorem ggX1_prepare_X3_keepCopy_p4 : GoodIn wsX1_prepare wsX40 := goodIn_r _ [58, 59, 60, 61, 62, 63] (by decide +kernel) (by decide +kernel)
theorem ggX1_prepare_X3_keepCopy_p5 : GoodIn wsX1_prepare wsX00 := goodIn_r _ [64, 65, 66, 67, 68] (by decide +kernel) (by decide +kernel)
theorem ggX1_prepare_X3_keepCopy : GoodIn wsX1_prepare wsX3_keepCopy := (goodIn_c2 ggX1_prepare_X3_keepCopy_p0 (goodIn_app (goodIn_app (goodIn_app (goodIn_app ggX1_prepare_X3_keepCopy_p1 ggX1_prepare_X3_keepCopy_p2) ggX1_prepare_X3_keepCopy_p3) ggX1_prepare_X3_keepCopy_p4) ggX1_prepare_X3_keepCopy_p5))
set_option maxRecDepth 20000 in
theorem gX1_prepare_X3_keepCopy : GoodIn wsX1_prepare (wsV RX1 24 RX3 yX3_keepCopy wsX3_keepCopy) := goodIn_app (goodIn_of _ (by decide +kernel)) ggX1_prepare_X3_keepCopy
theorem dX1_prepare_0 : decode cX1_prepare 0 = .ok (.aload_n 0, 1) := by decide +kernel
theorem dX1_prepare_1 : decode cX1_prepare 1 = .ok (.getfield 16, 3) := by decide +kernel
theorem dX1_prepare_4 : decode cX1_prepare 4 = .ok (.aload_n 0, 1) := by decide +kernel
theorem dX1_prepare_5 : decode cX1_prepare 5 = .ok (.getfield 20, 3) := by decide +kernel
theorem dX1_prepare_8 : decode cX1_prepare 8 = .ok (.iconst 1, 1) := by decide +kernel
theorem dX1_prepare_9 : decode cX1_prepare 9 = .ok (.iadd, 1) := by decide +kernel
theorem dX1_prepare_10 : decode cX1_prepare 10 = .ok (.bipush 15, 2) := by decide +kernel
theorem dX1_prepare_12 : decode cX1_prepare 12 = .ok (.irem, 1) := by decide +kernel
theorem dX1_prepare_13 : decode cX1_prepare 13 = .ok (.aload_n 1, 1) := by decide +kernel
theorem dX1_prepare_14 : decode cX1_prepare 14 = .ok (.invokevirtual 24, 3) := by decide +kernel
theorem dX1_prepare_17 : decode cX1_prepare 17 = .ok (.return_, 1) := by decide +kernel
theorem dX1_commit_0 : decode cX1_commit 0 = .ok (.aload_n 0, 1) := by decide +kernel
theorem dX1_commit_1 : decode cX1_commit 1 = .ok (.aload_n 0, 1) := by decide +kernel
theorem dX1_commit_2 : decode cX1_commit 2 = .ok (.getfield 20, 3) := by decide +kernel
theorem dX1_commit_5 : decode cX1_commit 5 = .ok (.iconst 1, 1) := by decide +kernel
theorem dX1_commit_6 : decode cX1_commit 6 = .ok (.iadd, 1) := by decide +kernel
theorem dX1_commit_7 : decode cX1_commit 7 = .ok (.bipush 15, 2) := by decide +kernel
theorem dX1_commit_9 : decode cX1_commit 9 = .ok (.irem, 1) := by decide +kernel
theorem dX1_commit_10 : decode cX1_commit 10 = .ok (.putfield 20, 3) := by decide +kernel
theorem dX1_commit_13 : decode cX1_commit 13 = .ok (.aload_n 0, 1) := by decide +kernel
theorem dX1_commit_14 : decode cX1_commit 14 = .ok (.aload_n 0, 1) := by decide +kernel
theorem dX1_commit_15 : decode cX1_commit 15 = .ok (.getfield 28, 3) := by decide +kernel
theorem dX1_commit_18 : decode cX1_commit 18 = .ok (.iconst 1, 1) := by decide +kernel
theorem dX1_commit_19 : decode cX1_commit 19 = .ok (.iadd, 1) := by decide +kernel
theorem dX1_commit_20 : decode cX1_commit 20 = .ok (.bipush 14, 2) := by decide +kernel
theorem dX1_commit_22 : decode cX1_commit 22 = .ok (.invokestatic 31, 3) := by decide +kernel
theorem dX1_commit_25 : decode cX1_commit 25 = .ok (.putfield 28, 3) := by decide +kernel
theorem dX1_commit_28 : decode cX1_commit 28 = .ok (.return_, 1) := by decide +kernel
set_option maxRecDepth 20000 in
theorem ggX1_remember_X1_prepare_p0 : GoodIn wsX1_remember [.code yX1_prepare cX1_prepare 2 none] := goodIn_r _ [5] (by decide +kernel) (by decide +kernel)
theorem ggX1_remember_X1_prepare_p1 : GoodIn wsX1_remember wsX1_prepare_r1 := goodIn_r _ [6, 7, 8, 9, 10, 11, 12, 13, 14, 15, 16, 17, 18, 19, 20, 21, 22, 23, 24, 25, 26, 27, 28, 29] (by decide +kernel) (by decide +kernel)
theorem ggX1_remember_X1_prepare_p2 : GoodIn wsX1_remember wsX1_prepare_r2 := goodIn_r _ [30, 31, 32, 33, 34, 35, 36, 37, 38, 39, 40, 41, 42, 43, 44, 45, 46, 47, 48, 49, 50, 51, 52, 53] (by decide +kernel) (by decide +kernel)
theorem ggX1_remember_X1_prepare_p3 : GoodIn wsX1_remember wsX1_prepare_r3 := goodIn_r _ [54, 55, 56, 57, 58] (by decide +kernel) (by decide +kernel)
theorem ggX1_remember_X1_prepare_p4 : GoodIn wsX1_remember wsX10 := goodIn_r _ [65, 66, 67] (by decide +kernel) (by decide +kernel)
theorem ggX1_remember_X1_prepare_p5 : GoodIn wsX1_remember wsX30 := goodIn_r _ [68] (by decide +kernel) (by decide +kernel)
theorem ggX1_remember_X1_prepare_p6 : GoodIn wsX1_remember wsX40 := goodIn_r _ [69, 70, 71, 72, 73, 74] (by decide +kernel) (by decide +kernel)
theorem ggX1_remember_X1_prepare_p7 : GoodIn wsX1_remember wsX00 := goodIn_r _ [75, 76, 77, 78, 79] (by decide +kernel) (by decide +kernel)
theorem ggX1_remember_X1_prepare : GoodIn wsX1_remember wsX1_prepare := (goodIn_c2 ggX1_remember_X1_prepare_p0 (goodIn_app (goodIn_app (goodIn_app (goodIn_app (goodIn_app ggX1_remember_X1_prepare_p1 (goodIn_app ggX1_remember_X1_prepare_p2 ggX1_remember_X1_prepare_p3)) ggX1_remember_X1_prepare_p4) ggX1_remember_X1_prepare_p5) ggX1_remember_X1_prepare_p6) ggX1_remember_X1_prepare_p7))
set_option maxRecDepth 20000 in
theorem gX1_remember_X1_prepare : GoodIn wsX1_remember (wsV RX1 37 RX1 yX1_prepare wsX1_prepare) := goodIn_app (goodIn_of _ (by decide +kernel)) ggX1_remember_X1_prepare
set_option maxRecDepth 20000 in
theorem ggX1_remember_X1_commit : GoodIn wsX1_remember wsX1_commit := goodIn_r _ [62, 7, 63, 64, 52, 53, 54, 65, 66, 67] (by decide +kernel) (by decide +kernel)
set_option maxRecDepth 20000 in
theorem gX1_remember_X1_commit : GoodIn wsX1_remember (wsV RX1 41 RX1 yX1_commit wsX1_commit) := goodIn_app (goodIn_of _ (by decide +kernel)) ggX1_remember_X1_commit
theorem dX1_remember_0 : decode cX1_remember 0 = .ok (.aload_n 0, 1) := by decide +kernel
theorem dX1_remember_1 : decode cX1_remember 1 = .ok (.aload_n 1, 1) := by decide +kernel
theorem dX1_remember_2 : decode cX1_remember 2 = .ok (.invokevirtual 37, 3) := by decide +kernel
theorem dX1_remember_5 : decode cX1_remember 5 = .ok (.aload_n 0, 1) := by decide +kernel
theorem dX1_remember_6 : decode cX1_remember 6 = .ok (.invokevirtual 41, 3) := by decide +kernel
theorem dX1_remember_9 : decode cX1_remember 9 = .ok (.return_, 1) := by decide +kernel
set_option maxRecDepth 20000 in
theorem ggX1_newestState_X3_copyAt : GoodIn wsX1_newestState wsX3_copyAt := goodIn_r _ [8, 9, 13] (by decide +kernel) (by decide +kernel)
set_option maxRecDepth 20000 in
theorem gX1_newestState_X3_copyAt : GoodIn wsX1_newestState (wsV RX1 44 RX3 yX3_copyAt wsX3_copyAt) := goodIn_app (goodIn_of _ (by decide +kernel)) ggX1_newestState_X3_copyAt
theorem dX1_newestState_0 : decode cX1_newestState 0 = .ok (.aload_n 0, 1) := by decide +kernel
theorem dX1_newestState_1 : decode cX1_newestState 1 = .ok (.getfield 28, 3) := by decide +kernel
theorem dX1_newestState_4 : decode cX1_newestState 4 = .ok (.ifCond .le 17, 3) := by decide +kernel
theorem dX1_newestState_7 : decode cX1_newestState 7 = .ok (.aload_n 0, 1) := by decide +kernel
theorem dX1_newestState_8 : decode cX1_newestState 8 = .ok (.getfield 16, 3) := by decide +kernel
theorem dX1_newestState_11 : decode cX1_newestState 11 = .ok (.aload_n 0, 1) := by decide +kernel
theorem dX1_newestState_12 : decode cX1_newestState 12 = .ok (.getfield 20, 3) := by decide +kernel
theorem dX1_newestState_15 : decode cX1_newestState 15 = .ok (.invokevirtual 44, 3) := by decide +kernel
theorem dX1_newestState_18 : decode cX1_newestState 18 = .ok (.goto 4, 3) := by decide +kernel
theorem dX1_newestState_21 : decode cX1_newestState 21 = .ok (.aconst_null, 1) := by decide +kernel
theorem dX1_newestState_22 : decode cX1_newestState 22 = .ok (.areturn, 1) := by decide +kernel
theorem dX1_dropNewest_0 : decode cX1_dropNewest 0 = .ok (.aload_n 0, 1) := by decide +kernel
theorem dX1_dropNewest_1 : decode cX1_dropNewest 1 = .ok (.aload_n 0, 1) := by decide +kernel
theorem dX1_dropNewest_2 : decode cX1_dropNewest 2 = .ok (.getfield 20, 3) := by decide +kernel
theorem dX1_dropNewest_5 : decode cX1_dropNewest 5 = .ok (.bipush 15, 2) := by decide +kernel
theorem dX1_dropNewest_7 : decode cX1_dropNewest 7 = .ok (.iadd, 1) := by decide +kernel
theorem dX1_dropNewest_8 : decode cX1_dropNewest 8 = .ok (.iconst 1, 1) := by decide +kernel
theorem dX1_dropNewest_9 : decode cX1_dropNewest 9 = .ok (.isub, 1) := by decide +kernel
theorem dX1_dropNewest_10 : decode cX1_dropNewest 10 = .ok (.bipush 15, 2) := by decide +kernel
theorem dX1_dropNewest_12 : decode cX1_dropNewest 12 = .ok (.irem, 1) := by decide +kernel
theorem dX1_dropNewest_13 : decode cX1_dropNewest 13 = .ok (.putfield 20, 3) := by decide +kernel
theorem dX1_dropNewest_16 : decode cX1_dropNewest 16 = .ok (.aload_n 0, 1) := by decide +kernel
theorem dX1_dropNewest_17 : decode cX1_dropNewest 17 = .ok (.dup, 1) := by decide +kernel
theorem dX1_dropNewest_18 : decode cX1_dropNewest 18 = .ok (.getfield 28, 3) := by decide +kernel
theorem dX1_dropNewest_21 : decode cX1_dropNewest 21 = .ok (.iconst 1, 1) := by decide +kernel
theorem dX1_dropNewest_22 : decode cX1_dropNewest 22 = .ok (.isub, 1) := by decide +kernel
theorem dX1_dropNewest_23 : decode cX1_dropNewest 23 = .ok (.putfield 28, 3) := by decide +kernel
theorem dX1_dropNewest_26 : decode cX1_dropNewest 26 = .ok (.return_, 1) := by decide +kernel
theorem dX1_forgetAll_0 : decode cX1_forgetAll 0 = .ok (.aload_n 0, 1) := by decide +kernel
theorem dX1_forgetAll_1 : decode cX1_forgetAll 1 = .ok (.iconst 0, 1) := by decide +kernel
theorem dX1_forgetAll_2 : decode cX1_forgetAll 2 = .ok (.putfield 28, 3) := by decide +kernel
theorem dX1_forgetAll_5 : decode cX1_forgetAll 5 = .ok (.return_, 1) := by decide +kernel
theorem dX2_init_0 : decode cX2_init 0 = .ok (.aload_n 0, 1) := by decide +kernel
theorem dX2_init_1 : decode cX2_init 1 = .ok (.invokespecial 3, 3) := by decide +kernel
theorem dX2_init_4 : decode cX2_init 4 = .ok (.aload_n 0, 1) := by decide +kernel
theorem dX2_init_5 : decode cX2_init 5 = .ok (.bipush 41, 2) := by decide +kernel
theorem dX2_init_7 : decode cX2_init 7 = .ok (.newarray .int, 2) := by decide +kernel
theorem dX2_init_9 : decode cX2_init 9 = .ok (.putfield 9, 3) := by decide +kernel
theorem dX2_init_12 : decode cX2_init 12 = .ok (.aload_n 0, 1) := by decide +kernel
theorem dX2_init_13 : decode cX2_init 13 = .ok (.bipush 16, 2) := by decide +kernel
theorem dX2_init_15 : decode cX2_init 15 = .ok (.newarray .int, 2) := by decide +kernel
theorem dX2_init_17 : decode cX2_init 17 = .ok (.putfield 15, 3) := by decide +kernel
theorem dX2_init_20 : decode cX2_init 20 = .ok (.return_, 1) := by decide +kernel
set_option maxRecDepth 20000 in
theorem ggX2_readFigure_X2_distanceOf_p0 : GoodIn wsX2_readFigure [.code yX2_distanceOf cX2_distanceOf 13 (some .int)] := goodIn_r _ [12] (by decide +kernel) (by decide +kernel)
theorem ggX2_readFigure_X2_distanceOf_p1 : GoodIn wsX2_readFigure wsX2_distanceOf_r1 := goodIn_r _ [13, 14, 15, 16, 17, 18, 19, 20, 21, 22, 23, 24, 25, 26, 27, 28, 29, 30, 31, 32, 33, 34, 35, 11] (by decide +kernel) (by decide +kernel)
theorem ggX2_readFigure_X2_distanceOf_p2 : GoodIn wsX2_readFigure wsX2_distanceOf_r2 := goodIn_r _ [36, 37, 38, 39, 40, 41, 42] (by decide +kernel) (by decide +kernel)
theorem ggX2_readFigure_X2_distanceOf_p3 : GoodIn wsX2_readFigure wsX20 := goodIn_r _ [58, 59, 60, 61, 62, 63] (by decide +kernel) (by decide +kernel)
theorem ggX2_readFigure_X2_distanceOf_p4 : GoodIn wsX2_readFigure wsX00 := goodIn_r _ [70, 71, 72, 73, 74] (by decide +kernel) (by decide +kernel)
theorem ggX2_readFigure_X2_distanceOf : GoodIn wsX2_readFigure wsX2_distanceOf := (goodIn_c2 ggX2_readFigure_X2_distanceOf_p0 (goodIn_app (goodIn_app (goodIn_app ggX2_readFigure_X2_distanceOf_p1 ggX2_readFigure_X2_distanceOf_p2) ggX2_readFigure_X2_distanceOf_p3) ggX2_readFigure_X2_distanceOf_p4))
set_option maxRecDepth 20000 in
theorem gX2_readFigure_X2_distanceOf : GoodIn wsX2_readFigure (wsV RX2 37 RX2 yX2_distanceOf wsX2_distanceOf) := goodIn_app (goodIn_of _ (by decide +kernel)) ggX2_readFigure_X2_distanceOf
set_option maxRecDepth 20000 in
theorem ggX2_readFigure_X6_putCell : GoodIn wsX2_readFigure wsX6_putCell := goodIn_r _ [28] (by decide +kernel) (by decide +kernel)
set_option maxRecDepth 20000 in
theorem gX2_readFigure_X6_putCell_n41 : GoodIn wsX2_readFigure (wsX6_putCell) := ggX2_readFigure_X6_putCell
set_option maxRecDepth 20000 in
theorem ggX2_readFigure_X4_settingOf : GoodIn wsX2_readFigure wsX4_settingOf := goodIn_r _ [47, 48, 24, 25, 26, 64, 65, 66, 67, 68, 69] (by decide +kernel) (by decide +kernel)
set_option maxRecDepth 20000 in
theorem gX2_readFigure_X4_settingOf : GoodIn wsX2_readFigure (wsV RX2 45 RX4 yX4_settingOf wsX4_settingOf) := goodIn_app (goodIn_of _ (by decide +kernel)) ggX2_readFigure_X4_settingOf
set_option maxRecDepth 20000 in
theorem ggX2_readFigure_X2_hasRival_p0 : GoodIn wsX2_readFigure [.code yX2_hasRival cX2_hasRival 6 (some .boolean)] := goodIn_r _ [52] (by decide +kernel) (by decide +kernel)
theorem ggX2_readFigure_X2_hasRival_p1 : GoodIn wsX2_readFigure [.fieldLink RX2 18 "RuledStrokes$Reader" "sample" "I", .fieldLink RX2 22 "RuledStrokes$Reader" "distance" "I", .fieldLink RX2 28 "RuledStrokes$State" "samples" "I", .fieldLink RX2 15 "RuledStrokes$Reader" "distances" "[I", .methodLink RX2 56 yX4_nameOf, .instanceMethod yX4_nameOf, .selects RX4 yX4_nameOf yX4_nameOf, .initialized RX4, .code yX4_nameOf cX4_nameOf 2 (some .int), .fieldLink RX4 18 "RuledStrokes$State" "names" "[I", .static yX6_cell, .initialized RX6, .code yX6_cell cX6_cell 2 (some .int), .methodLink RX2 45 yX4_settingOf, .instanceMethod yX4_settingOf, .selects RX4 yX4_settingOf yX4_settingOf, .code yX4_settingOf cX4_settingOf 2 (some .int), .fieldLink RX4 22 "RuledStrokes$State" "settings" "[I"] := goodIn_r _ [1, 2, 4, 6, 53, 54, 55, 46, 56, 57, 24, 25, 26, 43, 44, 45, 47, 48] (by decide +kernel) (by decide +kernel)
theorem ggX2_readFigure_X2_hasRival_p2 : GoodIn wsX2_readFigure wsX20 := goodIn_r _ [58, 59, 60, 61, 62, 63] (by decide +kernel) (by decide +kernel)
theorem ggX2_readFigure_X2_hasRival_p3 : GoodIn wsX2_readFigure wsX40 := goodIn_r _ [64, 65, 66, 67, 68, 69] (by decide +kernel) (by decide +kernel)
theorem ggX2_readFigure_X2_hasRival : GoodIn wsX2_readFigure wsX2_hasRival := (goodIn_c2 ggX2_readFigure_X2_hasRival_p0 (goodIn_app (goodIn_app ggX2_readFigure_X2_hasRival_p1 ggX2_readFigure_X2_hasRival_p2) ggX2_readFigure_X2_hasRival_p3))
set_option maxRecDepth 20000 in
theorem gX2_readFigure_X2_hasRival : GoodIn wsX2_readFigure (wsV RX2 52 RX2 yX2_hasRival wsX2_hasRival) := goodIn_app (goodIn_of _ (by decide +kernel)) ggX2_readFigure_X2_hasRival
set_option maxRecDepth 20000 in
theorem ggX2_readFigure_X4_nameOf : GoodIn wsX2_readFigure wsX4_nameOf := goodIn_r _ [56, 57, 24, 25, 26, 64, 65, 66, 67, 68, 69] (by decide +kernel) (by decide +kernel)
set_option maxRecDepth 20000 in
theorem gX2_readFigure_X4_nameOf : GoodIn wsX2_readFigure (wsV RX2 56 RX4 yX4_nameOf wsX4_nameOf) := goodIn_app (goodIn_of _ (by decide +kernel)) ggX2_readFigure_X4_nameOf
theorem dX2_readFigure_0 : decode cX2_readFigure 0 = .ok (.aload_n 0, 1) := by decide +kernel
theorem dX2_readFigure_1 : decode cX2_readFigure 1 = .ok (.iconst (-1), 1) := by decide +kernel
theorem dX2_readFigure_2 : decode cX2_readFigure 2 = .ok (.putfield 18, 3) := by decide +kernel
theorem dX2_readFigure_5 : decode cX2_readFigure 5 = .ok (.aload_n 0, 1) := by decide +kernel
theorem dX2_readFigure_6 : decode cX2_readFigure 6 = .ok (.iconst (-1), 1) := by decide +kernel
theorem dX2_readFigure_7 : decode cX2_readFigure 7 = .ok (.putfield 22, 3) := by decide +kernel
theorem dX2_readFigure_10 : decode cX2_readFigure 10 = .ok (.aload_n 0, 1) := by decide +kernel
theorem dX2_readFigure_11 : decode cX2_readFigure 11 = .ok (.iconst (-1), 1) := by decide +kernel
theorem dX2_readFigure_12 : decode cX2_readFigure 12 = .ok (.putfield 25, 3) := by decide +kernel
theorem dX2_readFigure_15 : decode cX2_readFigure 15 = .ok (.iconst 0, 1) := by decide +kernel
theorem dX2_readFigure_16 : decode cX2_readFigure 16 = .ok (.istore 4, 2) := by decide +kernel
theorem dX2_readFigure_18 : decode cX2_readFigure 18 = .ok (.iload 4, 2) := by decide +kernel
theorem dX2_readFigure_20 : decode cX2_readFigure 20 = .ok (.aload_n 1, 1) := by decide +kernel
theorem dX2_readFigure_21 : decode cX2_readFigure 21 = .ok (.getfield 28, 3) := by decide +kernel
theorem dX2_readFigure_24 : decode cX2_readFigure 24 = .ok (.if_icmp .ge 71, 3) := by decide +kernel
theorem dX2_readFigure_27 : decode cX2_readFigure 27 = .ok (.iload 4, 2) := by decide +kernel
theorem dX2_readFigure_29 : decode cX2_readFigure 29 = .ok (.iload_n 3, 1) := by decide +kernel
theorem dX2_readFigure_30 : decode cX2_readFigure 30 = .ok (.if_icmp .ne 6, 3) := by decide +kernel
theorem dX2_readFigure_33 : decode cX2_readFigure 33 = .ok (.goto 56, 3) := by decide +kernel
theorem dX2_readFigure_36 : decode cX2_readFigure 36 = .ok (.aload_n 0, 1) := by decide +kernel
theorem dX2_readFigure_37 : decode cX2_readFigure 37 = .ok (.aload_n 1, 1) := by decide +kernel
theorem dX2_readFigure_38 : decode cX2_readFigure 38 = .ok (.getfield 33, 3) := by decide +kernel
theorem dX2_readFigure_41 : decode cX2_readFigure 41 = .ok (.iload_n 2, 1) := by decide +kernel
theorem dX2_readFigure_42 : decode cX2_readFigure 42 = .ok (.iload 4, 2) := by decide +kernel
theorem dX2_readFigure_44 : decode cX2_readFigure 44 = .ok (.invokevirtual 37, 3) := by decide +kernel
theorem dX2_readFigure_47 : decode cX2_readFigure 47 = .ok (.istore 5, 2) := by decide +kernel
theorem dX2_readFigure_49 : decode cX2_readFigure 49 = .ok (.aload_n 0, 1) := by decide +kernel
theorem dX2_readFigure_50 : decode cX2_readFigure 50 = .ok (.getfield 15, 3) := by decide +kernel
theorem dX2_readFigure_53 : decode cX2_readFigure 53 = .ok (.iload 4, 2) := by decide +kernel
theorem dX2_readFigure_55 : decode cX2_readFigure 55 = .ok (.iload 5, 2) := by decide +kernel
theorem dX2_readFigure_57 : decode cX2_readFigure 57 = .ok (.invokestatic 41, 3) := by decide +kernel
theorem dX2_readFigure_60 : decode cX2_readFigure 60 = .ok (.aload_n 0, 1) := by decide +kernel
theorem dX2_readFigure_61 : decode cX2_readFigure 61 = .ok (.getfield 18, 3) := by decide +kernel
theorem dX2_readFigure_64 : decode cX2_readFigure 64 = .ok (.iconst (-1), 1) := by decide +kernel
theorem dX2_readFigure_65 : decode cX2_readFigure 65 = .ok (.if_icmp .eq 12, 3) := by decide +kernel
theorem dX2_readFigure_68 : decode cX2_readFigure 68 = .ok (.iload 5, 2) := by decide +kernel
theorem dX2_readFigure_70 : decode cX2_readFigure 70 = .ok (.aload_n 0, 1) := by decide +kernel
theorem dX2_readFigure_71 : decode cX2_readFigure 71 = .ok (.getfield 22, 3) := by decide +kernel
theorem dX2_readFigure_74 : decode cX2_readFigure 74 = .ok (.if_icmp .ge 15, 3) := by decide +kernel
theorem dX2_readFigure_77 : decode cX2_readFigure 77 = .ok (.aload_n 0, 1) := by decide +kernel
theorem dX2_readFigure_78 : decode cX2_readFigure 78 = .ok (.iload 4, 2) := by decide +kernel
theorem dX2_readFigure_80 : decode cX2_readFigure 80 = .ok (.putfield 18, 3) := by decide +kernel
theorem dX2_readFigure_83 : decode cX2_readFigure 83 = .ok (.aload_n 0, 1) := by decide +kernel
theorem dX2_readFigure_84 : decode cX2_readFigure 84 = .ok (.iload 5, 2) := by decide +kernel
theorem dX2_readFigure_86 : decode cX2_readFigure 86 = .ok (.putfield 22, 3) := by decide +kernel
theorem dX2_readFigure_89 : decode cX2_readFigure 89 = .ok (.iinc 4 1, 3) := by decide +kernel
theorem dX2_readFigure_92 : decode cX2_readFigure 92 = .ok (.goto (-74), 3) := by decide +kernel
theorem dX2_readFigure_95 : decode cX2_readFigure 95 = .ok (.aload_n 0, 1) := by decide +kernel
theorem dX2_readFigure_96 : decode cX2_readFigure 96 = .ok (.getfield 18, 3) := by decide +kernel
theorem dX2_readFigure_99 : decode cX2_readFigure 99 = .ok (.iconst (-1), 1) := by decide +kernel
theorem dX2_readFigure_100 : decode cX2_readFigure 100 = .ok (.if_icmp .eq 15, 3) := by decide +kernel
theorem dX2_readFigure_103 : decode cX2_readFigure 103 = .ok (.aload_n 0, 1) := by decide +kernel
theorem dX2_readFigure_104 : decode cX2_readFigure 104 = .ok (.getfield 22, 3) := by decide +kernel
theorem dX2_readFigure_107 : decode cX2_readFigure 107 = .ok (.aload_n 1, 1) := by decide +kernel
theorem dX2_readFigure_108 : decode cX2_readFigure 108 = .ok (.iconst 1, 1) := by decide +kernel
theorem dX2_readFigure_109 : decode cX2_readFigure 109 = .ok (.invokevirtual 45, 3) := by decide +kernel
theorem dX2_readFigure_112 : decode cX2_readFigure 112 = .ok (.if_icmp .le 11, 3) := by decide +kernel
theorem dX2_readFigure_115 : decode cX2_readFigure 115 = .ok (.aload_n 0, 1) := by decide +kernel
theorem dX2_readFigure_116 : decode cX2_readFigure 116 = .ok (.iconst 2, 1) := by decide +kernel
theorem dX2_readFigure_117 : decode cX2_readFigure 117 = .ok (.putfield 49, 3) := by decide +kernel
theorem dX2_readFigure_120 : decode cX2_readFigure 120 = .ok (.goto 37, 3) := by decide +kernel
theorem dX2_readFigure_123 : decode cX2_readFigure 123 = .ok (.aload_n 0, 1) := by decide +kernel
theorem dX2_readFigure_124 : decode cX2_readFigure 124 = .ok (.aload_n 1, 1) := by decide +kernel
theorem dX2_readFigure_125 : decode cX2_readFigure 125 = .ok (.iload_n 3, 1) := by decide +kernel
theorem dX2_readFigure_126 : decode cX2_readFigure 126 = .ok (.invokevirtual 52, 3) := by decide +kernel
theorem dX2_readFigure_129 : decode cX2_readFigure 129 = .ok (.ifCond .eq 11, 3) := by decide +kernel
theorem dX2_readFigure_132 : decode cX2_readFigure 132 = .ok (.aload_n 0, 1) := by decide +kernel
theorem dX2_readFigure_133 : decode cX2_readFigure 133 = .ok (.iconst 1, 1) := by decide +kernel
theorem dX2_readFigure_134 : decode cX2_readFigure 134 = .ok (.putfield 49, 3) := by decide +kernel
theorem dX2_readFigure_137 : decode cX2_readFigure 137 = .ok (.goto 20, 3) := by decide +kernel
theorem dX2_readFigure_140 : decode cX2_readFigure 140 = .ok (.aload_n 0, 1) := by decide +kernel
theorem dX2_readFigure_141 : decode cX2_readFigure 141 = .ok (.iconst 0, 1) := by decide +kernel
theorem dX2_readFigure_142 : decode cX2_readFigure 142 = .ok (.putfield 49, 3) := by decide +kernel
theorem dX2_readFigure_145 : decode cX2_readFigure 145 = .ok (.aload_n 0, 1) := by decide +kernel
theorem dX2_readFigure_146 : decode cX2_readFigure 146 = .ok (.aload_n 1, 1) := by decide +kernel
theorem dX2_readFigure_147 : decode cX2_readFigure 147 = .ok (.aload_n 0, 1) := by decide +kernel
theorem dX2_readFigure_148 : decode cX2_readFigure 148 = .ok (.getfield 18, 3) := by decide +kernel
theorem dX2_readFigure_151 : decode cX2_readFigure 151 = .ok (.invokevirtual 56, 3) := by decide +kernel
theorem dX2_readFigure_154 : decode cX2_readFigure 154 = .ok (.putfield 25, 3) := by decide +kernel
theorem dX2_readFigure_157 : decode cX2_readFigure 157 = .ok (.return_, 1) := by decide +kernel
set_option maxRecDepth 20000 in
theorem ggX2_hasRival_X4_nameOf : GoodIn wsX2_hasRival wsX4_nameOf := goodIn_r _ [9, 10, 11, 12, 13, 25, 26, 27, 28, 29, 30] (by decide +kernel) (by decide +kernel)
set_option maxRecDepth 20000 in
theorem gX2_hasRival_X4_nameOf : GoodIn wsX2_hasRival (wsV RX2 56 RX4 yX4_nameOf wsX4_nameOf) := goodIn_app (goodIn_of _ (by decide +kernel)) ggX2_hasRival_X4_nameOf
set_option maxRecDepth 20000 in
theorem ggX2_hasRival_X4_settingOf : GoodIn wsX2_hasRival wsX4_settingOf := goodIn_r _ [17, 18, 11, 12, 13, 25, 26, 27, 28, 29, 30] (by decide +kernel) (by decide +kernel)
set_option maxRecDepth 20000 in
theorem gX2_hasRival_X4_settingOf : GoodIn wsX2_hasRival (wsV RX2 45 RX4 yX4_settingOf wsX4_settingOf) := goodIn_app (goodIn_of _ (by decide +kernel)) ggX2_hasRival_X4_settingOf
set_option maxRecDepth 20000 in
theorem ggX2_hasRival_X6_cell : GoodIn wsX2_hasRival wsX6_cell := goodIn_r _ [13] (by decide +kernel) (by decide +kernel)
set_option maxRecDepth 20000 in
theorem gX2_hasRival_X6_cell_n59 : GoodIn wsX2_hasRival (wsX6_cell) := ggX2_hasRival_X6_cell
theorem dX2_hasRival_0 : decode cX2_hasRival 0 = .ok (.aload_n 1, 1) := by decide +kernel
theorem dX2_hasRival_1 : decode cX2_hasRival 1 = .ok (.aload_n 0, 1) := by decide +kernel
theorem dX2_hasRival_2 : decode cX2_hasRival 2 = .ok (.getfield 18, 3) := by decide +kernel
theorem dX2_hasRival_5 : decode cX2_hasRival 5 = .ok (.invokevirtual 56, 3) := by decide +kernel
theorem dX2_hasRival_8 : decode cX2_hasRival 8 = .ok (.istore_n 3, 1) := by decide +kernel
theorem dX2_hasRival_9 : decode cX2_hasRival 9 = .ok (.aload_n 0, 1) := by decide +kernel
theorem dX2_hasRival_10 : decode cX2_hasRival 10 = .ok (.getfield 22, 3) := by decide +kernel
theorem dX2_hasRival_13 : decode cX2_hasRival 13 = .ok (.aload_n 1, 1) := by decide +kernel
theorem dX2_hasRival_14 : decode cX2_hasRival 14 = .ok (.iconst 2, 1) := by decide +kernel
theorem dX2_hasRival_15 : decode cX2_hasRival 15 = .ok (.invokevirtual 45, 3) := by decide +kernel
theorem dX2_hasRival_18 : decode cX2_hasRival 18 = .ok (.iadd, 1) := by decide +kernel
theorem dX2_hasRival_19 : decode cX2_hasRival 19 = .ok (.istore 4, 2) := by decide +kernel
theorem dX2_hasRival_21 : decode cX2_hasRival 21 = .ok (.iconst 0, 1) := by decide +kernel
theorem dX2_hasRival_22 : decode cX2_hasRival 22 = .ok (.istore 5, 2) := by decide +kernel
theorem dX2_hasRival_24 : decode cX2_hasRival 24 = .ok (.iload 5, 2) := by decide +kernel
theorem dX2_hasRival_26 : decode cX2_hasRival 26 = .ok (.aload_n 1, 1) := by decide +kernel
theorem dX2_hasRival_27 : decode cX2_hasRival 27 = .ok (.getfield 28, 3) := by decide +kernel
theorem dX2_hasRival_30 : decode cX2_hasRival 30 = .ok (.if_icmp .ge 41, 3) := by decide +kernel
theorem dX2_hasRival_33 : decode cX2_hasRival 33 = .ok (.iload 5, 2) := by decide +kernel
theorem dX2_hasRival_35 : decode cX2_hasRival 35 = .ok (.iload_n 2, 1) := by decide +kernel
theorem dX2_hasRival_36 : decode cX2_hasRival 36 = .ok (.if_icmp .eq 29, 3) := by decide +kernel
theorem dX2_hasRival_39 : decode cX2_hasRival 39 = .ok (.aload_n 1, 1) := by decide +kernel
theorem dX2_hasRival_40 : decode cX2_hasRival 40 = .ok (.iload 5, 2) := by decide +kernel
theorem dX2_hasRival_42 : decode cX2_hasRival 42 = .ok (.invokevirtual 56, 3) := by decide +kernel
theorem dX2_hasRival_45 : decode cX2_hasRival 45 = .ok (.iload_n 3, 1) := by decide +kernel
theorem dX2_hasRival_46 : decode cX2_hasRival 46 = .ok (.if_icmp .eq 19, 3) := by decide +kernel
theorem dX2_hasRival_49 : decode cX2_hasRival 49 = .ok (.aload_n 0, 1) := by decide +kernel
theorem dX2_hasRival_50 : decode cX2_hasRival 50 = .ok (.getfield 15, 3) := by decide +kernel
theorem dX2_hasRival_53 : decode cX2_hasRival 53 = .ok (.iload 5, 2) := by decide +kernel
theorem dX2_hasRival_55 : decode cX2_hasRival 55 = .ok (.invokestatic 59, 3) := by decide +kernel
theorem dX2_hasRival_58 : decode cX2_hasRival 58 = .ok (.iload 4, 2) := by decide +kernel
theorem dX2_hasRival_60 : decode cX2_hasRival 60 = .ok (.if_icmp .ge 5, 3) := by decide +kernel
theorem dX2_hasRival_63 : decode cX2_hasRival 63 = .ok (.iconst 1, 1) := by decide +kernel
theorem dX2_hasRival_64 : decode cX2_hasRival 64 = .ok (.ireturn, 1) := by decide +kernel
theorem dX2_hasRival_65 : decode cX2_hasRival 65 = .ok (.iinc 5 1, 3) := by decide +kernel
theorem dX2_hasRival_68 : decode cX2_hasRival 68 = .ok (.goto (-44), 3) := by decide +kernel
theorem dX2_hasRival_71 : decode cX2_hasRival 71 = .ok (.iconst 0, 1) := by decide +kernel
theorem dX2_hasRival_72 : decode cX2_hasRival 72 = .ok (.ireturn, 1) := by decide +kernel
set_option maxRecDepth 20000 in
theorem ggX2_rankedSample_X2_distanceOf_p0 : GoodIn wsX2_rankedSample [.code yX2_distanceOf cX2_distanceOf 13 (some .int)] := goodIn_r _ [8] (by decide +kernel) (by decide +kernel)
theorem ggX2_rankedSample_X2_distanceOf_p1 : GoodIn wsX2_rankedSample wsX2_distanceOf_r1 := goodIn_r _ [9, 10, 11, 12, 13, 14, 15, 16, 17, 18, 19, 20, 21, 22, 23, 24, 25, 26, 27, 28, 29, 30, 31, 7] (by decide +kernel) (by decide +kernel)
theorem ggX2_rankedSample_X2_distanceOf_p2 : GoodIn wsX2_rankedSample wsX2_distanceOf_r2 := goodIn_r _ [32, 33, 34, 35, 36, 37, 38] (by decide +kernel) (by decide +kernel)
theorem ggX2_rankedSample_X2_distanceOf_p3 : GoodIn wsX2_rankedSample wsX20 := goodIn_r _ [49, 50, 51, 52, 53, 54] (by decide +kernel) (by decide +kernel)
theorem ggX2_rankedSample_X2_distanceOf_p4 : GoodIn wsX2_rankedSample wsX00 := goodIn_r _ [55, 56, 57, 58, 59] (by decide +kernel) (by decide +kernel)
theorem ggX2_rankedSample_X2_distanceOf : GoodIn wsX2_rankedSample wsX2_distanceOf := (goodIn_c2 ggX2_rankedSample_X2_distanceOf_p0 (goodIn_app (goodIn_app (goodIn_app ggX2_rankedSample_X2_distanceOf_p1 ggX2_rankedSample_X2_distanceOf_p2) ggX2_rankedSample_X2_distanceOf_p3) ggX2_rankedSample_X2_distanceOf_p4))
set_option maxRecDepth 20000 in
theorem gX2_rankedSample_X2_distanceOf : GoodIn wsX2_rankedSample (wsV RX2 37 RX2 yX2_distanceOf wsX2_distanceOf) := goodIn_app (goodIn_of _ (by decide +kernel)) ggX2_rankedSample_X2_distanceOf
set_option maxRecDepth 20000 in
theorem ggX2_rankedSample_X6_putCell : GoodIn wsX2_rankedSample wsX6_putCell := goodIn_r _ [24] (by decide +kernel) (by decide +kernel)
set_option maxRecDepth 20000 in
theorem gX2_rankedSample_X6_putCell_n41 : GoodIn wsX2_rankedSample (wsX6_putCell) := ggX2_rankedSample_X6_putCell
set_option maxRecDepth 20000 in
theorem ggX2_rankedSample_X2_samplesBefore : GoodIn wsX2_rankedSample wsX2_samplesBefore := goodIn_r _ [42, 2, 1, 20, 21, 22, 49, 50, 51, 52, 53, 54, 43, 44, 45, 46, 47, 48] (by decide +kernel) (by decide +kernel)
