theorem dX4_changeSetting_27 : decode cX4_changeSetting 27 = .ok (.iconst 0, 1) := by decide +kernel
theorem dX4_changeSetting_28 : decode cX4_changeSetting 28 = .ok (.istore_n 3, 1) := by decide +kernel
theorem dX4_changeSetting_29 : decode cX4_changeSetting 29 = .ok (.iload_n 3, 1) := by decide +kernel
theorem dX4_changeSetting_30 : decode cX4_changeSetting 30 = .ok (.aload_n 0, 1) := by decide +kernel
theorem dX4_changeSetting_31 : decode cX4_changeSetting 31 = .ok (.getfield 36, 3) := by decide +kernel
theorem dX4_changeSetting_34 : decode cX4_changeSetting 34 = .ok (.if_icmp .ge 18, 3) := by decide +kernel
theorem dX4_changeSetting_37 : decode cX4_changeSetting 37 = .ok (.aload_n 0, 1) := by decide +kernel
theorem dX4_changeSetting_38 : decode cX4_changeSetting 38 = .ok (.getfield 12, 3) := by decide +kernel
theorem dX4_changeSetting_41 : decode cX4_changeSetting 41 = .ok (.iload_n 3, 1) := by decide +kernel
theorem dX4_changeSetting_42 : decode cX4_changeSetting 42 = .ok (.iload_n 2, 1) := by decide +kernel
theorem dX4_changeSetting_43 : decode cX4_changeSetting 43 = .ok (.invokevirtual 107, 3) := by decide +kernel
theorem dX4_changeSetting_46 : decode cX4_changeSetting 46 = .ok (.iinc 3 1, 3) := by decide +kernel
theorem dX4_changeSetting_49 : decode cX4_changeSetting 49 = .ok (.goto (-20), 3) := by decide +kernel
theorem dX4_changeSetting_52 : decode cX4_changeSetting 52 = .ok (.aload_n 0, 1) := by decide +kernel
theorem dX4_changeSetting_53 : decode cX4_changeSetting 53 = .ok (.getfield 12, 3) := by decide +kernel
theorem dX4_changeSetting_56 : decode cX4_changeSetting 56 = .ok (.bipush 16, 2) := by decide +kernel
theorem dX4_changeSetting_58 : decode cX4_changeSetting 58 = .ok (.iload_n 2, 1) := by decide +kernel
theorem dX4_changeSetting_59 : decode cX4_changeSetting 59 = .ok (.invokevirtual 107, 3) := by decide +kernel
theorem dX4_changeSetting_62 : decode cX4_changeSetting 62 = .ok (.iconst 1, 1) := by decide +kernel
theorem dX4_changeSetting_63 : decode cX4_changeSetting 63 = .ok (.ireturn, 1) := by decide +kernel
set_option maxRecDepth 20000 in
theorem ggX4_takesRuling_X0_fits : GoodIn wsX4_takesRuling wsX0_fits := goodIn_r _ [7, 8, 9, 10, 11, 12, 13, 14, 6, 15, 16, 17, 18, 19, 20, 21, 22, 23, 24, 25, 26, 27, 28, 29, 30, 31, 32, 33, 34, 35, 36, 37, 38, 45, 46, 47, 48, 49] (by decide +kernel) (by decide +kernel)
set_option maxRecDepth 20000 in
theorem gX4_takesRuling_X0_fits : GoodIn wsX4_takesRuling (wsV RX4 110 RX0 yX0_fits wsX0_fits) := goodIn_app (goodIn_of _ (by decide +kernel)) ggX4_takesRuling_X0_fits
theorem dX4_takesRuling_0 : decode cX4_takesRuling 0 = .ok (.aload_n 0, 1) := by decide +kernel
theorem dX4_takesRuling_1 : decode cX4_takesRuling 1 = .ok (.getfield 12, 3) := by decide +kernel
theorem dX4_takesRuling_4 : decode cX4_takesRuling 4 = .ok (.bipush 16, 2) := by decide +kernel
theorem dX4_takesRuling_6 : decode cX4_takesRuling 6 = .ok (.iload_n 1, 1) := by decide +kernel
theorem dX4_takesRuling_7 : decode cX4_takesRuling 7 = .ok (.invokevirtual 110, 3) := by decide +kernel
theorem dX4_takesRuling_10 : decode cX4_takesRuling 10 = .ok (.istore_n 2, 1) := by decide +kernel
theorem dX4_takesRuling_11 : decode cX4_takesRuling 11 = .ok (.iconst 0, 1) := by decide +kernel
theorem dX4_takesRuling_12 : decode cX4_takesRuling 12 = .ok (.istore_n 3, 1) := by decide +kernel
theorem dX4_takesRuling_13 : decode cX4_takesRuling 13 = .ok (.iload_n 3, 1) := by decide +kernel
theorem dX4_takesRuling_14 : decode cX4_takesRuling 14 = .ok (.aload_n 0, 1) := by decide +kernel
theorem dX4_takesRuling_15 : decode cX4_takesRuling 15 = .ok (.getfield 36, 3) := by decide +kernel
theorem dX4_takesRuling_18 : decode cX4_takesRuling 18 = .ok (.if_icmp .ge 23, 3) := by decide +kernel
theorem dX4_takesRuling_21 : decode cX4_takesRuling 21 = .ok (.iload_n 2, 1) := by decide +kernel
theorem dX4_takesRuling_22 : decode cX4_takesRuling 22 = .ok (.ifCond .eq 19, 3) := by decide +kernel
theorem dX4_takesRuling_25 : decode cX4_takesRuling 25 = .ok (.aload_n 0, 1) := by decide +kernel
theorem dX4_takesRuling_26 : decode cX4_takesRuling 26 = .ok (.getfield 12, 3) := by decide +kernel
theorem dX4_takesRuling_29 : decode cX4_takesRuling 29 = .ok (.iload_n 3, 1) := by decide +kernel
theorem dX4_takesRuling_30 : decode cX4_takesRuling 30 = .ok (.iload_n 1, 1) := by decide +kernel
theorem dX4_takesRuling_31 : decode cX4_takesRuling 31 = .ok (.invokevirtual 110, 3) := by decide +kernel
theorem dX4_takesRuling_34 : decode cX4_takesRuling 34 = .ok (.istore_n 2, 1) := by decide +kernel
theorem dX4_takesRuling_35 : decode cX4_takesRuling 35 = .ok (.iinc 3 1, 3) := by decide +kernel
theorem dX4_takesRuling_38 : decode cX4_takesRuling 38 = .ok (.goto (-25), 3) := by decide +kernel
theorem dX4_takesRuling_41 : decode cX4_takesRuling 41 = .ok (.iload_n 2, 1) := by decide +kernel
theorem dX4_takesRuling_42 : decode cX4_takesRuling 42 = .ok (.ireturn, 1) := by decide +kernel
set_option maxRecDepth 20000 in
theorem ggX4_mirrorHand_X0_mirrorPlace : GoodIn wsX4_mirrorHand wsX0_mirrorPlace := goodIn_r _ [6, 7, 8, 9, 5, 10, 11, 12, 13, 14, 15, 16, 17, 18, 19, 20, 21, 22, 23, 24, 25, 26, 27, 28, 29, 30, 81, 82, 83, 84, 85] (by decide +kernel) (by decide +kernel)
set_option maxRecDepth 20000 in
theorem gX4_mirrorHand_X0_mirrorPlace : GoodIn wsX4_mirrorHand (wsV RX4 113 RX0 yX0_mirrorPlace wsX0_mirrorPlace) := goodIn_app (goodIn_of _ (by decide +kernel)) ggX4_mirrorHand_X0_mirrorPlace
set_option maxRecDepth 20000 in
theorem ggX4_mirrorHand_X4_settingOf : GoodIn wsX4_mirrorHand wsX4_settingOf := goodIn_r _ [35, 36, 12, 13, 14, 75, 76, 77, 78, 79, 80] (by decide +kernel) (by decide +kernel)
set_option maxRecDepth 20000 in
theorem gX4_mirrorHand_X4_settingOf : GoodIn wsX4_mirrorHand (wsV RX4 64 RX4 yX4_settingOf wsX4_settingOf) := goodIn_app (goodIn_of _ (by decide +kernel)) ggX4_mirrorHand_X4_settingOf
set_option maxRecDepth 20000 in
theorem ggX4_mirrorHand_X0_fits : GoodIn wsX4_mirrorHand wsX0_fits := goodIn_r _ [40, 41, 42, 43, 44, 7, 8, 9, 5, 10, 11, 12, 13, 14, 15, 16, 17, 18, 19, 20, 21, 22, 23, 24, 45, 46, 47, 48, 49, 50, 51, 52, 53, 81, 82, 83, 84, 85] (by decide +kernel) (by decide +kernel)
set_option maxRecDepth 20000 in
theorem gX4_mirrorHand_X0_fits : GoodIn wsX4_mirrorHand (wsV RX4 110 RX0 yX0_fits wsX0_fits) := goodIn_app (goodIn_of _ (by decide +kernel)) ggX4_mirrorHand_X0_fits
set_option maxRecDepth 20000 in
theorem ggX4_mirrorHand_X0_writeSigns : GoodIn wsX4_mirrorHand wsX0_writeSigns := goodIn_r _ [57, 58, 29, 13, 30, 7, 8, 9, 5, 10, 11, 12, 14, 59, 60, 61, 62, 63, 64, 65, 66, 67, 15, 16, 17, 18, 19, 20, 21, 22, 23, 24, 68, 69, 70, 71, 51, 52, 43, 53, 48, 49, 50, 72, 73, 74, 81, 82, 83, 84, 85] (by decide +kernel) (by decide +kernel)
set_option maxRecDepth 20000 in
theorem gX4_mirrorHand_X0_writeSigns : GoodIn wsX4_mirrorHand (wsV RX4 107 RX0 yX0_writeSigns wsX0_writeSigns) := goodIn_app (goodIn_of _ (by decide +kernel)) ggX4_mirrorHand_X0_writeSigns
theorem dX4_mirrorHand_0 : decode cX4_mirrorHand 0 = .ok (.aload_n 0, 1) := by decide +kernel
theorem dX4_mirrorHand_1 : decode cX4_mirrorHand 1 = .ok (.getfield 12, 3) := by decide +kernel
theorem dX4_mirrorHand_4 : decode cX4_mirrorHand 4 = .ok (.bipush 16, 2) := by decide +kernel
theorem dX4_mirrorHand_6 : decode cX4_mirrorHand 6 = .ok (.invokevirtual 113, 3) := by decide +kernel
theorem dX4_mirrorHand_9 : decode cX4_mirrorHand 9 = .ok (.aload_n 0, 1) := by decide +kernel
theorem dX4_mirrorHand_10 : decode cX4_mirrorHand 10 = .ok (.getfield 12, 3) := by decide +kernel
theorem dX4_mirrorHand_13 : decode cX4_mirrorHand 13 = .ok (.bipush 16, 2) := by decide +kernel
theorem dX4_mirrorHand_15 : decode cX4_mirrorHand 15 = .ok (.aload_n 0, 1) := by decide +kernel
theorem dX4_mirrorHand_16 : decode cX4_mirrorHand 16 = .ok (.iconst 0, 1) := by decide +kernel
theorem dX4_mirrorHand_17 : decode cX4_mirrorHand 17 = .ok (.invokevirtual 64, 3) := by decide +kernel
theorem dX4_mirrorHand_20 : decode cX4_mirrorHand 20 = .ok (.invokevirtual 110, 3) := by decide +kernel
theorem dX4_mirrorHand_23 : decode cX4_mirrorHand 23 = .ok (.ifCond .ne 5, 3) := by decide +kernel
theorem dX4_mirrorHand_26 : decode cX4_mirrorHand 26 = .ok (.iconst 0, 1) := by decide +kernel
theorem dX4_mirrorHand_27 : decode cX4_mirrorHand 27 = .ok (.ireturn, 1) := by decide +kernel
theorem dX4_mirrorHand_28 : decode cX4_mirrorHand 28 = .ok (.aload_n 0, 1) := by decide +kernel
theorem dX4_mirrorHand_29 : decode cX4_mirrorHand 29 = .ok (.getfield 12, 3) := by decide +kernel
theorem dX4_mirrorHand_32 : decode cX4_mirrorHand 32 = .ok (.bipush 16, 2) := by decide +kernel
theorem dX4_mirrorHand_34 : decode cX4_mirrorHand 34 = .ok (.aload_n 0, 1) := by decide +kernel
theorem dX4_mirrorHand_35 : decode cX4_mirrorHand 35 = .ok (.iconst 0, 1) := by decide +kernel
theorem dX4_mirrorHand_36 : decode cX4_mirrorHand 36 = .ok (.invokevirtual 64, 3) := by decide +kernel
theorem dX4_mirrorHand_39 : decode cX4_mirrorHand 39 = .ok (.invokevirtual 107, 3) := by decide +kernel
theorem dX4_mirrorHand_42 : decode cX4_mirrorHand 42 = .ok (.iconst 1, 1) := by decide +kernel
theorem dX4_mirrorHand_43 : decode cX4_mirrorHand 43 = .ok (.ireturn, 1) := by decide +kernel
theorem dX5_init_0 : decode cX5_init 0 = .ok (.aload_n 0, 1) := by decide +kernel
theorem dX5_init_1 : decode cX5_init 1 = .ok (.invokespecial 3, 3) := by decide +kernel
theorem dX5_init_4 : decode cX5_init 4 = .ok (.aload_n 0, 1) := by decide +kernel
theorem dX5_init_5 : decode cX5_init 5 = .ok (.bipush 100, 2) := by decide +kernel
theorem dX5_init_7 : decode cX5_init 7 = .ok (.newarray .int, 2) := by decide +kernel
theorem dX5_init_9 : decode cX5_init 9 = .ok (.putfield 9, 3) := by decide +kernel
theorem dX5_init_12 : decode cX5_init 12 = .ok (.return_, 1) := by decide +kernel
set_option maxRecDepth 20000 in
theorem ggX5_addCode_X6_putCell : GoodIn wsX5_addCode wsX6_putCell := goodIn_r _ [5] (by decide +kernel) (by decide +kernel)
set_option maxRecDepth 20000 in
theorem gX5_addCode_X6_putCell_n19 : GoodIn wsX5_addCode (wsX6_putCell) := ggX5_addCode_X6_putCell
theorem dX5_addCode_0 : decode cX5_addCode 0 = .ok (.aload_n 0, 1) := by decide +kernel
theorem dX5_addCode_1 : decode cX5_addCode 1 = .ok (.getfield 9, 3) := by decide +kernel
theorem dX5_addCode_4 : decode cX5_addCode 4 = .ok (.aload_n 0, 1) := by decide +kernel
theorem dX5_addCode_5 : decode cX5_addCode 5 = .ok (.getfield 15, 3) := by decide +kernel
theorem dX5_addCode_8 : decode cX5_addCode 8 = .ok (.iload_n 1, 1) := by decide +kernel
theorem dX5_addCode_9 : decode cX5_addCode 9 = .ok (.invokestatic 19, 3) := by decide +kernel
theorem dX5_addCode_12 : decode cX5_addCode 12 = .ok (.aload_n 0, 1) := by decide +kernel
theorem dX5_addCode_13 : decode cX5_addCode 13 = .ok (.dup, 1) := by decide +kernel
theorem dX5_addCode_14 : decode cX5_addCode 14 = .ok (.getfield 15, 3) := by decide +kernel
theorem dX5_addCode_17 : decode cX5_addCode 17 = .ok (.iconst 1, 1) := by decide +kernel
theorem dX5_addCode_18 : decode cX5_addCode 18 = .ok (.iadd, 1) := by decide +kernel
theorem dX5_addCode_19 : decode cX5_addCode 19 = .ok (.putfield 15, 3) := by decide +kernel
theorem dX5_addCode_22 : decode cX5_addCode 22 = .ok (.return_, 1) := by decide +kernel
set_option maxRecDepth 20000 in
theorem ggX5_firstError_X6_cell : GoodIn wsX5_firstError wsX6_cell := goodIn_r _ [5] (by decide +kernel) (by decide +kernel)
set_option maxRecDepth 20000 in
theorem gX5_firstError_X6_cell_n23 : GoodIn wsX5_firstError (wsX6_cell) := ggX5_firstError_X6_cell
set_option maxRecDepth 20000 in
theorem ggX5_firstError_X5_goesOn : GoodIn wsX5_firstError wsX5_goesOn := goodIn_r _ [9] (by decide +kernel) (by decide +kernel)
set_option maxRecDepth 20000 in
theorem gX5_firstError_X5_goesOn : GoodIn wsX5_firstError (va_wsS RX5 27 yX5_goesOn wsX5_goesOn) := goodIn_app (goodIn_of _ (by decide +kernel)) ggX5_firstError_X5_goesOn
theorem dX5_firstError_0 : decode cX5_firstError 0 = .ok (.iconst 1, 1) := by decide +kernel
theorem dX5_firstError_1 : decode cX5_firstError 1 = .ok (.istore_n 1, 1) := by decide +kernel
theorem dX5_firstError_2 : decode cX5_firstError 2 = .ok (.iconst 1, 1) := by decide +kernel
theorem dX5_firstError_3 : decode cX5_firstError 3 = .ok (.istore_n 2, 1) := by decide +kernel
theorem dX5_firstError_4 : decode cX5_firstError 4 = .ok (.iconst 0, 1) := by decide +kernel
theorem dX5_firstError_5 : decode cX5_firstError 5 = .ok (.istore_n 3, 1) := by decide +kernel
theorem dX5_firstError_6 : decode cX5_firstError 6 = .ok (.iconst 0, 1) := by decide +kernel
theorem dX5_firstError_7 : decode cX5_firstError 7 = .ok (.istore 4, 2) := by decide +kernel
theorem dX5_firstError_9 : decode cX5_firstError 9 = .ok (.iconst 1, 1) := by decide +kernel
theorem dX5_firstError_10 : decode cX5_firstError 10 = .ok (.istore 5, 2) := by decide +kernel
theorem dX5_firstError_12 : decode cX5_firstError 12 = .ok (.iconst 0, 1) := by decide +kernel
theorem dX5_firstError_13 : decode cX5_firstError 13 = .ok (.istore 6, 2) := by decide +kernel
theorem dX5_firstError_15 : decode cX5_firstError 15 = .ok (.iload 6, 2) := by decide +kernel
theorem dX5_firstError_17 : decode cX5_firstError 17 = .ok (.aload_n 0, 1) := by decide +kernel
theorem dX5_firstError_18 : decode cX5_firstError 18 = .ok (.getfield 15, 3) := by decide +kernel
theorem dX5_firstError_21 : decode cX5_firstError 21 = .ok (.if_icmp .ge 175, 3) := by decide +kernel
theorem dX5_firstError_24 : decode cX5_firstError 24 = .ok (.aload_n 0, 1) := by decide +kernel
theorem dX5_firstError_25 : decode cX5_firstError 25 = .ok (.getfield 9, 3) := by decide +kernel
theorem dX5_firstError_28 : decode cX5_firstError 28 = .ok (.iload 6, 2) := by decide +kernel
theorem dX5_firstError_30 : decode cX5_firstError 30 = .ok (.invokestatic 23, 3) := by decide +kernel
theorem dX5_firstError_33 : decode cX5_firstError 33 = .ok (.istore 7, 2) := by decide +kernel
theorem dX5_firstError_35 : decode cX5_firstError 35 = .ok (.iload 7, 2) := by decide +kernel
theorem dX5_firstError_37 : decode cX5_firstError 37 = .ok (.bipush 48, 2) := by decide +kernel
theorem dX5_firstError_39 : decode cX5_firstError 39 = .ok (.if_icmp .lt 14, 3) := by decide +kernel
theorem dX5_firstError_42 : decode cX5_firstError 42 = .ok (.iload 7, 2) := by decide +kernel
theorem dX5_firstError_44 : decode cX5_firstError 44 = .ok (.bipush 57, 2) := by decide +kernel
theorem dX5_firstError_46 : decode cX5_firstError 46 = .ok (.if_icmp .gt 7, 3) := by decide +kernel
theorem dX5_firstError_49 : decode cX5_firstError 49 = .ok (.iconst 1, 1) := by decide +kernel
theorem dX5_firstError_50 : decode cX5_firstError 50 = .ok (.goto 4, 3) := by decide +kernel
theorem dX5_firstError_53 : decode cX5_firstError 53 = .ok (.iconst 0, 1) := by decide +kernel
theorem dX5_firstError_54 : decode cX5_firstError 54 = .ok (.istore 8, 2) := by decide +kernel
theorem dX5_firstError_56 : decode cX5_firstError 56 = .ok (.iload 8, 2) := by decide +kernel
theorem dX5_firstError_58 : decode cX5_firstError 58 = .ok (.ifCond .eq 39, 3) := by decide +kernel
theorem dX5_firstError_61 : decode cX5_firstError 61 = .ok (.iload_n 3, 1) := by decide +kernel
theorem dX5_firstError_62 : decode cX5_firstError 62 = .ok (.ifCond .eq 16, 3) := by decide +kernel
theorem dX5_firstError_65 : decode cX5_firstError 65 = .ok (.iload 4, 2) := by decide +kernel
theorem dX5_firstError_67 : decode cX5_firstError 67 = .ok (.iload 7, 2) := by decide +kernel
theorem dX5_firstError_69 : decode cX5_firstError 69 = .ok (.bipush 48, 2) := by decide +kernel
theorem dX5_firstError_71 : decode cX5_firstError 71 = .ok (.isub, 1) := by decide +kernel
theorem dX5_firstError_72 : decode cX5_firstError 72 = .ok (.invokestatic 27, 3) := by decide +kernel
theorem dX5_firstError_75 : decode cX5_firstError 75 = .ok (.ifCond .eq 22, 3) := by decide +kernel
theorem dX5_firstError_78 : decode cX5_firstError 78 = .ok (.iload 4, 2) := by decide +kernel
theorem dX5_firstError_80 : decode cX5_firstError 80 = .ok (.bipush 10, 2) := by decide +kernel
theorem dX5_firstError_82 : decode cX5_firstError 82 = .ok (.imul, 1) := by decide +kernel
theorem dX5_firstError_83 : decode cX5_firstError 83 = .ok (.iload 7, 2) := by decide +kernel
theorem dX5_firstError_85 : decode cX5_firstError 85 = .ok (.iadd, 1) := by decide +kernel
theorem dX5_firstError_86 : decode cX5_firstError 86 = .ok (.bipush 48, 2) := by decide +kernel
theorem dX5_firstError_88 : decode cX5_firstError 88 = .ok (.isub, 1) := by decide +kernel
theorem dX5_firstError_89 : decode cX5_firstError 89 = .ok (.istore 4, 2) := by decide +kernel
theorem dX5_firstError_91 : decode cX5_firstError 91 = .ok (.iinc 3 1, 3) := by decide +kernel
theorem dX5_firstError_94 : decode cX5_firstError 94 = .ok (.goto 96, 3) := by decide +kernel
theorem dX5_firstError_97 : decode cX5_firstError 97 = .ok (.iload 8, 2) := by decide +kernel
theorem dX5_firstError_99 : decode cX5_firstError 99 = .ok (.ifCond .ne 7, 3) := by decide +kernel
theorem dX5_firstError_102 : decode cX5_firstError 102 = .ok (.iload_n 3, 1) := by decide +kernel
theorem dX5_firstError_103 : decode cX5_firstError 103 = .ok (.ifCond .ne 6, 3) := by decide +kernel
theorem dX5_firstError_106 : decode cX5_firstError 106 = .ok (.iload 6, 2) := by decide +kernel
theorem dX5_firstError_108 : decode cX5_firstError 108 = .ok (.ireturn, 1) := by decide +kernel
theorem dX5_firstError_109 : decode cX5_firstError 109 = .ok (.iload 5, 2) := by decide +kernel
theorem dX5_firstError_111 : decode cX5_firstError 111 = .ok (.ifCond .eq 16, 3) := by decide +kernel
theorem dX5_firstError_114 : decode cX5_firstError 114 = .ok (.iload 7, 2) := by decide +kernel
theorem dX5_firstError_116 : decode cX5_firstError 116 = .ok (.bipush 44, 2) := by decide +kernel
theorem dX5_firstError_118 : decode cX5_firstError 118 = .ok (.if_icmp .ne 9, 3) := by decide +kernel
theorem dX5_firstError_121 : decode cX5_firstError 121 = .ok (.iconst 0, 1) := by decide +kernel
theorem dX5_firstError_122 : decode cX5_firstError 122 = .ok (.istore 5, 2) := by decide +kernel
theorem dX5_firstError_124 : decode cX5_firstError 124 = .ok (.goto 61, 3) := by decide +kernel
theorem dX5_firstError_127 : decode cX5_firstError 127 = .ok (.iload 5, 2) := by decide +kernel
theorem dX5_firstError_129 : decode cX5_firstError 129 = .ok (.ifCond .ne 25, 3) := by decide +kernel
theorem dX5_firstError_132 : decode cX5_firstError 132 = .ok (.iload 7, 2) := by decide +kernel
theorem dX5_firstError_134 : decode cX5_firstError 134 = .ok (.bipush 45, 2) := by decide +kernel
theorem dX5_firstError_136 : decode cX5_firstError 136 = .ok (.if_icmp .ne 18, 3) := by decide +kernel
theorem dX5_firstError_139 : decode cX5_firstError 139 = .ok (.iload_n 2, 1) := by decide +kernel
theorem dX5_firstError_140 : decode cX5_firstError 140 = .ok (.bipush 12, 2) := by decide +kernel
theorem dX5_firstError_142 : decode cX5_firstError 142 = .ok (.if_icmp .ge 12, 3) := by decide +kernel
theorem dX5_firstError_145 : decode cX5_firstError 145 = .ok (.iinc 2 1, 3) := by decide +kernel
theorem dX5_firstError_148 : decode cX5_firstError 148 = .ok (.iconst 1, 1) := by decide +kernel
theorem dX5_firstError_149 : decode cX5_firstError 149 = .ok (.istore 5, 2) := by decide +kernel
theorem dX5_firstError_151 : decode cX5_firstError 151 = .ok (.goto 34, 3) := by decide +kernel
theorem dX5_firstError_154 : decode cX5_firstError 154 = .ok (.iload 5, 2) := by decide +kernel
theorem dX5_firstError_156 : decode cX5_firstError 156 = .ok (.ifCond .ne 26, 3) := by decide +kernel
theorem dX5_firstError_159 : decode cX5_firstError 159 = .ok (.iload 7, 2) := by decide +kernel
theorem dX5_firstError_161 : decode cX5_firstError 161 = .ok (.bipush 47, 2) := by decide +kernel
theorem dX5_firstError_163 : decode cX5_firstError 163 = .ok (.if_icmp .ne 19, 3) := by decide +kernel
theorem dX5_firstError_166 : decode cX5_firstError 166 = .ok (.iload_n 1, 1) := by decide +kernel
theorem dX5_firstError_167 : decode cX5_firstError 167 = .ok (.iconst 3, 1) := by decide +kernel
theorem dX5_firstError_168 : decode cX5_firstError 168 = .ok (.if_icmp .ge 14, 3) := by decide +kernel
theorem dX5_firstError_171 : decode cX5_firstError 171 = .ok (.iinc 1 1, 3) := by decide +kernel
theorem dX5_firstError_174 : decode cX5_firstError 174 = .ok (.iconst 1, 1) := by decide +kernel
theorem dX5_firstError_175 : decode cX5_firstError 175 = .ok (.istore_n 2, 1) := by decide +kernel
theorem dX5_firstError_176 : decode cX5_firstError 176 = .ok (.iconst 1, 1) := by decide +kernel
theorem dX5_firstError_177 : decode cX5_firstError 177 = .ok (.istore 5, 2) := by decide +kernel
theorem dX5_firstError_179 : decode cX5_firstError 179 = .ok (.goto 6, 3) := by decide +kernel
theorem dX5_firstError_182 : decode cX5_firstError 182 = .ok (.iload 6, 2) := by decide +kernel
theorem dX5_firstError_184 : decode cX5_firstError 184 = .ok (.ireturn, 1) := by decide +kernel
theorem dX5_firstError_185 : decode cX5_firstError 185 = .ok (.iconst 0, 1) := by decide +kernel
theorem dX5_firstError_186 : decode cX5_firstError 186 = .ok (.istore_n 3, 1) := by decide +kernel
theorem dX5_firstError_187 : decode cX5_firstError 187 = .ok (.iconst 0, 1) := by decide +kernel
theorem dX5_firstError_188 : decode cX5_firstError 188 = .ok (.istore 4, 2) := by decide +kernel
theorem dX5_firstError_190 : decode cX5_firstError 190 = .ok (.iinc 6 1, 3) := by decide +kernel
theorem dX5_firstError_193 : decode cX5_firstError 193 = .ok (.goto (-178), 3) := by decide +kernel
theorem dX5_firstError_196 : decode cX5_firstError 196 = .ok (.iload 5, 2) := by decide +kernel
theorem dX5_firstError_198 : decode cX5_firstError 198 = .ok (.ifCond .ne 7, 3) := by decide +kernel
theorem dX5_firstError_201 : decode cX5_firstError 201 = .ok (.iload_n 3, 1) := by decide +kernel
theorem dX5_firstError_202 : decode cX5_firstError 202 = .ok (.ifCond .ne 10, 3) := by decide +kernel
theorem dX5_firstError_205 : decode cX5_firstError 205 = .ok (.aload_n 0, 1) := by decide +kernel
theorem dX5_firstError_206 : decode cX5_firstError 206 = .ok (.getfield 15, 3) := by decide +kernel
theorem dX5_firstError_209 : decode cX5_firstError 209 = .ok (.goto 4, 3) := by decide +kernel
theorem dX5_firstError_212 : decode cX5_firstError 212 = .ok (.iconst (-1), 1) := by decide +kernel
theorem dX5_firstError_213 : decode cX5_firstError 213 = .ok (.ireturn, 1) := by decide +kernel
theorem dX5_goesOn_0 : decode cX5_goesOn 0 = .ok (.iload_n 0, 1) := by decide +kernel
theorem dX5_goesOn_1 : decode cX5_goesOn 1 = .ok (.ifCond .le 18, 3) := by decide +kernel
theorem dX5_goesOn_4 : decode cX5_goesOn 4 = .ok (.iload_n 0, 1) := by decide +kernel
theorem dX5_goesOn_5 : decode cX5_goesOn 5 = .ok (.bipush 10, 2) := by decide +kernel
theorem dX5_goesOn_7 : decode cX5_goesOn 7 = .ok (.imul, 1) := by decide +kernel
theorem dX5_goesOn_8 : decode cX5_goesOn 8 = .ok (.iload_n 1, 1) := by decide +kernel
theorem dX5_goesOn_9 : decode cX5_goesOn 9 = .ok (.iadd, 1) := by decide +kernel
theorem dX5_goesOn_10 : decode cX5_goesOn 10 = .ok (.bipush 60, 2) := by decide +kernel
theorem dX5_goesOn_12 : decode cX5_goesOn 12 = .ok (.if_icmp .gt 7, 3) := by decide +kernel
theorem dX5_goesOn_15 : decode cX5_goesOn 15 = .ok (.iconst 1, 1) := by decide +kernel
theorem dX5_goesOn_16 : decode cX5_goesOn 16 = .ok (.goto 4, 3) := by decide +kernel
theorem dX5_goesOn_19 : decode cX5_goesOn 19 = .ok (.iconst 0, 1) := by decide +kernel
theorem dX5_goesOn_20 : decode cX5_goesOn 20 = .ok (.ireturn, 1) := by decide +kernel
set_option maxRecDepth 20000 in
theorem ggX5_drawOn_X6_cell : GoodIn wsX5_drawOn wsX6_cell := goodIn_r _ [5] (by decide +kernel) (by decide +kernel)
set_option maxRecDepth 20000 in
theorem gX5_drawOn_X6_cell_n23 : GoodIn wsX5_drawOn (wsX6_cell) := ggX5_drawOn_X6_cell
set_option maxRecDepth 20000 in
theorem ggX5_drawOn_X4_addPoint : GoodIn wsX5_drawOn wsX4_addPoint := goodIn_r _ [10, 11, 12, 13, 4, 14, 15, 16, 17, 9, 18, 19, 3, 5, 20, 21, 22, 23, 24, 25, 26, 27, 28, 29, 30, 31, 32, 33, 34, 35, 36, 37, 38, 39, 40, 41, 42, 43, 44, 45, 46, 47, 48, 49, 50, 51, 52, 53, 54, 55, 56, 57, 58, 59, 60, 61, 62, 63, 64, 65, 66, 67, 68, 69, 70, 71, 72, 73, 74, 75, 76, 83, 84, 85, 86, 87, 88, 89, 90, 91, 92, 93] (by decide +kernel) (by decide +kernel)
set_option maxRecDepth 20000 in
theorem gX5_drawOn_X4_addPoint : GoodIn wsX5_drawOn (wsV RX5 31 RX4 yX4_addPoint wsX4_addPoint) := goodIn_app (goodIn_of _ (by decide +kernel)) ggX5_drawOn_X4_addPoint
set_option maxRecDepth 20000 in
theorem ggX5_drawOn_X4_liftPen : GoodIn wsX5_drawOn wsX4_liftPen := goodIn_r _ [80, 11, 83, 84, 85, 86, 87, 88] (by decide +kernel) (by decide +kernel)
set_option maxRecDepth 20000 in
theorem gX5_drawOn_X4_liftPen : GoodIn wsX5_drawOn (wsV RX5 36 RX4 yX4_liftPen wsX4_liftPen) := goodIn_app (goodIn_of _ (by decide +kernel)) ggX5_drawOn_X4_liftPen
theorem dX5_drawOn_0 : decode cX5_drawOn 0 = .ok (.iconst 0, 1) := by decide +kernel
theorem dX5_drawOn_1 : decode cX5_drawOn 1 = .ok (.istore_n 2, 1) := by decide +kernel
theorem dX5_drawOn_2 : decode cX5_drawOn 2 = .ok (.iconst 0, 1) := by decide +kernel
theorem dX5_drawOn_3 : decode cX5_drawOn 3 = .ok (.istore_n 3, 1) := by decide +kernel
theorem dX5_drawOn_4 : decode cX5_drawOn 4 = .ok (.iconst 0, 1) := by decide +kernel
theorem dX5_drawOn_5 : decode cX5_drawOn 5 = .ok (.istore 4, 2) := by decide +kernel
theorem dX5_drawOn_7 : decode cX5_drawOn 7 = .ok (.iload 4, 2) := by decide +kernel
theorem dX5_drawOn_9 : decode cX5_drawOn 9 = .ok (.aload_n 0, 1) := by decide +kernel
theorem dX5_drawOn_10 : decode cX5_drawOn 10 = .ok (.getfield 15, 3) := by decide +kernel
theorem dX5_drawOn_13 : decode cX5_drawOn 13 = .ok (.if_icmp .gt 98, 3) := by decide +kernel
theorem dX5_drawOn_16 : decode cX5_drawOn 16 = .ok (.iload 4, 2) := by decide +kernel
theorem dX5_drawOn_18 : decode cX5_drawOn 18 = .ok (.aload_n 0, 1) := by decide +kernel
theorem dX5_drawOn_19 : decode cX5_drawOn 19 = .ok (.getfield 15, 3) := by decide +kernel
theorem dX5_drawOn_22 : decode cX5_drawOn 22 = .ok (.if_icmp .ge 15, 3) := by decide +kernel
theorem dX5_drawOn_25 : decode cX5_drawOn 25 = .ok (.aload_n 0, 1) := by decide +kernel
theorem dX5_drawOn_26 : decode cX5_drawOn 26 = .ok (.getfield 9, 3) := by decide +kernel
theorem dX5_drawOn_29 : decode cX5_drawOn 29 = .ok (.iload 4, 2) := by decide +kernel
theorem dX5_drawOn_31 : decode cX5_drawOn 31 = .ok (.invokestatic 23, 3) := by decide +kernel
theorem dX5_drawOn_34 : decode cX5_drawOn 34 = .ok (.goto 5, 3) := by decide +kernel
theorem dX5_drawOn_37 : decode cX5_drawOn 37 = .ok (.bipush 47, 2) := by decide +kernel
theorem dX5_drawOn_39 : decode cX5_drawOn 39 = .ok (.istore 5, 2) := by decide +kernel
theorem dX5_drawOn_41 : decode cX5_drawOn 41 = .ok (.iload 5, 2) := by decide +kernel
theorem dX5_drawOn_43 : decode cX5_drawOn 43 = .ok (.bipush 48, 2) := by decide +kernel
theorem dX5_drawOn_45 : decode cX5_drawOn 45 = .ok (.if_icmp .lt 24, 3) := by decide +kernel
theorem dX5_drawOn_48 : decode cX5_drawOn 48 = .ok (.iload 5, 2) := by decide +kernel
theorem dX5_drawOn_50 : decode cX5_drawOn 50 = .ok (.bipush 57, 2) := by decide +kernel
theorem dX5_drawOn_52 : decode cX5_drawOn 52 = .ok (.if_icmp .gt 17, 3) := by decide +kernel
theorem dX5_drawOn_55 : decode cX5_drawOn 55 = .ok (.iload_n 3, 1) := by decide +kernel
theorem dX5_drawOn_56 : decode cX5_drawOn 56 = .ok (.bipush 10, 2) := by decide +kernel
theorem dX5_drawOn_58 : decode cX5_drawOn 58 = .ok (.imul, 1) := by decide +kernel
theorem dX5_drawOn_59 : decode cX5_drawOn 59 = .ok (.iload 5, 2) := by decide +kernel
theorem dX5_drawOn_61 : decode cX5_drawOn 61 = .ok (.iadd, 1) := by decide +kernel
theorem dX5_drawOn_62 : decode cX5_drawOn 62 = .ok (.bipush 48, 2) := by decide +kernel
theorem dX5_drawOn_64 : decode cX5_drawOn 64 = .ok (.isub, 1) := by decide +kernel
theorem dX5_drawOn_65 : decode cX5_drawOn 65 = .ok (.istore_n 3, 1) := by decide +kernel
theorem dX5_drawOn_66 : decode cX5_drawOn 66 = .ok (.goto 39, 3) := by decide +kernel
theorem dX5_drawOn_69 : decode cX5_drawOn 69 = .ok (.iload 5, 2) := by decide +kernel
theorem dX5_drawOn_71 : decode cX5_drawOn 71 = .ok (.bipush 44, 2) := by decide +kernel
theorem dX5_drawOn_73 : decode cX5_drawOn 73 = .ok (.if_icmp .ne 8, 3) := by decide +kernel
theorem dX5_drawOn_76 : decode cX5_drawOn 76 = .ok (.iload_n 3, 1) := by decide +kernel
theorem dX5_drawOn_77 : decode cX5_drawOn 77 = .ok (.istore_n 2, 1) := by decide +kernel
theorem dX5_drawOn_78 : decode cX5_drawOn 78 = .ok (.goto 14, 3) := by decide +kernel
theorem dX5_drawOn_81 : decode cX5_drawOn 81 = .ok (.aload_n 1, 1) := by decide +kernel
theorem dX5_drawOn_82 : decode cX5_drawOn 82 = .ok (.iload_n 2, 1) := by decide +kernel
theorem dX5_drawOn_83 : decode cX5_drawOn 83 = .ok (.iload_n 3, 1) := by decide +kernel
theorem dX5_drawOn_84 : decode cX5_drawOn 84 = .ok (.invokevirtual 31, 3) := by decide +kernel
theorem dX5_drawOn_87 : decode cX5_drawOn 87 = .ok (.ifCond .ne 5, 3) := by decide +kernel
theorem dX5_drawOn_90 : decode cX5_drawOn 90 = .ok (.iconst 0, 1) := by decide +kernel
theorem dX5_drawOn_91 : decode cX5_drawOn 91 = .ok (.ireturn, 1) := by decide +kernel
theorem dX5_drawOn_92 : decode cX5_drawOn 92 = .ok (.iload 5, 2) := by decide +kernel
theorem dX5_drawOn_94 : decode cX5_drawOn 94 = .ok (.bipush 47, 2) := by decide +kernel
theorem dX5_drawOn_96 : decode cX5_drawOn 96 = .ok (.if_icmp .ne 7, 3) := by decide +kernel
theorem dX5_drawOn_99 : decode cX5_drawOn 99 = .ok (.aload_n 1, 1) := by decide +kernel
theorem dX5_drawOn_100 : decode cX5_drawOn 100 = .ok (.invokevirtual 36, 3) := by decide +kernel
theorem dX5_drawOn_103 : decode cX5_drawOn 103 = .ok (.iconst 0, 1) := by decide +kernel
theorem dX5_drawOn_104 : decode cX5_drawOn 104 = .ok (.istore_n 3, 1) := by decide +kernel
theorem dX5_drawOn_105 : decode cX5_drawOn 105 = .ok (.iinc 4 1, 3) := by decide +kernel
theorem dX5_drawOn_108 : decode cX5_drawOn 108 = .ok (.goto (-101), 3) := by decide +kernel
theorem dX5_drawOn_111 : decode cX5_drawOn 111 = .ok (.iconst 1, 1) := by decide +kernel
theorem dX5_drawOn_112 : decode cX5_drawOn 112 = .ok (.ireturn, 1) := by decide +kernel
set_option maxRecDepth 20000 in
theorem ggX6_init_X4_init : GoodIn wsX6_init wsX4_init := goodIn_r _ [26, 27, 2, 3, 28, 29, 30, 31, 32, 33, 34, 35, 36, 37, 38, 39, 40, 41, 42, 43, 93, 94, 95, 96, 97, 69, 70, 71, 72, 73, 74] (by decide +kernel) (by decide +kernel)
set_option maxRecDepth 20000 in
theorem gX6_init_X4_init_n11 : GoodIn wsX6_init (wsX4_init) := ggX6_init_X4_init
set_option maxRecDepth 20000 in
theorem ggX6_init_X2_init : GoodIn wsX6_init wsX2_init := goodIn_r _ [45, 46, 2, 3, 32, 47, 48, 81, 82, 83, 84, 85, 86] (by decide +kernel) (by decide +kernel)
set_option maxRecDepth 20000 in
theorem gX6_init_X2_init_n21 : GoodIn wsX6_init (wsX2_init) := ggX6_init_X2_init
set_option maxRecDepth 20000 in
theorem ggX6_init_X5_init : GoodIn wsX6_init wsX5_init := goodIn_r _ [50, 51, 2, 3, 32, 52, 87, 88] (by decide +kernel) (by decide +kernel)
set_option maxRecDepth 20000 in
theorem gX6_init_X5_init_n28 : GoodIn wsX6_init (wsX5_init) := ggX6_init_X5_init
set_option maxRecDepth 20000 in
theorem ggX6_init_X1_init : GoodIn wsX6_init wsX1_init := goodIn_r _ [54, 55, 2, 3, 56, 22, 23, 57, 58, 59, 60, 61, 62, 63, 64, 65, 66, 67, 92, 89, 90, 91] (by decide +kernel) (by decide +kernel)
set_option maxRecDepth 20000 in
theorem gX6_init_X1_init_n35 : GoodIn wsX6_init (wsX1_init) := ggX6_init_X1_init
set_option maxRecDepth 20000 in
theorem ggX6_init_X3_init : GoodIn wsX6_init wsX3_init := goodIn_r _ [60, 61, 2, 3, 62, 63, 64, 65, 66, 67, 92] (by decide +kernel) (by decide +kernel)
set_option maxRecDepth 20000 in
theorem gX6_init_X3_init : GoodIn wsX6_init (wsX3_init) := ggX6_init_X3_init
theorem dX6_init_0 : decode cX6_init 0 = .ok (.aload_n 0, 1) := by decide +kernel
theorem dX6_init_1 : decode cX6_init 1 = .ok (.invokespecial 3, 3) := by decide +kernel
theorem dX6_init_4 : decode cX6_init 4 = .ok (.aload_n 0, 1) := by decide +kernel
theorem dX6_init_5 : decode cX6_init 5 = .ok (.new 9, 3) := by decide +kernel
theorem dX6_init_8 : decode cX6_init 8 = .ok (.dup, 1) := by decide +kernel
theorem dX6_init_9 : decode cX6_init 9 = .ok (.invokespecial 11, 3) := by decide +kernel
theorem dX6_init_12 : decode cX6_init 12 = .ok (.putfield 12, 3) := by decide +kernel
theorem dX6_init_15 : decode cX6_init 15 = .ok (.aload_n 0, 1) := by decide +kernel
theorem dX6_init_16 : decode cX6_init 16 = .ok (.new 9, 3) := by decide +kernel
theorem dX6_init_19 : decode cX6_init 19 = .ok (.dup, 1) := by decide +kernel
theorem dX6_init_20 : decode cX6_init 20 = .ok (.invokespecial 11, 3) := by decide +kernel
theorem dX6_init_23 : decode cX6_init 23 = .ok (.putfield 16, 3) := by decide +kernel
theorem dX6_init_26 : decode cX6_init 26 = .ok (.aload_n 0, 1) := by decide +kernel
theorem dX6_init_27 : decode cX6_init 27 = .ok (.new 19, 3) := by decide +kernel
theorem dX6_init_30 : decode cX6_init 30 = .ok (.dup, 1) := by decide +kernel
theorem dX6_init_31 : decode cX6_init 31 = .ok (.invokespecial 21, 3) := by decide +kernel
theorem dX6_init_34 : decode cX6_init 34 = .ok (.putfield 22, 3) := by decide +kernel
theorem dX6_init_37 : decode cX6_init 37 = .ok (.aload_n 0, 1) := by decide +kernel
theorem dX6_init_38 : decode cX6_init 38 = .ok (.new 26, 3) := by decide +kernel
theorem dX6_init_41 : decode cX6_init 41 = .ok (.dup, 1) := by decide +kernel
theorem dX6_init_42 : decode cX6_init 42 = .ok (.invokespecial 28, 3) := by decide +kernel
theorem dX6_init_45 : decode cX6_init 45 = .ok (.putfield 29, 3) := by decide +kernel
theorem dX6_init_48 : decode cX6_init 48 = .ok (.aload_n 0, 1) := by decide +kernel
theorem dX6_init_49 : decode cX6_init 49 = .ok (.new 33, 3) := by decide +kernel
theorem dX6_init_52 : decode cX6_init 52 = .ok (.dup, 1) := by decide +kernel
theorem dX6_init_53 : decode cX6_init 53 = .ok (.invokespecial 35, 3) := by decide +kernel
theorem dX6_init_56 : decode cX6_init 56 = .ok (.putfield 36, 3) := by decide +kernel
theorem dX6_init_59 : decode cX6_init 59 = .ok (.aload_n 0, 1) := by decide +kernel
theorem dX6_init_60 : decode cX6_init 60 = .ok (.new 40, 3) := by decide +kernel
theorem dX6_init_63 : decode cX6_init 63 = .ok (.dup, 1) := by decide +kernel
theorem dX6_init_64 : decode cX6_init 64 = .ok (.iconst 2, 1) := by decide +kernel
theorem dX6_init_65 : decode cX6_init 65 = .ok (.invokespecial 42, 3) := by decide +kernel
theorem dX6_init_68 : decode cX6_init 68 = .ok (.putfield 45, 3) := by decide +kernel
theorem dX6_init_71 : decode cX6_init 71 = .ok (.return_, 1) := by decide +kernel
set_option maxRecDepth 20000 in
theorem ggX6_append_X5_addCode : GoodIn wsX6_append wsX5_addCode := goodIn_r _ [11, 12, 13, 14, 15, 16, 23, 24] (by decide +kernel) (by decide +kernel)
set_option maxRecDepth 20000 in
theorem gX6_append_X5_addCode : GoodIn wsX6_append (wsV RX6 65 RX5 yX5_addCode wsX5_addCode) := goodIn_app (goodIn_of _ (by decide +kernel)) ggX6_append_X5_addCode
theorem dX6_append_0 : decode cX6_append 0 = .ok (.iload_n 1, 1) := by decide +kernel
theorem dX6_append_1 : decode cX6_append 1 = .ok (.ifCond .lt 10, 3) := by decide +kernel
theorem dX6_append_4 : decode cX6_append 4 = .ok (.iload_n 1, 1) := by decide +kernel
theorem dX6_append_5 : decode cX6_append 5 = .ok (.sipush 255, 3) := by decide +kernel
theorem dX6_append_8 : decode cX6_append 8 = .ok (.if_icmp .le 13, 3) := by decide +kernel
theorem dX6_append_11 : decode cX6_append 11 = .ok (.new 49, 3) := by decide +kernel
theorem dX6_append_14 : decode cX6_append 14 = .ok (.dup, 1) := by decide +kernel
theorem dX6_append_15 : decode cX6_append 15 = .ok (.ldc 51, 2) := by decide +kernel
theorem dX6_append_17 : decode cX6_append 17 = .ok (.invokespecial 53, 3) := by decide +kernel
theorem dX6_append_20 : decode cX6_append 20 = .ok (.athrow, 1) := by decide +kernel
theorem dX6_append_21 : decode cX6_append 21 = .ok (.aload_n 0, 1) := by decide +kernel
theorem dX6_append_22 : decode cX6_append 22 = .ok (.getfield 29, 3) := by decide +kernel
theorem dX6_append_25 : decode cX6_append 25 = .ok (.getfield 56, 3) := by decide +kernel
theorem dX6_append_28 : decode cX6_append 28 = .ok (.bipush 100, 2) := by decide +kernel
theorem dX6_append_30 : decode cX6_append 30 = .ok (.if_icmp .lt 13, 3) := by decide +kernel
theorem dX6_append_33 : decode cX6_append 33 = .ok (.new 60, 3) := by decide +kernel
theorem dX6_append_36 : decode cX6_append 36 = .ok (.dup, 1) := by decide +kernel
theorem dX6_append_37 : decode cX6_append 37 = .ok (.ldc 62, 2) := by decide +kernel
theorem dX6_append_39 : decode cX6_append 39 = .ok (.invokespecial 64, 3) := by decide +kernel
theorem dX6_append_42 : decode cX6_append 42 = .ok (.athrow, 1) := by decide +kernel
theorem dX6_append_43 : decode cX6_append 43 = .ok (.aload_n 0, 1) := by decide +kernel
theorem dX6_append_44 : decode cX6_append 44 = .ok (.getfield 29, 3) := by decide +kernel
theorem dX6_append_47 : decode cX6_append 47 = .ok (.iload_n 1, 1) := by decide +kernel
theorem dX6_append_48 : decode cX6_append 48 = .ok (.invokevirtual 65, 3) := by decide +kernel
theorem dX6_append_51 : decode cX6_append 51 = .ok (.aload_n 0, 1) := by decide +kernel
theorem dX6_append_52 : decode cX6_append 52 = .ok (.getfield 29, 3) := by decide +kernel
theorem dX6_append_55 : decode cX6_append 55 = .ok (.getfield 56, 3) := by decide +kernel
theorem dX6_append_58 : decode cX6_append 58 = .ok (.ireturn, 1) := by decide +kernel
theorem dX6_clearText_0 : decode cX6_clearText 0 = .ok (.aload_n 0, 1) := by decide +kernel
theorem dX6_clearText_1 : decode cX6_clearText 1 = .ok (.getfield 29, 3) := by decide +kernel
theorem dX6_clearText_4 : decode cX6_clearText 4 = .ok (.getfield 56, 3) := by decide +kernel
theorem dX6_clearText_7 : decode cX6_clearText 7 = .ok (.istore_n 1, 1) := by decide +kernel
theorem dX6_clearText_8 : decode cX6_clearText 8 = .ok (.aload_n 0, 1) := by decide +kernel
theorem dX6_clearText_9 : decode cX6_clearText 9 = .ok (.getfield 29, 3) := by decide +kernel
theorem dX6_clearText_12 : decode cX6_clearText 12 = .ok (.iconst 0, 1) := by decide +kernel
theorem dX6_clearText_13 : decode cX6_clearText 13 = .ok (.putfield 56, 3) := by decide +kernel
theorem dX6_clearText_16 : decode cX6_clearText 16 = .ok (.iload_n 1, 1) := by decide +kernel
theorem dX6_clearText_17 : decode cX6_clearText 17 = .ok (.ireturn, 1) := by decide +kernel
set_option maxRecDepth 20000 in
theorem ggX6_errorPosition_X5_firstError : GoodIn wsX6_errorPosition wsX5_firstError := goodIn_r _ [6, 7, 8, 9, 10, 11, 12, 13, 5, 14, 21, 22] (by decide +kernel) (by decide +kernel)
set_option maxRecDepth 20000 in
theorem gX6_errorPosition_X5_firstError : GoodIn wsX6_errorPosition (wsV RX6 68 RX5 yX5_firstError wsX5_firstError) := goodIn_app (goodIn_of _ (by decide +kernel)) ggX6_errorPosition_X5_firstError
theorem dX6_errorPosition_0 : decode cX6_errorPosition 0 = .ok (.aload_n 0, 1) := by decide +kernel
theorem dX6_errorPosition_1 : decode cX6_errorPosition 1 = .ok (.getfield 29, 3) := by decide +kernel
theorem dX6_errorPosition_4 : decode cX6_errorPosition 4 = .ok (.invokevirtual 68, 3) := by decide +kernel
theorem dX6_errorPosition_7 : decode cX6_errorPosition 7 = .ok (.ireturn, 1) := by decide +kernel
set_option maxRecDepth 20000 in
theorem ggX6_about_X0_strokesOf : GoodIn wsX6_about wsX0_strokesOf := goodIn_r _ [11, 12, 13, 14, 15, 53, 54, 55, 56, 57] (by decide +kernel) (by decide +kernel)
set_option maxRecDepth 20000 in
theorem gX6_about_X0_strokesOf : GoodIn wsX6_about (wsV RX6 76 RX0 yX0_strokesOf wsX0_strokesOf) := goodIn_app (goodIn_of _ (by decide +kernel)) ggX6_about_X0_strokesOf
set_option maxRecDepth 20000 in
theorem ggX6_about_X0_pointsOf : GoodIn wsX6_about wsX0_pointsOf := goodIn_r _ [19, 20, 8, 9, 10, 11, 12, 13, 14, 15, 21, 22, 23, 24, 25, 53, 54, 55, 56, 57] (by decide +kernel) (by decide +kernel)
set_option maxRecDepth 20000 in
theorem gX6_about_X0_pointsOf : GoodIn wsX6_about (wsV RX6 82 RX0 yX0_pointsOf wsX0_pointsOf) := goodIn_app (goodIn_of _ (by decide +kernel)) ggX6_about_X0_pointsOf
set_option maxRecDepth 20000 in
theorem ggX6_about_X0_signsOf : GoodIn wsX6_about wsX0_signsOf := goodIn_r _ [29, 30, 13, 14, 15, 53, 54, 55, 56, 57] (by decide +kernel) (by decide +kernel)
set_option maxRecDepth 20000 in
theorem gX6_about_X0_signsOf : GoodIn wsX6_about (wsV RX6 89 RX0 yX0_signsOf wsX0_signsOf) := goodIn_app (goodIn_of _ (by decide +kernel)) ggX6_about_X0_signsOf
set_option maxRecDepth 20000 in
theorem ggX6_about_X4_outcomesOf : GoodIn wsX6_about wsX4_outcomesOf := goodIn_r _ [35, 36, 37, 38, 34, 39, 40, 13, 14, 15, 47, 48, 49, 50, 51, 52] (by decide +kernel) (by decide +kernel)
set_option maxRecDepth 20000 in
theorem gX6_about_X4_outcomesOf : GoodIn wsX6_about (wsV RX6 95 RX4 yX4_outcomesOf wsX4_outcomesOf) := goodIn_app (goodIn_of _ (by decide +kernel)) ggX6_about_X4_outcomesOf
theorem dX6_about_0 : decode cX6_about 0 = .ok (.iload_n 1, 1) := by decide +kernel
theorem dX6_about_1 : decode cX6_about 1 = .ok (.tableswitch 155 0 7 #[47, 60, 73, 89, 102, 110, 137, 146], 47) := by decide +kernel
theorem dX6_about_48 : decode cX6_about 48 = .ok (.aload_n 0, 1) := by decide +kernel
theorem dX6_about_49 : decode cX6_about 49 = .ok (.getfield 12, 3) := by decide +kernel
theorem dX6_about_52 : decode cX6_about 52 = .ok (.getfield 72, 3) := by decide +kernel
theorem dX6_about_55 : decode cX6_about 55 = .ok (.bipush 16, 2) := by decide +kernel
theorem dX6_about_57 : decode cX6_about 57 = .ok (.invokevirtual 76, 3) := by decide +kernel
theorem dX6_about_60 : decode cX6_about 60 = .ok (.ireturn, 1) := by decide +kernel
theorem dX6_about_61 : decode cX6_about 61 = .ok (.aload_n 0, 1) := by decide +kernel
theorem dX6_about_62 : decode cX6_about 62 = .ok (.getfield 12, 3) := by decide +kernel
theorem dX6_about_65 : decode cX6_about 65 = .ok (.getfield 72, 3) := by decide +kernel
theorem dX6_about_68 : decode cX6_about 68 = .ok (.bipush 16, 2) := by decide +kernel
theorem dX6_about_70 : decode cX6_about 70 = .ok (.invokevirtual 82, 3) := by decide +kernel
theorem dX6_about_73 : decode cX6_about 73 = .ok (.ireturn, 1) := by decide +kernel
theorem dX6_about_74 : decode cX6_about 74 = .ok (.aload_n 0, 1) := by decide +kernel
theorem dX6_about_75 : decode cX6_about 75 = .ok (.getfield 12, 3) := by decide +kernel
theorem dX6_about_78 : decode cX6_about 78 = .ok (.getfield 85, 3) := by decide +kernel
theorem dX6_about_81 : decode cX6_about 81 = .ok (.ifCond .eq 7, 3) := by decide +kernel
theorem dX6_about_84 : decode cX6_about 84 = .ok (.iconst 1, 1) := by decide +kernel
theorem dX6_about_85 : decode cX6_about 85 = .ok (.goto 4, 3) := by decide +kernel
theorem dX6_about_88 : decode cX6_about 88 = .ok (.iconst 0, 1) := by decide +kernel
theorem dX6_about_89 : decode cX6_about 89 = .ok (.ireturn, 1) := by decide +kernel
theorem dX6_about_90 : decode cX6_about 90 = .ok (.aload_n 0, 1) := by decide +kernel
theorem dX6_about_91 : decode cX6_about 91 = .ok (.getfield 12, 3) := by decide +kernel
theorem dX6_about_94 : decode cX6_about 94 = .ok (.getfield 72, 3) := by decide +kernel
theorem dX6_about_97 : decode cX6_about 97 = .ok (.bipush 16, 2) := by decide +kernel
theorem dX6_about_99 : decode cX6_about 99 = .ok (.invokevirtual 89, 3) := by decide +kernel
theorem dX6_about_102 : decode cX6_about 102 = .ok (.ireturn, 1) := by decide +kernel
theorem dX6_about_103 : decode cX6_about 103 = .ok (.aload_n 0, 1) := by decide +kernel
theorem dX6_about_104 : decode cX6_about 104 = .ok (.getfield 12, 3) := by decide +kernel
theorem dX6_about_107 : decode cX6_about 107 = .ok (.getfield 92, 3) := by decide +kernel
theorem dX6_about_110 : decode cX6_about 110 = .ok (.ireturn, 1) := by decide +kernel
theorem dX6_about_111 : decode cX6_about 111 = .ok (.aload_n 0, 1) := by decide +kernel
theorem dX6_about_112 : decode cX6_about 112 = .ok (.getfield 12, 3) := by decide +kernel
theorem dX6_about_115 : decode cX6_about 115 = .ok (.iconst 0, 1) := by decide +kernel
theorem dX6_about_116 : decode cX6_about 116 = .ok (.invokevirtual 95, 3) := by decide +kernel
theorem dX6_about_119 : decode cX6_about 119 = .ok (.aload_n 0, 1) := by decide +kernel
theorem dX6_about_120 : decode cX6_about 120 = .ok (.getfield 12, 3) := by decide +kernel
theorem dX6_about_123 : decode cX6_about 123 = .ok (.iconst 1, 1) := by decide +kernel
theorem dX6_about_124 : decode cX6_about 124 = .ok (.invokevirtual 95, 3) := by decide +kernel
theorem dX6_about_127 : decode cX6_about 127 = .ok (.iadd, 1) := by decide +kernel
theorem dX6_about_128 : decode cX6_about 128 = .ok (.aload_n 0, 1) := by decide +kernel
theorem dX6_about_129 : decode cX6_about 129 = .ok (.getfield 12, 3) := by decide +kernel
theorem dX6_about_132 : decode cX6_about 132 = .ok (.iconst 2, 1) := by decide +kernel
theorem dX6_about_133 : decode cX6_about 133 = .ok (.invokevirtual 95, 3) := by decide +kernel
theorem dX6_about_136 : decode cX6_about 136 = .ok (.iadd, 1) := by decide +kernel
theorem dX6_about_137 : decode cX6_about 137 = .ok (.ireturn, 1) := by decide +kernel
theorem dX6_about_138 : decode cX6_about 138 = .ok (.aload_n 0, 1) := by decide +kernel
theorem dX6_about_139 : decode cX6_about 139 = .ok (.getfield 12, 3) := by decide +kernel
theorem dX6_about_142 : decode cX6_about 142 = .ok (.iconst 0, 1) := by decide +kernel
theorem dX6_about_143 : decode cX6_about 143 = .ok (.invokevirtual 95, 3) := by decide +kernel
theorem dX6_about_146 : decode cX6_about 146 = .ok (.ireturn, 1) := by decide +kernel
theorem dX6_about_147 : decode cX6_about 147 = .ok (.aload_n 0, 1) := by decide +kernel
theorem dX6_about_148 : decode cX6_about 148 = .ok (.getfield 12, 3) := by decide +kernel
theorem dX6_about_151 : decode cX6_about 151 = .ok (.iconst 1, 1) := by decide +kernel
theorem dX6_about_152 : decode cX6_about 152 = .ok (.invokevirtual 95, 3) := by decide +kernel
theorem dX6_about_155 : decode cX6_about 155 = .ok (.ireturn, 1) := by decide +kernel
theorem dX6_about_156 : decode cX6_about 156 = .ok (.new 49, 3) := by decide +kernel
theorem dX6_about_159 : decode cX6_about 159 = .ok (.dup, 1) := by decide +kernel
theorem dX6_about_160 : decode cX6_about 160 = .ok (.ldc 98, 2) := by decide +kernel
theorem dX6_about_162 : decode cX6_about 162 = .ok (.invokespecial 53, 3) := by decide +kernel
theorem dX6_about_165 : decode cX6_about 165 = .ok (.athrow, 1) := by decide +kernel
set_option maxRecDepth 20000 in
theorem ggX6_sign_X0_signAt : GoodIn wsX6_sign wsX0_signAt := goodIn_r _ [9, 10, 11, 12, 13, 14, 27, 28, 29, 30, 31] (by decide +kernel) (by decide +kernel)
set_option maxRecDepth 20000 in
theorem gX6_sign_X0_signAt : GoodIn wsX6_sign (wsV RX6 102 RX0 yX0_signAt wsX0_signAt) := goodIn_app (goodIn_of _ (by decide +kernel)) ggX6_sign_X0_signAt
theorem dX6_sign_0 : decode cX6_sign 0 = .ok (.iload_n 1, 1) := by decide +kernel
theorem dX6_sign_1 : decode cX6_sign 1 = .ok (.ifCond .ge 13, 3) := by decide +kernel
