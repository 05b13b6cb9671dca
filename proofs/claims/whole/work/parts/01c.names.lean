theorem dX4_changeSetting_27 : decode cX4_changeSetting 27 = .ok (.iconst 0, 1) := by decide +kernel
theorem dX4_changeSetting_28 : decode cX4_changeSetting 28 = .ok (.istore_n 3, 1) := by decide +kernel
theorem dX4_changeSetting_29 : decode cX4_changeSetting 29 = .ok (.iload_n 3, 1) := by decide +kernel
theorem dX4_changeSetting_30 : decode cX4_changeSetting 30 = .ok (.aload_n 0, 1) := by decide +kernel
theorem dX4_changeSetting_31 : decode cX4_changeSetting 31 = .ok (.getfield 36, 3) := by decide +kernel
theorem dX4_changeSetting_34 : decode cX4_changeSetting 34 = .ok (.if_icmp .ge 18, 3) := by decide +kernel
theorem dX4_changeSetting_37 : decode cX4_changeSetting 37 = .ok (.aload_n 0, 1) := by decide +kernel
theorem dX4_changeSetting_38 : decode cX4_changeSetting 38 = .ok (.getfield 12, 3) := by decide +kernel
theorem dX4_changeSetting_41 : decode cX4_changeSetting 41 = .ok (.iload_n 3, 1) := by decide +kernel
theorem dX4_changeSetting_42 : decode cX4_changeSetting 42 = .ok (.iload_n 2, 1) := by decide +kernel
theorem dX4_changeSetting_43 : decode cX4_changeSetting 43 = .ok (.invokevirtual 107, 3) := by decide +kernel
theorem dX4_changeSetting_46 : decode cX4_changeSetting 46 = .ok (.iinc 3 1, 3) := by decide +kernel
theorem dX4_changeSetting_49 : decode cX4_changeSetting 49 = .ok (.goto (-20), 3) := by decide +kernel
theorem dX4_changeSetting_52 : decode cX4_changeSetting 52 = .ok (.aload_n 0, 1) := by decide +kernel
theorem dX4_changeSetting_53 : decode cX4_changeSetting 53 = .ok (.getfield 12, 3) := by decide +kernel
theorem dX4_changeSetting_56 : decode cX4_changeSetting 56 = .ok (.bipush 16, 2) := by decide +kernel
theorem dX4_changeSetting_58 : decode cX4_changeSetting 58 = .ok (.iload_n 2, 1) := by decide +kernel
theorem dX4_changeSetting_59 : decode cX4_changeSetting 59 = .ok (.invokevirtual 107, 3) := by decide +kernel
theorem dX4_changeSetting_62 : decode cX4_changeSetting 62 = .ok (.iconst 1, 1) := by decide +kernel
theorem dX4_changeSetting_63 : decode cX4_changeSetting 63 = .ok (.ireturn, 1) := by decide +kernel
set_option maxRecDepth 20000 in
theorem ggX4_takesRuling_X0_fits : GoodIn wsX4_takesRuling wsX0_fits := goodIn_r _ [7, 8, 9, 10, 11, 12, 13, 14, 6, 15, 16, 17, 18, 19, 20, 21, 22, 23, 24, 25, 26, 27, 28, 29, 30, 31, 32, 33, 34, 35, 36, 37, 38, 45, 46, 47, 48, 49] (by decide +kernel) (by decide +kernel)
set_option maxRecDepth 20000 in
theorem gX4_takesRuling_X0_fits : GoodIn wsX4_takesRuling (wsV RX4 110 RX0 yX0_fits wsX0_fits) := goodIn_app (goodIn_of _ (by decide +kernel)) ggX4_takesRuling_X0_fits
theorem dX4_takesRuling_0 : decode cX4_takesRuling 0 = .ok (.aload_n 0, 1) := by decide +kernel
theorem dX4_takesRuling_1 : decode cX4_takesRuling 1 = .ok (.getfield 12, 3) := by decide +kernel
theorem dX4_takesRuling_4 : decode cX4_takesRuling 4 = .ok (.bipush 16, 2) := by decide +kernel
theorem dX4_takesRuling_6 : decode cX4_takesRuling 6 = .ok (.iload_n 1, 1) := by decide +kernel
theorem dX4_takesRuling_7 : decode cX4_takesRuling 7 = .ok (.invokevirtual 110, 3) := by decide +kernel
theorem dX4_takesRuling_10 : decode cX4_takesRuling 10 = .ok (.istore_n 2, 1) := by decide +kernel
theorem dX4_takesRuling_11 : decode cX4_takesRuling 11 = .ok (.iconst 0, 1) := by decide +kernel
theorem dX4_takesRuling_12 : decode cX4_takesRuling 12 = .ok (.istore_n 3, 1) := by decide +kernel
theorem dX4_takesRuling_13 : decode cX4_takesRuling 13 = .ok (.iload_n 3, 1) := by decide +kernel
theorem dX4_takesRuling_14 : decode cX4_takesRuling 14 = .ok (.aload_n 0, 1) := by decide +kernel
theorem dX4_takesRuling_15 : decode cX4_takesRuling 15 = .ok (.getfield 36, 3) := by decide +kernel
theorem dX4_takesRuling_18 : decode cX4_takesRuling 18 = .ok (.if_icmp .ge 23, 3) := by decide +kernel
theorem dX4_takesRuling_21 : decode cX4_takesRuling 21 = .ok (.iload_n 2, 1) := by decide +kernel
theorem dX4_takesRuling_22 : decode cX4_takesRuling 22 = .ok (.ifCond .eq 19, 3) := by decide +kernel
theorem dX4_takesRuling_25 : decode cX4_takesRuling 25 = .ok (.aload_n 0, 1) := by decide +kernel
theorem dX4_takesRuling_26 : decode cX4_takesRuling 26 = .ok (.getfield 12, 3) := by decide +kernel
theorem dX4_takesRuling_29 : decode cX4_takesRuling 29 = .ok (.iload_n 3, 1) := by decide +kernel
theorem dX4_takesRuling_30 : decode cX4_takesRuling 30 = .ok (.iload_n 1, 1) := by decide +kernel
theorem dX4_takesRuling_31 : decode cX4_takesRuling 31 = .ok (.invokevirtual 110, 3) := by decide +kernel
theorem dX4_takesRuling_34 : decode cX4_takesRuling 34 = .ok (.istore_n 2, 1) := by decide +kernel
theorem dX4_takesRuling_35 : decode cX4_takesRuling 35 = .ok (.iinc 3 1, 3) := by decide +kernel
theorem dX4_takesRuling_38 : decode cX4_takesRuling 38 = .ok (.goto (-25), 3) := by decide +kernel
theorem dX4_takesRuling_41 : decode cX4_takesRuling 41 = .ok (.iload_n 2, 1) := by decide +kernel
theorem dX4_takesRuling_42 : decode cX4_takesRuling 42 = .ok (.ireturn, 1) := by decide +kernel
set_option maxRecDepth 20000 in
theorem ggX4_mirrorHand_X0_mirrorPlace : GoodIn wsX4_mirrorHand wsX0_mirrorPlace := goodIn_r _ [6, 7, 8, 9, 5, 10, 11, 12, 13, 14, 15, 16, 17, 18, 19, 20, 21, 22, 23, 24, 25, 26, 27, 28, 29, 30, 81, 82, 83, 84, 85] (by decide +kernel) (by decide +kernel)
set_option maxRecDepth 20000 in
theorem gX4_mirrorHand_X0_mirrorPlace : GoodIn wsX4_mirrorHand (wsV RX4 113 RX0 yX0_mirrorPlace wsX0_mirrorPlace) := goodIn_app (goodIn_of _ (by decide +kernel)) ggX4_mirrorHand_X0_mirrorPlace
set_option maxRecDepth 20000 in
theorem ggX4_mirrorHand_X4_settingOf : GoodIn wsX4_mirrorHand wsX4_settingOf := goodIn_r _ [35, 36, 12, 13, 14, 75, 76, 77, 78, 79, 80] (by decide +kernel) (by decide +kernel)
set_option maxRecDepth 20000 in
theorem gX4_mirrorHand_X4_settingOf : GoodIn wsX4_mirrorHand (wsV RX4 64 RX4 yX4_settingOf wsX4_settingOf) := goodIn_app (goodIn_of _ (by decide +kernel)) ggX4_mirrorHand_X4_settingOf
set_option maxRecDepth 20000 in
theorem ggX4_mirrorHand_X0_fits : GoodIn wsX4_mirrorHand wsX0_fits := goodIn_r _ [40, 41, 42, 43, 44, 7, 8, 9, 5, 10, 11, 12, 13, 14, 15, 16, 17, 18, 19, 20, 21, 22, 23, 24, 45, 46, 47, 48, 49, 50, 51, 52, 53, 81, 82, 83, 84, 85] (by decide +kernel) (by decide +kernel)
set_option maxRecDepth 20000 in
theorem gX4_mirrorHand_X0_fits : GoodIn wsX4_mirrorHand (wsV RX4 110 RX0 yX0_fits wsX0_fits) := goodIn_app (goodIn_of _ (by decide +kernel)) ggX4_mirrorHand_X0_fits
set_option maxRecDepth 20000 in
theorem ggX4_mirrorHand_X0_writeSigns : GoodIn wsX4_mirrorHand wsX0_writeSigns := goodIn_r _ [57, 58, 29, 13, 30, 7, 8, 9, 5, 10, 11, 12, 14, 59, 60, 61, 62, 63, 64, 65, 66, 67, 15, 16, 17, 18, 19, 20, 21, 22, 23, 24, 68, 69, 70, 71, 51, 52, 43, 53, 48, 49, 50, 72, 73, 74, 81, 82, 83, 84, 85] (by decide +kernel) (by decide +kernel)
set_option maxRecDepth 20000 in
theorem gX4_mirrorHand_X0_writeSigns : GoodIn wsX4_mirrorHand (wsV RX4 107 RX0 yX0_writeSigns wsX0_writeSigns) := goodIn_app (goodIn_of _ (by decide +kernel)) ggX4_mirrorHand_X0_writeSigns
theorem dX4_mirrorHand_0 : decode cX4_mirrorHand 0 = .ok (.aload_n 0, 1) := by decide +kernel
theorem dX4_mirrorHand_1 : decode cX4_mirrorHand 1 = .ok (.getfield 12, 3) := by decide +kernel
theorem dX4_mirrorHand_4 : decode cX4_mirrorHand 4 = .ok (.bipush 16, 2) := by decide +kernel
theorem dX4_mirrorHand_6 : decode cX4_mirrorHand 6 = .ok (.invokevirtual 113, 3) := by decide +kernel
theorem dX4_mirrorHand_9 : decode cX4_mirrorHand 9 = .ok (.aload_n 0, 1) := by decide +kernel
theorem dX4_mirrorHand_10 : decode cX4_mirrorHand 10 = .ok (.getfield 12, 3) := by decide +kernel
theorem dX4_mirrorHand_13 : decode cX4_mirrorHand 13 = .ok (.bipush 16, 2) := by decide +kernel
theorem dX4_mirrorHand_15 : decode cX4_mirrorHand 15 = .ok (.aload_n 0, 1) := by decide +kernel
theorem dX4_mirrorHand_16 : decode cX4_mirrorHand 16 = .ok (.iconst 0, 1) := by decide +kernel
theorem dX4_mirrorHand_17 : decode cX4_mirrorHand 17 = .ok (.invokevirtual 64, 3) := by decide +kernel
theorem dX4_mirrorHand_20 : decode cX4_mirrorHand 20 = .ok (.invokevirtual 110, 3) := by decide +kernel
theorem dX4_mirrorHand_23 : decode cX4_mirrorHand 23 = .ok (.ifCond .ne 5, 3) := by decide +kernel
theorem dX4_mirrorHand_26 : decode cX4_mirrorHand 26 = .ok (.iconst 0, 1) := by decide +kernel
theorem dX4_mirrorHand_27 : decode cX4_mirrorHand 27 = .ok (.ireturn, 1) := by decide +kernel
theorem dX4_mirrorHand_28 : decode cX4_mirrorHand 28 = .ok (.aload_n 0, 1) := by decide +kernel
theorem dX4_mirrorHand_29 : decode cX4_mirrorHand 29 = .ok (.getfield 12, 3) := by decide +kernel
theorem dX4_mirrorHand_32 : decode cX4_mirrorHand 32 = .ok (.bipush 16, 2) := by decide +kernel
theorem dX4_mirrorHand_34 : decode cX4_mirrorHand 34 = .ok (.aload_n 0, 1) := by decide +kernel
theorem dX4_mirrorHand_35 : decode cX4_mirrorHand 35 = .ok (.iconst 0, 1) := by decide +kernel
theorem dX4_mirrorHand_36 : decode cX4_mirrorHand 36 = .ok (.invokevirtual 64, 3) := by decide +kernel
theorem dX4_mirrorHand_39 : decode cX4_mirrorHand 39 = .ok (.invokevirtual 107, 3) := by decide +kernel
theorem dX4_mirrorHand_42 : decode cX4_mirrorHand 42 = .ok (.iconst 1, 1) := by decide +kernel
theorem dX4_mirrorHand_43 : decode cX4_mirrorHand 43 = .ok (.ireturn, 1) := by decide +kernel
theorem dX5_init_0 : decode cX5_init 0 = .ok (.aload_n 0, 1) := by decide +kernel
theorem dX5_init_1 : decode cX5_init 1 = .ok (.invokespecial 3, 3) := by decide +kernel
theorem dX5_init_4 : decode cX5_init 4 = .ok (.aload_n 0, 1) := by decide +kernel
theorem dX5_init_5 : decode cX5_init 5 = .ok (.bipush 100, 2) := by decide +kernel
theorem dX5_init_7 : decode cX5_init 7 = .ok (.newarray .int, 2) := by decide +kernel
theorem dX5_init_9 : decode cX5_init 9 = .ok (.putfield 9, 3) := by decide +kernel
theorem dX5_init_12 : decode cX5_init 12 = .ok (.return_, 1) := by decide +kernel
set_option maxRecDepth 20000 in
theorem ggX5_addCode_X6_putCell : GoodIn wsX5_addCode wsX6_putCell := goodIn_r _ [5] (by decide +kernel) (by decide +kernel)
set_option maxRecDepth 20000 in
theorem gX5_addCode_X6_putCell_n19 : GoodIn wsX5_addCode (wsX6_putCell) := ggX5_addCode_X6_putCell
theorem dX5_addCode_0 : decode cX5_addCode 0 = .ok (.aload_n 0, 1) := by decide +kernel
theorem dX5_addCode_1 : decode cX5_addCode 1 = .ok (.getfield 9, 3) := by decide +kernel
theorem dX5_addCode_4 : decode cX5_addCode 4 = .ok (.aload_n 0, 1) := by decide +kernel
theorem dX5_addCode_5 : decode cX5_addCode 5 = .ok (.getfield 15, 3) := by decide +kernel
theorem dX5_addCode_8 : decode cX5_addCode 8 = .ok (.iload_n 1, 1) := by decide +kernel
theorem dX5_addCode_9 : decode cX5_addCode 9 = .ok (.invokestatic 19, 3) := by decide +kernel
theorem dX5_addCode_12 : decode cX5_addCode 12 = .ok (.aload_n 0, 1) := by decide +kernel
theorem dX5_addCode_13 : decode cX5_addCode 13 = .ok (.dup, 1) := by decide +kernel
theorem dX5_addCode_14 : decode cX5_addCode 14 = .ok (.getfield 15, 3) := by decide +kernel
theorem dX5_addCode_17 : decode cX5_addCode 17 = .ok (.iconst 1, 1) := by decide +kernel
theorem dX5_addCode_18 : decode cX5_addCode 18 = .ok (.iadd, 1) := by decide +kernel
theorem dX5_addCode_19 : decode cX5_addCode 19 = .ok (.putfield 15, 3) := by decide +kernel
theorem dX5_addCode_22 : decode cX5_addCode 22 = .ok (.return_, 1) := by decide +kernel
set_option maxRecDepth 20000 in
theorem ggX5_firstError_X6_cell : GoodIn wsX5_firstError wsX6_cell := goodIn_r _ [5] (by decide +kernel) (by decide +kernel)
set_option maxRecDepth 20000 in
theorem gX5_firstError_X6_cell_n23 : GoodIn wsX5_firstError (wsX6_cell) := ggX5_firstError_X6_cell
set_option maxRecDepth 20000 in
theorem ggX5_firstError_X5_goesOn : GoodIn wsX5_firstError wsX5_goesOn := goodIn_r _ [9] (by decide +kernel) (by decide +kernel)
set_option maxRecDepth 20000 in
theorem gX5_firstError_X5_goesOn : GoodIn wsX5_firstError (va_wsS RX5 27 yX5_goesOn wsX5_goesOn) := goodIn_app (goodIn_of _ (by decide +kernel)) ggX5_firstError_X5_goesOn
theorem dX5_firstError_0 : decode cX5_firstError 0 = .ok (.iconst 1, 1) := by decide +kernel
theorem dX5_firstError_1 : decode cX5_firstError 1 = .ok (.istore_n 1, 1) := by decide +kernel
theorem dX5_firstError_2 : decode cX5_firstError 2 = .ok (.iconst 1, 1) := by decide +kernel
theorem dX5_firstError_3 : decode cX5_firstError 3 = .ok (.istore_n 2, 1) := by decide +kernel
theorem dX5_firstError_4 : decode cX5_firstError 4 = .ok (.iconst 0, 1) := by decide +kernel
theorem dX5_firstError_5 : decode cX5_firstError 5 = .ok (.istore_n 3, 1) := by decide +kernel
theorem dX5_firstError_6 : decode cX5_firstError 6 = .ok (.iconst 0, 1) := by decide +kernel
theorem dX5_firstError_7 : decode cX5_firstError 7 = .ok (.istore 4, 2) := by decide +kernel
theorem dX5_firstError_9 : decode cX5_firstError 9 = .ok (.iconst 1, 1) := by decide +kernel
theorem dX5_firstError_10 : decode cX5_firstError 10 = .ok (.istore 5, 2) := by decide +kernel
theorem dX5_firstError_12 : decode cX5_firstError 12 = .ok (.iconst 0, 1) := by decide +kernel
theorem dX5_firstError_13 : decode cX5_firstError 13 = .ok (.istore 6, 2) := by decide +kernel
theorem dX5_firstError_15 : decode cX5_firstError 15 = .ok (.iload 6, 2) := by decide +kernel
theorem dX5_firstError_17 : decode cX5_firstError 17 = .ok (.aload_n 0, 1) := by decide +kernel
theorem dX5_firstError_18 : decode cX5_firstError 18 = .ok (.getfield 15, 3) := by decide +kernel
theorem dX5_firstError_21 : decode cX5_firstError 21 = .ok (.if_icmp .ge 175, 3) := by decide +kernel
theorem dX5_firstError_24 : decode cX5_firstError 24 = .ok (.aload_n 0, 1) := by decide +kernel
theorem dX5_firstError_25 : decode cX5_firstError 25 = .ok (.getfield 9, 3) := by decide +kernel
theorem dX5_firstError_28 : decode cX5_firstError 28 = .ok (.iload 6, 2) := by decide +kernel
theorem dX5_firstError_30 : decode cX5_firstError 30 = .ok (.invokestatic 23, 3) := by decide +kernel
theorem dX5_firstError_33 : decode cX5_firstError 33 = .ok (.istore 7, 2) := by decide +kernel
theorem dX5_firstError_35 : decode cX5_firstError 35 = .ok (.iload 7, 2) := by decide +kernel
theorem dX5_firstError_37 : decode cX5_firstError 37 = .ok (.bipush 48, 2) := by decide +kernel
theorem dX5_firstError_39 : decode cX5_firstError 39 = .ok (.if_icmp .lt 14, 3) := by decide +kernel
theorem dX5_firstError_42 : decode cX5_firstError 42 = .ok (.iload 7, 2) := by decide +kernel
theorem dX5_firstError_44 : decode cX5_firstError 44 = .ok (.bipush 57, 2) := by decide +kernel
theorem dX5_firstError_46 : decode cX5_firstError 46 = .ok (.if_icmp .gt 7, 3) := by decide +kernel
theorem dX5_firstError_49 : decode cX5_firstError 49 = .ok (.iconst 1, 1) := by decide +kernel
theorem dX5_firstError_50 : decode cX5_firstError 50 = .ok (.goto 4, 3) := by decide +kernel
theorem dX5_firstError_53 : decode cX5_firstError 53 = .ok (.iconst 0, 1) := by decide +kernel
theorem dX5_firstError_54 : decode cX5_firstError 54 = .ok (.istore 8, 2) := by decide +kernel
theorem dX5_firstError_56 : decode cX5_firstError 56 = .ok (.iload 8, 2) := by decide +kernel
theorem dX5_firstError_58 : decode cX5_firstError 58 = .ok (.ifCond .eq 39, 3) := by decide +kernel
theorem dX5_firstError_61 : decode cX5_firstError 61 = .ok (.iload_n 3, 1) := by decide +kernel
theorem dX5_firstError_62 : decode cX5_firstError 62 = .ok (.ifCond .eq 16, 3) := by decide +kernel
theorem dX5_firstError_65 : decode cX5_firstError 65 = .ok (.iload 4, 2) := by decide +kernel
theorem dX5_firstError_67 : decode cX5_firstError 67 = .ok (.iload 7, 2) := by decide +kernel
theorem dX5_firstError_69 : decode cX5_firstError 69 = .ok (.bipush 48, 2) := by decide +kernel
theorem dX5_firstError_71 : decode cX5_firstError 71 = .ok (.isub, 1) := by decide +kernel
theorem dX5_firstError_72 : decode cX5_firstError 72 = .ok (.invokestatic 27, 3) := by decide +kernel
theorem dX5_firstError_75 : decode cX5_firstError 75 = .ok (.ifCond .eq 22, 3) := by decide +kernel
theorem dX5_firstError_78 : decode cX5_firstError 78 = .ok (.iload 4, 2) := by decide +kernel
theorem dX5_firstError_80 : decode cX5_firstError 80 = .ok (.bipush 10, 2) := by decide +kernel
theorem dX5_firstError_82 : decode cX5_firstError 82 = .ok (.imul, 1) := by decide +kernel
theorem dX5_firstError_83 : decode cX5_firstError 83 = .ok (.iload 7, 2) := by decide +kernel
theorem dX5_firstError_85 : decode cX5_firstError 85 = .ok (.iadd, 1) := by decide +kernel
theorem dX5_firstError_86 : decode cX5_firstError 86 = .ok (.bipush 48, 2) := by decide +kernel
theorem dX5_firstError_88 : decode cX5_firstError 88 = .ok (.isub, 1) := by decide +kernel
theorem dX5_firstError_89 : decode cX5_firstError 89 = .ok (.istore 4, 2) := by decide +kernel
theorem dX5_firstError_91 : decode cX5_firstError 91 = .ok (.iinc 3 1, 3) := by decide +kernel
theorem dX5_firstError_94 : decode cX5_firstError 94 = .ok (.goto 96, 3) := by decide +kernel
theorem dX5_firstError_97 : decode cX5_firstError 97 = .ok (.iload 8, 2) := by decide +kernel
theorem dX5_firstError_99 : decode cX5_firstError 99 = .ok (.ifCond .ne 7, 3) := by decide +kernel
theorem dX5_firstError_102 : decode cX5_firstError 102 = .ok (.iload_n 3, 1) := by decide +kernel
theorem dX5_firstError_103 : decode cX5_firstError 103 = .ok (.ifCond .ne 6, 3) := by decide +kernel
theorem dX5_firstError_106 : decode cX5_firstError 106 = .ok (.iload 6, 2) := by decide +kernel
theorem dX5_firstError_108 : decode cX5_firstError 108 = .ok (.ireturn, 1) := by decide +kernel
theorem dX5_firstError_109 : decode cX5_firstError 109 = .ok (.iload 5, 2) := by decide +kernel
theorem dX5_firstError_111 : decode cX5_firstError 111 = .ok (.ifCond .eq 16, 3) := by decide +kernel
theorem dX5_firstError_114 : decode cX5_firstError 114 = .ok (.iload 7, 2) := by decide +kernel
theorem dX5_firstError_116 : decode cX5_firstError 116 = .ok (.bipush 44, 2) := by decide +kernel
theorem dX5_firstError_118 : decode cX5_firstError 118 = .ok (.if_icmp .ne 9, 3) := by decide +kernel
theorem dX5_firstError_121 : decode cX5_firstError 121 = .ok (.iconst 0, 1) := by decide +kernel
theorem dX5_firstError_122 : decode cX5_firstError 122 = .ok (.istore 5, 2) := by decide +kernel
theorem dX5_firstError_124 : decode cX5_firstError 124 = .ok (.goto 61, 3) := by decide +kernel
theorem dX5_firstError_127 : decode cX5_firstError 127 = .ok (.iload 5, 2) := by decide +kernel
theorem dX5_firstError_129 : decode cX5_firstError 129 = .ok (.ifCond .ne 25, 3) := by decide +kernel
theorem dX5_firstError_132 : decode cX5_firstError 132 = .ok (.iload 7, 2) := by decide +kernel
theorem dX5_firstError_134 : decode cX5_firstError 134 = .ok (.bipush 45, 2) := by decide +kernel
theorem dX5_firstError_136 : decode cX5_firstError 136 = .ok (.if_icmp .ne 18, 3) := by decide +kernel
theorem dX5_firstError_139 : decode cX5_firstError 139 = .ok (.iload_n 2, 1) := by decide +kernel
theorem dX5_firstError_140 : decode cX5_firstError 140 = .ok (.bipush 12, 2) := by decide +kernel
theorem dX5_firstError_142 : decode cX5_firstError 142 = .ok (.if_icmp .ge 12, 3) := by decide +kernel
theorem dX5_firstError_145 : decode cX5_firstError 145 = .ok (.iinc 2 1, 3) := by decide +kernel
theorem dX5_firstError_148 : decode cX5_firstError 148 = .ok (.iconst 1, 1) := by decide +kernel
theorem dX5_firstError_149 : decode cX5_firstError 149 = .ok (.istore 5, 2) := by decide +kernel
theorem dX5_firstError_151 : decode cX5_firstError 151 = .ok (.goto 34, 3) := by decide +kernel
theorem dX5_firstError_154 : decode cX5_firstError 154 = .ok (.iload 5, 2) := by decide +kernel
theorem dX5_firstError_156 : decode cX5_firstError 156 = .ok (.ifCond .ne 26, 3) := by decide +kernel
theorem dX5_firstError_159 : decode cX5_firstError 159 = .ok (.iload 7, 2) := by decide +kernel
theorem dX5_firstError_161 : decode cX5_firstError 161 = .ok (.bipush 47, 2) := by decide +kernel
theorem dX5_firstError_163 : decode cX5_firstError 163 = .ok (.if_icmp .ne 19, 3) := by decide +kernel
theorem dX5_firstError_166 : decode cX5_firstError 166 = .ok (.iload_n 1, 1) := by decide +kernel
theorem dX5_firstError_167 : decode cX5_firstError 167 = .ok (.iconst 3, 1) := by decide +kernel
theorem dX5_firstError_168 : decode cX5_firstError 168 = .ok (.if_icmp .ge 14, 3) := by decide +kernel
theorem dX5_firstError_171 : decode cX5_firstError 171 = .ok (.iinc 1 1, 3) := by decide +kernel
theorem dX5_firstError_174 : decode cX5_firstError 174 = .ok (.iconst 1, 1) := by decide +kernel
theorem dX5_firstError_175 : decode cX5_firstError 175 = .ok (.istore_n 2, 1) := by decide +kernel
theorem dX5_firstError_176 : decode cX5_firstError 176 = .ok (.iconst 1, 1) := by decide +kernel
theorem dX5_firstError_177 : decode cX5_firstError 177 = .ok (.istore 5, 2) := by decide +kernel
theorem dX5_firstError_179 : decode cX5_firstError 179 = .ok (.goto 6, 3) := by decide +kernel
theorem dX5_firstError_182 : decode cX5_firstError 182 = .ok (.iload 6, 2) := by decide +kernel
theorem dX5_firstError_184 : decode cX5_firstError 184 = .ok (.ireturn, 1) := by decide +kernel
theorem dX5_firstError_185 : decode cX5_firstError 185 = .ok (.iconst 0, 1) := by decide +kernel
theorem dX5_firstError_186 : decode cX5_firstError 186 = .ok (.istore_n 3, 1) := by decide +kernel
theorem dX5_firstError_187 : decode cX5_firstError 187 = .ok (.iconst 0, 1) := by decide +kernel
theorem dX5_firstError_188 : decode cX5_firstError 188 = .ok (.istore 4, 2) := by decide +kernel
theorem dX5_firstError_190 : decode cX5_firstError 190 = .ok (.iinc 6 1, 3) := by decide +kernel
theorem dX5_firstError_193 : decode cX5_firstError 193 = .ok (.goto (-178), 3) := by decide +kernel
theorem dX5_firstError_196 : decode cX5_firstError 196 = .ok (.iload 5, 2) := by decide +kernel
theorem dX5_firstError_198 : decode cX5_firstError 198 = .ok (.ifCond .ne 7, 3) := by decide +kernel
theorem dX5_firstError_201 : decode cX5_firstError 201 = .ok (.iload_n 3, 1) := by decide +kernel
theorem dX5_firstError_202 : decode cX5_firstError 202 = .ok (.ifCond .ne 10, 3) := by decide +kernel
theorem dX5_firstError_205 : decode cX5_firstError 205 = .ok (.aload_n 0, 1) := by decide +kernel
theorem dX5_firstError_206 : decode cX5_firstError 206 = .ok (.getfield 15, 3) := by decide +kernel
theorem dX5_firstError_209 : decode cX5_firstError 209 = .ok (.goto 4, 3) := by decide +kernel
theorem dX5_firstError_212 : decode cX5_firstError 212 = .ok (.iconst (-1), 1) := by decide +kernel
theorem dX5_firstError_213 : decode cX5_firstError 213 = .ok (.ireturn, 1) := by decide +kernel
theorem dX5_goesOn_0 : decode cX5_goesOn 0 = .ok (.iload_n 0, 1) := by decide +kernel
theorem dX5_goesOn_1 : decode cX5_goesOn 1 = .ok (.ifCond .le 18, 3) := by decide +kernel
theorem dX5_goesOn_4 : decode cX5_goesOn 4 = .ok (.iload_n 0, 1) := by decide +kernel
theorem dX5_goesOn_5 : decode cX5_goesOn 5 = .ok (.bipush 10, 2) := by decide +kernel
theorem dX5_goesOn_7 : decode cX5_goesOn 7 = .ok (.imul, 1) := by decide +kernel
theorem dX5_goesOn_8 : decode cX5_goesOn 8 = .ok (.iload_n 1, 1) := by decide +kernel
theorem dX5_goesOn_9 : decode cX5_goesOn 9 = .ok (.iadd, 1) := by decide +kernel
theorem dX5_goesOn_10 : decode cX5_goesOn 10 = .ok (.bipush 60, 2) := by decide +kernel
theorem dX5_goesOn_12 : decode cX5_goesOn 12 = .ok (.if_icmp .gt 7, 3) := by decide +kernel
theorem dX5_goesOn_15 : decode cX5_goesOn 15 = .ok (.iconst 1, 1) := by decide +kernel
theorem dX5_goesOn_16 : decode cX5_goesOn 16 = .ok (.goto 4, 3) := by decide +kernel
theorem dX5_goesOn_19 : decode cX5_goesOn 19 = .ok (.iconst 0, 1) := by decide +kernel
theorem dX5_goesOn_20 : decode cX5_goesOn 20 = .ok (.ireturn, 1) := by decide +kernel
set_option maxRecDepth 20000 in
theorem ggX5_drawOn_X6_cell : GoodIn wsX5_drawOn wsX6_cell := goodIn_r _ [5] (by decide +kernel) (by decide +kernel)
set_option maxRecDepth 20000 in
theorem gX5_drawOn_X6_cell_n23 : GoodIn wsX5_drawOn (wsX6_cell) := ggX5_drawOn_X6_cell
set_option maxRecDepth 20000 in
theorem ggX5_drawOn_X4_addPoint : GoodIn wsX5_drawOn wsX4_addPoint := goodIn_r _ [10, 11, 12, 13, 4, 14, 15, 16, 17, 9, 18, 19, 3, 5, 20, 21, 22, 23, 24, 25, 26, 27, 28, 29, 30, 31, 32, 33, 34, 35, 36, 37, 38, 39, 40, 41, 42, 43, 44, 45, 46, 47, 48, 49, 50, 51, 52, 53, 54, 55, 56, 57, 58, 59, 60, 61, 62, 63, 64, 65, 66, 67, 68, 69, 70, 71, 72, 73, 74, 75, 76, 83, 84, 85, 86, 87, 88, 89, 90, 91, 92, 93] (by decide +kernel) (by decide +kernel)
set_option maxRecDepth 20000 in
theorem gX5_drawOn_X4_addPoint : GoodIn wsX5_drawOn (wsV RX5 31 RX4 yX4_addPoint wsX4_addPoint) := goodIn_app (goodIn_of _ (by decide +kernel)) ggX5_drawOn_X4_addPoint
set_option maxRecDepth 20000 in
theorem ggX5_drawOn_X4_liftPen : GoodIn wsX5_drawOn wsX4_liftPen := goodIn_r _ [80, 11, 83, 84, 85, 86, 87, 88] (by decide +kernel) (by decide +kernel)
set_option maxRecDepth 20000 in
theorem gX5_drawOn_X4_liftPen : GoodIn wsX5_drawOn (wsV RX5 36 RX4 yX4_liftPen wsX4_liftPen) := goodIn_app (goodIn_of _ (by decide +kernel)) ggX5_drawOn_X4_liftPen
theorem dX5_drawOn_0 : decode cX5_drawOn 0 = .ok (.iconst 0, 1) := by decide +kernel
theorem dX5_drawOn_1 : decode cX5_drawOn 1 = .ok (.istore_n 2, 1) := by decide +kernel
theorem dX5_drawOn_2 : decode cX5_drawOn 2 = .ok (.iconst 0, 1) := by decide +kernel
theorem dX5_drawOn_3 : decode cX5_drawOn 3 = .ok (.istore_n 3, 1) := by decide +kernel
theorem dX5_drawOn_4 : decode cX5_drawOn 4 = .ok (.iconst 0, 1) := by decide +kernel
theorem dX5_drawOn_5 : decode cX5_drawOn 5 = .ok (.istore 4, 2) := by decide +kernel
theorem dX5_drawOn_7 : decode cX5_drawOn 7 = .ok (.iload 4, 2) := by decide +kernel
theorem dX5_drawOn_9 : decode cX5_drawOn 9 = .ok (.aload_n 0, 1) := by decide +kernel
theorem dX5_drawOn_10 : decode cX5_drawOn 10 = .ok (.getfield 15, 3) := by decide +kernel
theorem dX5_drawOn_13 : decode cX5_drawOn 13 = .ok (.if_icmp .gt 98, 3) := by decide +kernel
theorem dX5_drawOn_16 : decode cX5_drawOn 16 = .ok (.iload 4, 2) := by decide +kernel
theorem dX5_drawOn_18 : decode cX5_drawOn 18 = .ok (.aload_n 0, 1) := by decide +kernel
theorem dX5_drawOn_19 : decode cX5_drawOn 19 = .ok (.getfield 15, 3) := by decide +kernel
theorem dX5_drawOn_22 : decode cX5_drawOn 22 = .ok (.if_icmp .ge 15, 3) := by decide +kernel
theorem dX5_drawOn_25 : decode cX5_drawOn 25 = .ok (.aload_n 0, 1) := by decide +kernel
theorem dX5_drawOn_26 : decode cX5_drawOn 26 = .ok (.getfield 9, 3) := by decide +kernel
theorem dX5_drawOn_29 : decode cX5_drawOn 29 = .ok (.iload 4, 2) := by decide +kernel
theorem dX5_drawOn_31 : decode cX5_drawOn 31 = .ok (.invokestatic 23, 3) := by decide +kernel
theorem dX5_drawOn_34 : decode cX5_drawOn 34 = .ok (.goto 5, 3) := by decide +kernel
theorem dX5_drawOn_37 : decode cX5_drawOn 37 = .ok (.bipush 47, 2) := by decide +kernel
theorem dX5_drawOn_39 : decode cX5_drawOn 39 = .ok (.istore 5, 2) := by decide +kernel
theorem dX5_drawOn_41 : decode cX5_drawOn 41 = .ok (.iload 5, 2) := by decide +kernel
theorem dX5_drawOn_43 : decode cX5_drawOn 43 = .ok (.bipush 48, 2) := by decide +kernel
theorem dX5_drawOn_45 : decode cX5_drawOn 45 = .ok (.if_icmp .lt 24, 3) := by decide +kernel
theorem dX5_drawOn_48 : decode cX5_drawOn 48 = .ok (.iload 5, 2) := by decide +kernel
theorem dX5_drawOn_50 : decode cX5_drawOn 50 = .ok (.bipush 57, 2) := by decide +kernel
theorem dX5_drawOn_52 : decode cX5_drawOn 52 = .ok (.if_icmp .gt 17, 3) := by decide +kernel
theorem dX5_drawOn_55 : decode cX5_drawOn 55 = .ok (.iload_n 3, 1) := by decide +kernel
theorem dX5_drawOn_56 : decode cX5_drawOn 56 = .ok (.bipush 10, 2) := by decide +kernel
theorem dX5_drawOn_58 : decode cX5_drawOn 58 = .ok (.imul, 1) := by decide +kernel
theorem dX5_drawOn_59 : decode cX5_drawOn 59 = .ok (.iload 5, 2) := by decide +kernel
theorem dX5_drawOn_61 : decode cX5_drawOn 61 = .ok (.iadd, 1) := by decide +kernel
theorem dX5_drawOn_62 : decode cX5_drawOn 62 = .ok (.bipush 48, 2) := by decide +kernel
theorem dX5_drawOn_64 : decode cX5_drawOn 64 = .ok (.isub, 1) := by decide +kernel
theorem dX5_drawOn_65 : decode cX5_drawOn 65 = .ok (.istore_n 3, 1) := by decide +kernel
theorem dX5_drawOn_66 : decode cX5_drawOn 66 = .ok (.goto 39, 3) := by decide +kernel
theorem dX5_drawOn_69 : decode cX5_drawOn 69 = .ok (.iload 5, 2) := by decide +kernel
theorem dX5_drawOn_71 : decode cX5_drawOn 71 = .ok (.bipush 44, 2) := by decide +kernel
theorem dX5_drawOn_73 : decode cX5_drawOn 73 = .ok (.if_icmp .ne 8, 3) := by decide +kernel
theorem dX5_drawOn_76 : decode cX5_drawOn 76 = .ok (.iload_n 3, 1) := by decide +kernel
theorem dX5_drawOn_77 : decode cX5_drawOn 77 = .ok (.istore_n 2, 1) := by decide +kernel
theorem dX5_drawOn_78 : decode cX5_drawOn 78 = .ok (.goto 14, 3) := by decide +kernel
theorem dX5_drawOn_81 : decode cX5_drawOn 81 = .ok (.aload_n 1, 1) := by decide +kernel
theorem dX5_drawOn_82 : decode cX5_drawOn 82 = .ok (.iload_n 2, 1) := by decide +kernel
theorem dX5_drawOn_83 : decode cX5_drawOn 83 = .ok (.iload_n 3, 1) := by decide +kernel
theorem dX5_drawOn_84 : decode cX5_drawOn 84 = .ok (.invokevirtual 31, 3) := by decide +kernel
theorem dX5_drawOn_87 : decode cX5_drawOn 87 = .ok (.ifCond .ne 5, 3) := by decide +kernel
theorem dX5_drawOn_90 : decode cX5_drawOn 90 = .ok (.iconst 0, 1) := by decide +kernel
theorem dX5_drawOn_91 : decode cX5_drawOn 91 = .ok (.ireturn, 1) := by decide +kernel
theorem dX5_drawOn_92 : decode cX5_drawOn 92 = .ok (.iload 5, 2) := by decide +kernel
theorem dX5_drawOn_94 : decode cX5_drawOn 94 = .ok (.bipush 47, 2) := by decide +kernel
theorem dX5_drawOn_96 : decode cX5_drawOn 96 = .ok (.if_icmp .ne 7, 3) := by decide +kernel
theorem dX5_drawOn_99 : decode cX5_drawOn 99 = .ok (.aload_n 1, 1) := by decide +kernel
theorem dX5_drawOn_100 : decode cX5_drawOn 100 = .ok (.invokevirtual 36, 3) := by decide +kernel
theorem dX5_drawOn_103 : decode cX5_drawOn 103 = .ok (.iconst 0, 1) := by decide +kernel
theorem dX5_drawOn_104 : decode cX5_drawOn 104 = .ok (.istore_n 3, 1) := by decide +kernel
theorem dX5_drawOn_105 : decode cX5_drawOn 105 = .ok (.iinc 4 1, 3) := by decide +kernel
theorem dX5_drawOn_108 : decode cX5_drawOn 108 = .ok (.goto (-101), 3) := by decide +kernel
theorem dX5_drawOn_111 : decode cX5_drawOn 111 = .ok (.iconst 1, 1) := by decide +kernel
theorem dX5_drawOn_112 : decode cX5_drawOn 112 = .ok (.ireturn, 1) := by decide +kernel
set_option maxRecDepth 20000 in
theorem ggX6_init_X4_init : GoodIn wsX6_init wsX4_init := goodIn_r _ [26, 27, 2, 3, 28, 29, 30, 31, 32, 33, 34, 35, 36, 37, 38, 39, 40, 41, 42, 43, 93, 94, 95, 96, 97, 69, 70, 71, 72, 73, 74] (by decide +kernel) (by decide +kernel)
set_option maxRecDepth 20000 in
theorem gX6_init_X4_init_n11 : GoodIn wsX6_init (wsX4_init) := ggX6_init_X4_init
set_option maxRecDepth 20000 in
theorem ggX6_init_X2_init : GoodIn wsX6_init wsX2_init := goodIn_r _ [45, 46, 2, 3, 32, 47, 48, 81, 82, 83, 84, 85, 86] (by decide +kernel) (by decide +kernel)
set_option maxRecDepth 20000 in
theorem gX6_init_X2_init_n21 : GoodIn wsX6_init (wsX2_init) := ggX6_init_X2_init
set_option maxRecDepth 20000 in
theorem ggX6_init_X5_init : GoodIn wsX6_init wsX5_init := goodIn_r _ [50, 51, 2, 3, 32, 52, 87, 88] (by decide +kernel) (by decide +kernel)
set_option maxRecDepth 20000 in
theorem gX6_init_X5_init_n28 : GoodIn wsX6_init (wsX5_init) := ggX6_init_X5_init
set_option maxRecDepth 20000 in
theorem ggX6_init_X1_init : GoodIn wsX6_init wsX1_init := goodIn_r _ [54, 55, 2, 3, 56, 22, 23, 57, 58, 59, 60, 61, 62, 63, 64, 65, 66, 67, 92, 89, 90, 91] (by decide +kernel) (by decide +kernel)
set_option maxRecDepth 20000 in
theorem gX6_init_X1_init_n35 : GoodIn wsX6_init (wsX1_init) := ggX6_init_X1_init
set_option maxRecDepth 20000 in
theorem ggX6_init_X3_init : GoodIn wsX6_init wsX3_init := goodIn_r _ [60, 61, 2, 3, 62, 63, 64, 65, 66, 67, 92] (by decide +kernel) (by decide +kernel)
set_option maxRecDepth 20000 in
theorem gX6_init_X3_init : GoodIn wsX6_init (wsX3_init) := ggX6_init_X3_init
theorem dX6_init_0 : decode cX6_init 0 = .ok (.aload_n 0, 1) := by decide +kernel
theorem dX6_init_1 : decode cX6_init 1 = .ok (.invokespecial 3, 3) := by decide +kernel
theorem dX6_init_4 : decode cX6_init 4 = .ok (.aload_n 0, 1) := by decide +kernel
theorem dX6_init_5 : decode cX6_init 5 = .ok (.new 9, 3) := by decide +kernel
theorem dX6_init_8 : decode cX6_init 8 = .ok (.dup, 1) := by decide +kernel
theorem dX6_init_9 : decode cX6_init 9 = .ok (.invokespecial 11, 3) := by decide +kernel
theorem dX6_init_12 : decode cX6_init 12 = .ok (.putfield 12, 3) := by decide +kernel
theorem dX6_init_15 : decode cX6_init 15 = .ok (.aload_n 0, 1) := by decide +kernel
theorem dX6_init_16 : decode cX6_init 16 = .ok (.new 9, 3) := by decide +kernel
theorem dX6_init_19 : decode cX6_init 19 = .ok (.dup, 1) := by decide +kernel
theorem dX6_init_20 : decode cX6_init 20 = .ok (.invokespecial 11, 3) := by decide +kernel
theorem dX6_init_23 : decode cX6_init 23 = .ok (.putfield 16, 3) := by decide +kernel
theorem dX6_init_26 : decode cX6_init 26 = .ok (.aload_n 0, 1) := by decide +kernel
theorem dX6_init_27 : decode cX6_init 27 = .ok (.new 19, 3) := by decide +kernel
theorem dX6_init_30 : decode cX6_init 30 = .ok (.dup, 1) := by decide +kernel
theorem dX6_init_31 : decode cX6_init 31 = .ok (.invokespecial 21, 3) := by decide +kernel
theorem dX6_init_34 : decode cX6_init 34 = .ok (.putfield 22, 3) := by decide +kernel
theorem dX6_init_37 : decode cX6_init 37 = .ok (.aload_n 0, 1) := by decide +kernel
theorem dX6_init_38 : decode cX6_init 38 = .ok (.new 26, 3) := by decide +kernel
theorem dX6_init_41 : decode cX6_init 41 = .ok (.dup, 1) := by decide +kernel
theorem dX6_init_42 : decode cX6_init 42 = .ok (.invokespecial 28, 3) := by decide +kernel
theorem dX6_init_45 : decode cX6_init 45 = .ok (.putfield 29, 3) := by decide +kernel
theorem dX6_init_48 : decode cX6_init 48 = .ok (.aload_n 0, 1) := by decide +kernel
theorem dX6_init_49 : decode cX6_init 49 = .ok (.new 33, 3) := by decide +kernel
theorem dX6_init_52 : decode cX6_init 52 = .ok (.dup, 1) := by decide +kernel
theorem dX6_init_53 : decode cX6_init 53 = .ok (.invokespecial 35, 3) := by decide +kernel
theorem dX6_init_56 : decode cX6_init 56 = .ok (.putfield 36, 3) := by decide +kernel
theorem dX6_init_59 : decode cX6_init 59 = .ok (.aload_n 0, 1) := by decide +kernel
theorem dX6_init_60 : decode cX6_init 60 = .ok (.new 40, 3) := by decide +kernel
theorem dX6_init_63 : decode cX6_init 63 = .ok (.dup, 1) := by decide +kernel
theorem dX6_init_64 : decode cX6_init 64 = .ok (.iconst 2, 1) := by decide +kernel
theorem dX6_init_65 : decode cX6_init 65 = .ok (.invokespecial 42, 3) := by decide +kernel
theorem dX6_init_68 : decode cX6_init 68 = .ok (.putfield 45, 3) := by decide +kernel
theorem dX6_init_71 : decode cX6_init 71 = .ok (.return_, 1) := by decide +kernel
set_option maxRecDepth 20000 in
theorem ggX6_append_X5_addCode : GoodIn wsX6_append wsX5_addCode := goodIn_r _ [11, 12, 13, 14, 15, 16, 23, 24] (by decide +kernel) (by decide +kernel)
set_option maxRecDepth 20000 in
theorem gX6_append_X5_addCode : GoodIn wsX6_append (wsV RX6 65 RX5 yX5_addCode wsX5_addCode) := goodIn_app (goodIn_of _ (by decide +kernel)) ggX6_append_X5_addCode
theorem dX6_append_0 : decode cX6_append 0 = .ok (.iload_n 1, 1) := by decide +kernel
theorem dX6_append_1 : decode cX6_append 1 = .ok (.ifCond .lt 10, 3) := by decide +kernel
theorem dX6_append_4 : decode cX6_append 4 = .ok (.iload_n 1, 1) := by decide +kernel
theorem dX6_append_5 : decode cX6_append 5 = .ok (.sipush 255, 3) := by decide +kernel
theorem dX6_append_8 : decode cX6_append 8 = .ok (.if_icmp .le 13, 3) := by decide +kernel
theorem dX6_append_11 : decode cX6_append 11 = .ok (.new 49, 3) := by decide +kernel
theorem dX6_append_14 : decode cX6_append 14 = .ok (.dup, 1) := by decide +kernel
theorem dX6_append_15 : decode cX6_append 15 = .ok (.ldc 51, 2) := by decide +kernel
theorem dX6_append_17 : decode cX6_append 17 = .ok (.invokespecial 53, 3) := by decide +kernel
theorem dX6_append_20 : decode cX6_append 20 = .ok (.athrow, 1) := by decide +kernel
theorem dX6_append_21 : decode cX6_append 21 = .ok (.aload_n 0, 1) := by decide +kernel
theorem dX6_append_22 : decode cX6_append 22 = .ok (.getfield 29, 3) := by decide +kernel
theorem dX6_append_25 : decode cX6_append 25 = .ok (.getfield 56, 3) := by decide +kernel
theorem dX6_append_28 : decode cX6_append 28 = .ok (.bipush 100, 2) := by decide +kernel
theorem dX6_append_30 : decode cX6_append 30 = .ok (.if_icmp .lt 13, 3) := by decide +kernel
theorem dX6_append_33 : decode cX6_append 33 = .ok (.new 60, 3) := by decide +kernel
theorem dX6_append_36 : decode cX6_append 36 = .ok (.dup, 1) := by decide +kernel
theorem dX6_append_37 : decode cX6_append 37 = .ok (.ldc 62, 2) := by decide +kernel
theorem dX6_append_39 : decode cX6_append 39 = .ok (.invokespecial 64, 3) := by decide +kernel
theorem dX6_append_42 : decode cX6_append 42 = .ok (.athrow, 1) := by decide +kernel
theorem dX6_append_43 : decode cX6_append 43 = .ok (.aload_n 0, 1) := by decide +kernel
theorem dX6_append_44 : decode cX6_append 44 = .ok (.getfield 29, 3) := by decide +kernel
theorem dX6_append_47 : decode cX6_append 47 = .ok (.iload_n 1, 1) := by decide +kernel
theorem dX6_append_48 : decode cX6_append 48 = .ok (.invokevirtual 65, 3) := by decide +kernel
theorem dX6_append_51 : decode cX6_append 51 = .ok (.aload_n 0, 1) := by decide +kernel
theorem dX6_append_52 : decode cX6_append 52 = .ok (.getfield 29, 3) := by decide +kernel
theorem dX6_append_55 : decode cX6_append 55 = .ok (.getfield 56, 3) := by decide +kernel
theorem dX6_append_58 : decode cX6_append 58 = .ok (.ireturn, 1) := by decide +kernel
theorem dX6_clearText_0 : decode cX6_clearText 0 = .ok (.aload_n 0, 1) := by decide +kernel
theorem dX6_clearText_1 : decode cX6_clearText 1 = .ok (.getfield 29, 3) := by decide +kernel
theorem dX6_clearText_4 : decode cX6_clearText 4 = .ok (.getfield 56, 3) := by decide +kernel
theorem dX6_clearText_7 : decode cX6_clearText 7 = .ok (.istore_n 1, 1) := by decide +kernel
theorem dX6_clearText_8 : decode cX6_clearText 8 = .ok (.aload_n 0, 1) := by decide +kernel
theorem dX6_clearText_9 : decode cX6_clearText 9 = .ok (.getfield 29, 3) := by decide +kernel
theorem dX6_clearText_12 : decode cX6_clearText 12 = .ok (.iconst 0, 1) := by decide +kernel
theorem dX6_clearText_13 : decode cX6_clearText 13 = .ok (.putfield 56, 3) := by decide +kernel
theorem dX6_clearText_16 : decode cX6_clearText 16 = .ok (.iload_n 1, 1) := by decide +kernel
theorem dX6_clearText_17 : decode cX6_clearText 17 = .ok (.ireturn, 1) := by decide +kernel
set_option maxRecDepth 20000 in
theorem ggX6_errorPosition_X5_firstError : GoodIn wsX6_errorPosition wsX5_firstError := goodIn_r _ [6, 7, 8, 9, 10, 11, 12, 13, 5, 14, 21, 22] (by decide +kernel) (by decide +kernel)
set_option maxRecDepth 20000 in
theorem gX6_errorPosition_X5_firstError : GoodIn wsX6_errorPosition (wsV RX6 68 RX5 yX5_firstError wsX5_firstError) := goodIn_app (goodIn_of _ (by decide +kernel)) ggX6_errorPosition_X5_firstError
theorem dX6_errorPosition_0 : decode cX6_errorPosition 0 = .ok (.aload_n 0, 1) := by decide +kernel
theorem dX6_errorPosition_1 : decode cX6_errorPosition 1 = .ok (.getfield 29, 3) := by decide +kernel
theorem dX6_errorPosition_4 : decode cX6_errorPosition 4 = .ok (.invokevirtual 68, 3) := by decide +kernel
theorem dX6_errorPosition_7 : decode cX6_errorPosition 7 = .ok (.ireturn, 1) := by decide +kernel
set_option maxRecDepth 20000 in
theorem ggX6_about_X0_strokesOf : GoodIn wsX6_about wsX0_strokesOf := goodIn_r _ [11, 12, 13, 14, 15, 53, 54, 55, 56, 57] (by decide +kernel) (by decide +kernel)
set_option maxRecDepth 20000 in
theorem gX6_about_X0_strokesOf : GoodIn wsX6_about (wsV RX6 76 RX0 yX0_strokesOf wsX0_strokesOf) := goodIn_app (goodIn_of _ (by decide +kernel)) ggX6_about_X0_strokesOf
set_option maxRecDepth 20000 in
theorem ggX6_about_X0_pointsOf : GoodIn wsX6_about wsX0_pointsOf := goodIn_r _ [19, 20, 8, 9, 10, 11, 12, 13, 14, 15, 21, 22, 23, 24, 25, 53, 54, 55, 56, 57] (by decide +kernel) (by decide +kernel)
set_option maxRecDepth 20000 in
theorem gX6_about_X0_pointsOf : GoodIn wsX6_about (wsV RX6 82 RX0 yX0_pointsOf wsX0_pointsOf) := goodIn_app (goodIn_of _ (by decide +kernel)) ggX6_about_X0_pointsOf
set_option maxRecDepth 20000 in
theorem ggX6_about_X0_signsOf : GoodIn wsX6_about wsX0_signsOf := goodIn_r _ [29, 30, 13, 14, 15, 53, 54, 55, 56, 57] (by decide +kernel) (by decide +kernel)
set_option maxRecDepth 20000 in
theorem gX6_about_X0_signsOf : GoodIn wsX6_about (wsV RX6 89 RX0 yX0_signsOf wsX0_signsOf) := goodIn_app (goodIn_of _ (by decide +kernel)) ggX6_about_X0_signsOf
set_option maxRecDepth 20000 in
theorem ggX6_about_X4_outcomesOf : GoodIn wsX6_about wsX4_outcomesOf := goodIn_r _ [35, 36, 37, 38, 34, 39, 40, 13, 14, 15, 47, 48, 49, 50, 51, 52] (by decide +kernel) (by decide +kernel)
set_option maxRecDepth 20000 in
theorem gX6_about_X4_outcomesOf : GoodIn wsX6_about (wsV RX6 95 RX4 yX4_outcomesOf wsX4_outcomesOf) := goodIn_app (goodIn_of _ (by decide +kernel)) ggX6_about_X4_outcomesOf
theorem dX6_about_0 : decode cX6_about 0 = .ok (.iload_n 1, 1) := by decide +kernel
theorem dX6_about_1 : decode cX6_about 1 = .ok (.tableswitch 155 0 7 #[47, 60, 73, 89, 102, 110, 137, 146], 47) := by decide +kernel
theorem dX6_about_48 : decode cX6_about 48 = .ok (.aload_n 0, 1) := by decide +kernel
theorem dX6_about_49 : decode cX6_about 49 = .ok (.getfield 12, 3) := by decide +kernel
theorem dX6_about_52 : decode cX6_about 52 = .ok (.getfield 72, 3) := by decide +kernel
theorem dX6_about_55 : decode cX6_about 55 = .ok (.bipush 16, 2) := by decide +kernel
theorem dX6_about_57 : decode cX6_about 57 = .ok (.invokevirtual 76, 3) := by decide +kernel
theorem dX6_about_60 : decode cX6_about 60 = .ok (.ireturn, 1) := by decide +kernel
theorem dX6_about_61 : decode cX6_about 61 = .ok (.aload_n 0, 1) := by decide +kernel
theorem dX6_about_62 : decode cX6_about 62 = .ok (.getfield 12, 3) := by decide +kernel
theorem dX6_about_65 : decode cX6_about 65 = .ok (.getfield 72, 3) := by decide +kernel
theorem dX6_about_68 : decode cX6_about 68 = .ok (.bipush 16, 2) := by decide +kernel
theorem dX6_about_70 : decode cX6_about 70 = .ok (.invokevirtual 82, 3) := by decide +kernel
theorem dX6_about_73 : decode cX6_about 73 = .ok (.ireturn, 1) := by decide +kernel
theorem dX6_about_74 : decode cX6_about 74 = .ok (.aload_n 0, 1) := by decide +kernel
theorem dX6_about_75 : decode cX6_about 75 = .ok (.getfield 12, 3) := by decide +kernel
theorem dX6_about_78 : decode cX6_about 78 = .ok (.getfield 85, 3) := by decide +kernel
theorem dX6_about_81 : decode cX6_about 81 = .ok (.ifCond .eq 7, 3) := by decide +kernel
theorem dX6_about_84 : decode cX6_about 84 = .ok (.iconst 1, 1) := by decide +kernel
theorem dX6_about_85 : decode cX6_about 85 = .ok (.goto 4, 3) := by decide +kernel
theorem dX6_about_88 : decode cX6_about 88 = .ok (.iconst 0, 1) := by decide +kernel
theorem dX6_about_89 : decode cX6_about 89 = .ok (.ireturn, 1) := by decide +kernel
theorem dX6_about_90 : decode cX6_about 90 = .ok (.aload_n 0, 1) := by decide +kernel
theorem dX6_about_91 : decode cX6_about 91 = .ok (.getfield 12, 3) := by decide +kernel
theorem dX6_about_94 : decode cX6_about 94 = .ok (.getfield 72, 3) := by decide +kernel
theorem dX6_about_97 : decode cX6_about 97 = .ok (.bipush 16, 2) := by decide +kernel
theorem dX6_about_99 : decode cX6_about 99 = .ok (.invokevirtual 89, 3) := by decide +kernel
theorem dX6_about_102 : decode cX6_about 102 = .ok (.ireturn, 1) := by decide +kernel
theorem dX6_about_103 : decode cX6_about 103 = .ok (.aload_n 0, 1) := by decide +kernel
theorem dX6_about_104 : decode cX6_about 104 = .ok (.getfield 12, 3) := by decide +kernel
theorem dX6_about_107 : decode cX6_about 107 = .ok (.getfield 92, 3) := by decide +kernel
theorem dX6_about_110 : decode cX6_about 110 = .ok (.ireturn, 1) := by decide +kernel
theorem dX6_about_111 : decode cX6_about 111 = .ok (.aload_n 0, 1) := by decide +kernel
theorem dX6_about_112 : decode cX6_about 112 = .ok (.getfield 12, 3) := by decide +kernel
theorem dX6_about_115 : decode cX6_about 115 = .ok (.iconst 0, 1) := by decide +kernel
theorem dX6_about_116 : decode cX6_about 116 = .ok (.invokevirtual 95, 3) := by decide +kernel
theorem dX6_about_119 : decode cX6_about 119 = .ok (.aload_n 0, 1) := by decide +kernel
theorem dX6_about_120 : decode cX6_about 120 = .ok (.getfield 12, 3) := by decide +kernel
theorem dX6_about_123 : decode cX6_about 123 = .ok (.iconst 1, 1) := by decide +kernel
theorem dX6_about_124 : decode cX6_about 124 = .ok (.invokevirtual 95, 3) := by decide +kernel
theorem dX6_about_127 : decode cX6_about 127 = .ok (.iadd, 1) := by decide +kernel
theorem dX6_about_128 : decode cX6_about 128 = .ok (.aload_n 0, 1) := by decide +kernel
theorem dX6_about_129 : decode cX6_about 129 = .ok (.getfield 12, 3) := by decide +kernel
theorem dX6_about_132 : decode cX6_about 132 = .ok (.iconst 2, 1) := by decide +kernel
theorem dX6_about_133 : decode cX6_about 133 = .ok (.invokevirtual 95, 3) := by decide +kernel
theorem dX6_about_136 : decode cX6_about 136 = .ok (.iadd, 1) := by decide +kernel
theorem dX6_about_137 : decode cX6_about 137 = .ok (.ireturn, 1) := by decide +kernel
theorem dX6_about_138 : decode cX6_about 138 = .ok (.aload_n 0, 1) := by decide +kernel
theorem dX6_about_139 : decode cX6_about 139 = .ok (.getfield 12, 3) := by decide +kernel
theorem dX6_about_142 : decode cX6_about 142 = .ok (.iconst 0, 1) := by decide +kernel
theorem dX6_about_143 : decode cX6_about 143 = .ok (.invokevirtual 95, 3) := by decide +kernel
theorem dX6_about_146 : decode cX6_about 146 = .ok (.ireturn, 1) := by decide +kernel
theorem dX6_about_147 : decode cX6_about 147 = .ok (.aload_n 0, 1) := by decide +kernel
theorem dX6_about_148 : decode cX6_about 148 = .ok (.getfield 12, 3) := by decide +kernel
theorem dX6_about_151 : decode cX6_about 151 = .ok (.iconst 1, 1) := by decide +kernel
theorem dX6_about_152 : decode cX6_about 152 = .ok (.invokevirtual 95, 3) := by decide +kernel
theorem dX6_about_155 : decode cX6_about 155 = .ok (.ireturn, 1) := by decide +kernel
theorem dX6_about_156 : decode cX6_about 156 = .ok (.new 49, 3) := by decide +kernel
theorem dX6_about_159 : decode cX6_about 159 = .ok (.dup, 1) := by decide +kernel
theorem dX6_about_160 : decode cX6_about 160 = .ok (.ldc 98, 2) := by decide +kernel
theorem dX6_about_162 : decode cX6_about 162 = .ok (.invokespecial 53, 3) := by decide +kernel
theorem dX6_about_165 : decode cX6_about 165 = .ok (.athrow, 1) := by decide +kernel
set_option maxRecDepth 20000 in
theorem ggX6_sign_X0_signAt : GoodIn wsX6_sign wsX0_signAt := goodIn_r _ [9, 10, 11, 12, 13, 14, 27, 28, 29, 30, 31] (by decide +kernel) (by decide +kernel)
set_option maxRecDepth 20000 in
theorem gX6_sign_X0_signAt : GoodIn wsX6_sign (wsV RX6 102 RX0 yX0_signAt wsX0_signAt) := goodIn_app (goodIn_of _ (by decide +kernel)) ggX6_sign_X0_signAt
theorem dX6_sign_0 : decode cX6_sign 0 = .ok (.iload_n 1, 1) := by decide +kernel
theorem dX6_sign_1 : decode cX6_sign 1 = .ok (.ifCond .ge 13, 3) := by decide +kernel
theorem dX6_sign_4 : decode cX6_sign 4 = .ok (.new 49, 3) := by decide +kernel
theorem dX6_sign_7 : decode cX6_sign 7 = .ok (.dup, 1) := by decide +kernel
theorem dX6_sign_8 : decode cX6_sign 8 = .ok (.ldc 100, 2) := by decide +kernel
theorem dX6_sign_10 : decode cX6_sign 10 = .ok (.invokespecial 53, 3) := by decide +kernel
theorem dX6_sign_13 : decode cX6_sign 13 = .ok (.athrow, 1) := by decide +kernel
theorem dX6_sign_14 : decode cX6_sign 14 = .ok (.aload_n 0, 1) := by decide +kernel
theorem dX6_sign_15 : decode cX6_sign 15 = .ok (.getfield 12, 3) := by decide +kernel
theorem dX6_sign_18 : decode cX6_sign 18 = .ok (.getfield 72, 3) := by decide +kernel
theorem dX6_sign_21 : decode cX6_sign 21 = .ok (.bipush 16, 2) := by decide +kernel
theorem dX6_sign_23 : decode cX6_sign 23 = .ok (.iload_n 1, 1) := by decide +kernel
theorem dX6_sign_24 : decode cX6_sign 24 = .ok (.invokevirtual 102, 3) := by decide +kernel
theorem dX6_sign_27 : decode cX6_sign 27 = .ok (.ireturn, 1) := by decide +kernel
set_option maxRecDepth 20000 in
theorem ggX6_sample_X4_hasSample : GoodIn wsX6_sample wsX4_hasSample := goodIn_r _ [11, 12, 48, 49, 50, 51, 52, 53] (by decide +kernel) (by decide +kernel)
set_option maxRecDepth 20000 in
theorem gX6_sample_X4_hasSample : GoodIn wsX6_sample (wsV RX6 106 RX4 yX4_hasSample wsX4_hasSample) := goodIn_app (goodIn_of _ (by decide +kernel)) ggX6_sample_X4_hasSample
set_option maxRecDepth 20000 in
theorem ggX6_sample_X4_nameOf : GoodIn wsX6_sample wsX4_nameOf := goodIn_r _ [16, 17, 18, 19, 20, 48, 49, 50, 51, 52, 53] (by decide +kernel) (by decide +kernel)
set_option maxRecDepth 20000 in
theorem gX6_sample_X4_nameOf : GoodIn wsX6_sample (wsV RX6 115 RX4 yX4_nameOf wsX4_nameOf) := goodIn_app (goodIn_of _ (by decide +kernel)) ggX6_sample_X4_nameOf
set_option maxRecDepth 20000 in
theorem ggX6_sample_X0_strokesOf : GoodIn wsX6_sample wsX0_strokesOf := goodIn_r _ [25, 26, 18, 19, 20, 54, 55, 56, 57, 58] (by decide +kernel) (by decide +kernel)
set_option maxRecDepth 20000 in
theorem gX6_sample_X0_strokesOf : GoodIn wsX6_sample (wsV RX6 76 RX0 yX0_strokesOf wsX0_strokesOf) := goodIn_app (goodIn_of _ (by decide +kernel)) ggX6_sample_X0_strokesOf
set_option maxRecDepth 20000 in
theorem ggX6_sample_X0_pointsOf : GoodIn wsX6_sample wsX0_pointsOf := goodIn_r _ [30, 31, 22, 23, 24, 25, 26, 18, 19, 20, 32, 33, 34, 35, 36, 54, 55, 56, 57, 58] (by decide +kernel) (by decide +kernel)
set_option maxRecDepth 20000 in
theorem gX6_sample_X0_pointsOf : GoodIn wsX6_sample (wsV RX6 82 RX0 yX0_pointsOf wsX0_pointsOf) := goodIn_app (goodIn_of _ (by decide +kernel)) ggX6_sample_X0_pointsOf
set_option maxRecDepth 20000 in
theorem ggX6_sample_X0_signsOf : GoodIn wsX6_sample wsX0_signsOf := goodIn_r _ [40, 41, 18, 19, 20, 54, 55, 56, 57, 58] (by decide +kernel) (by decide +kernel)
set_option maxRecDepth 20000 in
theorem gX6_sample_X0_signsOf : GoodIn wsX6_sample (wsV RX6 89 RX0 yX0_signsOf wsX0_signsOf) := goodIn_app (goodIn_of _ (by decide +kernel)) ggX6_sample_X0_signsOf
theorem dX6_sample_0 : decode cX6_sample 0 = .ok (.aload_n 0, 1) := by decide +kernel
theorem dX6_sample_1 : decode cX6_sample 1 = .ok (.getfield 12, 3) := by decide +kernel
theorem dX6_sample_4 : decode cX6_sample 4 = .ok (.iload_n 1, 1) := by decide +kernel
theorem dX6_sample_5 : decode cX6_sample 5 = .ok (.invokevirtual 106, 3) := by decide +kernel
theorem dX6_sample_8 : decode cX6_sample 8 = .ok (.ifCond .ne 13, 3) := by decide +kernel
theorem dX6_sample_11 : decode cX6_sample 11 = .ok (.new 110, 3) := by decide +kernel
theorem dX6_sample_14 : decode cX6_sample 14 = .ok (.dup, 1) := by decide +kernel
theorem dX6_sample_15 : decode cX6_sample 15 = .ok (.ldc 112, 2) := by decide +kernel
theorem dX6_sample_17 : decode cX6_sample 17 = .ok (.invokespecial 114, 3) := by decide +kernel
theorem dX6_sample_20 : decode cX6_sample 20 = .ok (.athrow, 1) := by decide +kernel
theorem dX6_sample_21 : decode cX6_sample 21 = .ok (.iload_n 2, 1) := by decide +kernel
theorem dX6_sample_22 : decode cX6_sample 22 = .ok (.tableswitch 75 0 3 #[30, 39, 51, 63], 30) := by decide +kernel
theorem dX6_sample_52 : decode cX6_sample 52 = .ok (.aload_n 0, 1) := by decide +kernel
theorem dX6_sample_53 : decode cX6_sample 53 = .ok (.getfield 12, 3) := by decide +kernel
theorem dX6_sample_56 : decode cX6_sample 56 = .ok (.iload_n 1, 1) := by decide +kernel
theorem dX6_sample_57 : decode cX6_sample 57 = .ok (.invokevirtual 115, 3) := by decide +kernel
theorem dX6_sample_60 : decode cX6_sample 60 = .ok (.ireturn, 1) := by decide +kernel
theorem dX6_sample_61 : decode cX6_sample 61 = .ok (.aload_n 0, 1) := by decide +kernel
theorem dX6_sample_62 : decode cX6_sample 62 = .ok (.getfield 12, 3) := by decide +kernel
theorem dX6_sample_65 : decode cX6_sample 65 = .ok (.getfield 72, 3) := by decide +kernel
theorem dX6_sample_68 : decode cX6_sample 68 = .ok (.iload_n 1, 1) := by decide +kernel
theorem dX6_sample_69 : decode cX6_sample 69 = .ok (.invokevirtual 76, 3) := by decide +kernel
theorem dX6_sample_72 : decode cX6_sample 72 = .ok (.ireturn, 1) := by decide +kernel
theorem dX6_sample_73 : decode cX6_sample 73 = .ok (.aload_n 0, 1) := by decide +kernel
theorem dX6_sample_74 : decode cX6_sample 74 = .ok (.getfield 12, 3) := by decide +kernel
theorem dX6_sample_77 : decode cX6_sample 77 = .ok (.getfield 72, 3) := by decide +kernel
theorem dX6_sample_80 : decode cX6_sample 80 = .ok (.iload_n 1, 1) := by decide +kernel
theorem dX6_sample_81 : decode cX6_sample 81 = .ok (.invokevirtual 82, 3) := by decide +kernel
theorem dX6_sample_84 : decode cX6_sample 84 = .ok (.ireturn, 1) := by decide +kernel
theorem dX6_sample_85 : decode cX6_sample 85 = .ok (.aload_n 0, 1) := by decide +kernel
theorem dX6_sample_86 : decode cX6_sample 86 = .ok (.getfield 12, 3) := by decide +kernel
theorem dX6_sample_89 : decode cX6_sample 89 = .ok (.getfield 72, 3) := by decide +kernel
theorem dX6_sample_92 : decode cX6_sample 92 = .ok (.iload_n 1, 1) := by decide +kernel
theorem dX6_sample_93 : decode cX6_sample 93 = .ok (.invokevirtual 89, 3) := by decide +kernel
theorem dX6_sample_96 : decode cX6_sample 96 = .ok (.ireturn, 1) := by decide +kernel
theorem dX6_sample_97 : decode cX6_sample 97 = .ok (.new 49, 3) := by decide +kernel
theorem dX6_sample_100 : decode cX6_sample 100 = .ok (.dup, 1) := by decide +kernel
theorem dX6_sample_101 : decode cX6_sample 101 = .ok (.ldc 118, 2) := by decide +kernel
theorem dX6_sample_103 : decode cX6_sample 103 = .ok (.invokespecial 53, 3) := by decide +kernel
theorem dX6_sample_106 : decode cX6_sample 106 = .ok (.athrow, 1) := by decide +kernel
set_option maxRecDepth 20000 in
theorem ggX6_signOf_X4_hasSample : GoodIn wsX6_signOf wsX4_hasSample := goodIn_r _ [11, 12, 29, 30, 31, 32, 33, 34] (by decide +kernel) (by decide +kernel)
set_option maxRecDepth 20000 in
theorem gX6_signOf_X4_hasSample : GoodIn wsX6_signOf (wsV RX6 106 RX4 yX4_hasSample wsX4_hasSample) := goodIn_app (goodIn_of _ (by decide +kernel)) ggX6_signOf_X4_hasSample
set_option maxRecDepth 20000 in
theorem ggX6_signOf_X0_signAt : GoodIn wsX6_signOf wsX0_signAt := goodIn_r _ [17, 18, 19, 20, 21, 22, 35, 36, 37, 38, 39] (by decide +kernel) (by decide +kernel)
set_option maxRecDepth 20000 in
theorem gX6_signOf_X0_signAt : GoodIn wsX6_signOf (wsV RX6 102 RX0 yX0_signAt wsX0_signAt) := goodIn_app (goodIn_of _ (by decide +kernel)) ggX6_signOf_X0_signAt
theorem dX6_signOf_0 : decode cX6_signOf 0 = .ok (.aload_n 0, 1) := by decide +kernel
theorem dX6_signOf_1 : decode cX6_signOf 1 = .ok (.getfield 12, 3) := by decide +kernel
theorem dX6_signOf_4 : decode cX6_signOf 4 = .ok (.iload_n 1, 1) := by decide +kernel
theorem dX6_signOf_5 : decode cX6_signOf 5 = .ok (.invokevirtual 106, 3) := by decide +kernel
theorem dX6_signOf_8 : decode cX6_signOf 8 = .ok (.ifCond .ne 13, 3) := by decide +kernel
theorem dX6_signOf_11 : decode cX6_signOf 11 = .ok (.new 110, 3) := by decide +kernel
theorem dX6_signOf_14 : decode cX6_signOf 14 = .ok (.dup, 1) := by decide +kernel
theorem dX6_signOf_15 : decode cX6_signOf 15 = .ok (.ldc 112, 2) := by decide +kernel
theorem dX6_signOf_17 : decode cX6_signOf 17 = .ok (.invokespecial 114, 3) := by decide +kernel
theorem dX6_signOf_20 : decode cX6_signOf 20 = .ok (.athrow, 1) := by decide +kernel
theorem dX6_signOf_21 : decode cX6_signOf 21 = .ok (.iload_n 2, 1) := by decide +kernel
theorem dX6_signOf_22 : decode cX6_signOf 22 = .ok (.ifCond .ge 13, 3) := by decide +kernel
theorem dX6_signOf_25 : decode cX6_signOf 25 = .ok (.new 49, 3) := by decide +kernel
theorem dX6_signOf_28 : decode cX6_signOf 28 = .ok (.dup, 1) := by decide +kernel
theorem dX6_signOf_29 : decode cX6_signOf 29 = .ok (.ldc 100, 2) := by decide +kernel
theorem dX6_signOf_31 : decode cX6_signOf 31 = .ok (.invokespecial 53, 3) := by decide +kernel
theorem dX6_signOf_34 : decode cX6_signOf 34 = .ok (.athrow, 1) := by decide +kernel
theorem dX6_signOf_35 : decode cX6_signOf 35 = .ok (.aload_n 0, 1) := by decide +kernel
theorem dX6_signOf_36 : decode cX6_signOf 36 = .ok (.getfield 12, 3) := by decide +kernel
theorem dX6_signOf_39 : decode cX6_signOf 39 = .ok (.getfield 72, 3) := by decide +kernel
theorem dX6_signOf_42 : decode cX6_signOf 42 = .ok (.iload_n 1, 1) := by decide +kernel
theorem dX6_signOf_43 : decode cX6_signOf 43 = .ok (.iload_n 2, 1) := by decide +kernel
theorem dX6_signOf_44 : decode cX6_signOf 44 = .ok (.invokevirtual 102, 3) := by decide +kernel
theorem dX6_signOf_47 : decode cX6_signOf 47 = .ok (.ireturn, 1) := by decide +kernel
set_option maxRecDepth 20000 in
theorem ggX6_practised_X6_isName : GoodIn wsX6_practised wsX6_isName := goodIn_r _ [7] (by decide +kernel) (by decide +kernel)
set_option maxRecDepth 20000 in
theorem gX6_practised_X6_isName : GoodIn wsX6_practised (va_wsS RX6 120 yX6_isName wsX6_isName) := goodIn_app (goodIn_of _ (by decide +kernel)) ggX6_practised_X6_isName
set_option maxRecDepth 20000 in
theorem ggX6_practised_X4_outcomeOf : GoodIn wsX6_practised wsX4_outcomeOf := goodIn_r _ [12, 13, 14, 6, 15, 22, 23, 24, 25, 26, 27] (by decide +kernel) (by decide +kernel)
set_option maxRecDepth 20000 in
theorem gX6_practised_X4_outcomeOf : GoodIn wsX6_practised (wsV RX6 127 RX4 yX4_outcomeOf wsX4_outcomeOf) := goodIn_app (goodIn_of _ (by decide +kernel)) ggX6_practised_X4_outcomeOf
theorem dX6_practised_0 : decode cX6_practised 0 = .ok (.iload_n 1, 1) := by decide +kernel
theorem dX6_practised_1 : decode cX6_practised 1 = .ok (.invokestatic 120, 3) := by decide +kernel
theorem dX6_practised_4 : decode cX6_practised 4 = .ok (.ifCond .ne 13, 3) := by decide +kernel
theorem dX6_practised_7 : decode cX6_practised 7 = .ok (.new 49, 3) := by decide +kernel
theorem dX6_practised_10 : decode cX6_practised 10 = .ok (.dup, 1) := by decide +kernel
theorem dX6_practised_11 : decode cX6_practised 11 = .ok (.ldc 123, 2) := by decide +kernel
theorem dX6_practised_13 : decode cX6_practised 13 = .ok (.invokespecial 53, 3) := by decide +kernel
theorem dX6_practised_16 : decode cX6_practised 16 = .ok (.athrow, 1) := by decide +kernel
theorem dX6_practised_17 : decode cX6_practised 17 = .ok (.iload_n 2, 1) := by decide +kernel
theorem dX6_practised_18 : decode cX6_practised 18 = .ok (.ifCond .lt 8, 3) := by decide +kernel
theorem dX6_practised_21 : decode cX6_practised 21 = .ok (.iload_n 2, 1) := by decide +kernel
theorem dX6_practised_22 : decode cX6_practised 22 = .ok (.iconst 3, 1) := by decide +kernel
theorem dX6_practised_23 : decode cX6_practised 23 = .ok (.if_icmp .lt 13, 3) := by decide +kernel
theorem dX6_practised_26 : decode cX6_practised 26 = .ok (.new 49, 3) := by decide +kernel
theorem dX6_practised_29 : decode cX6_practised 29 = .ok (.dup, 1) := by decide +kernel
theorem dX6_practised_30 : decode cX6_practised 30 = .ok (.ldc 125, 2) := by decide +kernel
theorem dX6_practised_32 : decode cX6_practised 32 = .ok (.invokespecial 53, 3) := by decide +kernel
theorem dX6_practised_35 : decode cX6_practised 35 = .ok (.athrow, 1) := by decide +kernel
theorem dX6_practised_36 : decode cX6_practised 36 = .ok (.aload_n 0, 1) := by decide +kernel
theorem dX6_practised_37 : decode cX6_practised 37 = .ok (.getfield 12, 3) := by decide +kernel
theorem dX6_practised_40 : decode cX6_practised 40 = .ok (.iload_n 1, 1) := by decide +kernel
theorem dX6_practised_41 : decode cX6_practised 41 = .ok (.iload_n 2, 1) := by decide +kernel
theorem dX6_practised_42 : decode cX6_practised 42 = .ok (.invokevirtual 127, 3) := by decide +kernel
theorem dX6_practised_45 : decode cX6_practised 45 = .ok (.ireturn, 1) := by decide +kernel
set_option maxRecDepth 20000 in
theorem ggX6_setting_X4_settingOf : GoodIn wsX6_setting wsX4_settingOf := goodIn_r _ [8, 9, 10, 11, 12, 19, 20, 21, 22, 23, 24] (by decide +kernel) (by decide +kernel)
set_option maxRecDepth 20000 in
theorem gX6_setting_X4_settingOf : GoodIn wsX6_setting (wsV RX6 130 RX4 yX4_settingOf wsX4_settingOf) := goodIn_app (goodIn_of _ (by decide +kernel)) ggX6_setting_X4_settingOf
theorem dX6_setting_0 : decode cX6_setting 0 = .ok (.iload_n 1, 1) := by decide +kernel
theorem dX6_setting_1 : decode cX6_setting 1 = .ok (.ifCond .lt 8, 3) := by decide +kernel
theorem dX6_setting_4 : decode cX6_setting 4 = .ok (.iload_n 1, 1) := by decide +kernel
theorem dX6_setting_5 : decode cX6_setting 5 = .ok (.iconst 3, 1) := by decide +kernel
theorem dX6_setting_6 : decode cX6_setting 6 = .ok (.if_icmp .lt 13, 3) := by decide +kernel
theorem dX6_setting_9 : decode cX6_setting 9 = .ok (.new 49, 3) := by decide +kernel
theorem dX6_setting_12 : decode cX6_setting 12 = .ok (.dup, 1) := by decide +kernel
theorem dX6_setting_13 : decode cX6_setting 13 = .ok (.ldc 125, 2) := by decide +kernel
theorem dX6_setting_15 : decode cX6_setting 15 = .ok (.invokespecial 53, 3) := by decide +kernel
theorem dX6_setting_18 : decode cX6_setting 18 = .ok (.athrow, 1) := by decide +kernel
theorem dX6_setting_19 : decode cX6_setting 19 = .ok (.aload_n 0, 1) := by decide +kernel
theorem dX6_setting_20 : decode cX6_setting 20 = .ok (.getfield 12, 3) := by decide +kernel
theorem dX6_setting_23 : decode cX6_setting 23 = .ok (.iload_n 1, 1) := by decide +kernel
theorem dX6_setting_24 : decode cX6_setting 24 = .ok (.invokevirtual 130, 3) := by decide +kernel
theorem dX6_setting_27 : decode cX6_setting 27 = .ok (.ireturn, 1) := by decide +kernel
set_option maxRecDepth 20000 in
theorem ggX6_point_X6_isOnGrid : GoodIn wsX6_point wsX6_isOnGrid := goodIn_r _ [11] (by decide +kernel) (by decide +kernel)
set_option maxRecDepth 20000 in
theorem gX6_point_X6_isOnGrid : GoodIn wsX6_point (va_wsS RX6 133 yX6_isOnGrid wsX6_isOnGrid) := goodIn_app (goodIn_of _ (by decide +kernel)) ggX6_point_X6_isOnGrid
set_option maxRecDepth 20000 in
theorem ggX6_point_X1_prepare : GoodIn wsX6_point wsX1_prepare := goodIn_r _ [16, 17, 18, 19, 20, 21, 22, 23, 24, 25, 26, 27, 28, 29, 30, 31, 32, 33, 34, 35, 36, 37, 38, 39, 40, 41, 42, 43, 44, 45, 46, 47, 48, 49, 50, 51, 52, 53, 54, 55, 56, 57, 58, 59, 10, 60, 61, 62, 63, 64, 65, 66, 67, 68, 148, 149, 150, 151, 142, 143, 144, 145, 146, 147, 152, 153, 154, 155, 156] (by decide +kernel) (by decide +kernel)
set_option maxRecDepth 20000 in
theorem gX6_point_X1_prepare : GoodIn wsX6_point (wsV RX6 138 RX1 yX1_prepare wsX1_prepare) := goodIn_app (goodIn_of _ (by decide +kernel)) ggX6_point_X1_prepare
set_option maxRecDepth 20000 in
theorem ggX6_point_X4_addPoint : GoodIn wsX6_point wsX4_addPoint := goodIn_r _ [72, 54, 36, 9, 10, 11, 73, 74, 75, 27, 76, 39, 77, 78, 79, 80, 81, 35, 82, 45, 83, 84, 85, 86, 44, 87, 88, 89, 90, 91, 92, 93, 94, 46, 95, 96, 97, 98, 47, 99, 100, 101, 102, 103, 104, 105, 106, 63, 107, 108, 109, 110, 111, 112, 113, 114, 115, 116, 117, 118, 119, 120, 121, 122, 123, 124, 48, 125, 126, 127, 128, 142, 143, 144, 145, 146, 147, 152, 153, 154, 155, 156] (by decide +kernel) (by decide +kernel)
set_option maxRecDepth 20000 in
theorem gX6_point_X4_addPoint : GoodIn wsX6_point (wsV RX6 142 RX4 yX4_addPoint wsX4_addPoint) := goodIn_app (goodIn_of _ (by decide +kernel)) ggX6_point_X4_addPoint
set_option maxRecDepth 20000 in
theorem ggX6_point_X1_commit : GoodIn wsX6_point wsX1_commit := goodIn_r _ [132, 18, 133, 134, 62, 63, 64, 148, 149, 150] (by decide +kernel) (by decide +kernel)
set_option maxRecDepth 20000 in
theorem gX6_point_X1_commit : GoodIn wsX6_point (wsV RX6 148 RX1 yX1_commit wsX1_commit) := goodIn_app (goodIn_of _ (by decide +kernel)) ggX6_point_X1_commit
set_option maxRecDepth 20000 in
theorem ggX6_point_X0_signsOf : GoodIn wsX6_point wsX0_signsOf := goodIn_r _ [98, 47, 77, 10, 78, 152, 153, 154, 155, 156] (by decide +kernel) (by decide +kernel)
set_option maxRecDepth 20000 in
theorem gX6_point_X0_signsOf : GoodIn wsX6_point (wsV RX6 89 RX0 yX0_signsOf wsX0_signsOf) := goodIn_app (goodIn_of _ (by decide +kernel)) ggX6_point_X0_signsOf
theorem dX6_point_0 : decode cX6_point 0 = .ok (.iload_n 1, 1) := by decide +kernel
theorem dX6_point_1 : decode cX6_point 1 = .ok (.invokestatic 133, 3) := by decide +kernel
theorem dX6_point_4 : decode cX6_point 4 = .ok (.ifCond .eq 10, 3) := by decide +kernel
theorem dX6_point_7 : decode cX6_point 7 = .ok (.iload_n 2, 1) := by decide +kernel
theorem dX6_point_8 : decode cX6_point 8 = .ok (.invokestatic 133, 3) := by decide +kernel
theorem dX6_point_11 : decode cX6_point 11 = .ok (.ifCond .ne 13, 3) := by decide +kernel
theorem dX6_point_14 : decode cX6_point 14 = .ok (.new 49, 3) := by decide +kernel
theorem dX6_point_17 : decode cX6_point 17 = .ok (.dup, 1) := by decide +kernel
theorem dX6_point_18 : decode cX6_point 18 = .ok (.ldc 136, 2) := by decide +kernel
theorem dX6_point_20 : decode cX6_point 20 = .ok (.invokespecial 53, 3) := by decide +kernel
theorem dX6_point_23 : decode cX6_point 23 = .ok (.athrow, 1) := by decide +kernel
theorem dX6_point_24 : decode cX6_point 24 = .ok (.aload_n 0, 1) := by decide +kernel
theorem dX6_point_25 : decode cX6_point 25 = .ok (.getfield 36, 3) := by decide +kernel
theorem dX6_point_28 : decode cX6_point 28 = .ok (.aload_n 0, 1) := by decide +kernel
theorem dX6_point_29 : decode cX6_point 29 = .ok (.getfield 12, 3) := by decide +kernel
theorem dX6_point_32 : decode cX6_point 32 = .ok (.invokevirtual 138, 3) := by decide +kernel
theorem dX6_point_35 : decode cX6_point 35 = .ok (.aload_n 0, 1) := by decide +kernel
theorem dX6_point_36 : decode cX6_point 36 = .ok (.getfield 12, 3) := by decide +kernel
theorem dX6_point_39 : decode cX6_point 39 = .ok (.iload_n 1, 1) := by decide +kernel
theorem dX6_point_40 : decode cX6_point 40 = .ok (.iload_n 2, 1) := by decide +kernel
theorem dX6_point_41 : decode cX6_point 41 = .ok (.invokevirtual 142, 3) := by decide +kernel
theorem dX6_point_44 : decode cX6_point 44 = .ok (.ifCond .ne 13, 3) := by decide +kernel
theorem dX6_point_47 : decode cX6_point 47 = .ok (.new 60, 3) := by decide +kernel
theorem dX6_point_50 : decode cX6_point 50 = .ok (.dup, 1) := by decide +kernel
theorem dX6_point_51 : decode cX6_point 51 = .ok (.ldc 146, 2) := by decide +kernel
theorem dX6_point_53 : decode cX6_point 53 = .ok (.invokespecial 64, 3) := by decide +kernel
theorem dX6_point_56 : decode cX6_point 56 = .ok (.athrow, 1) := by decide +kernel
theorem dX6_point_57 : decode cX6_point 57 = .ok (.aload_n 0, 1) := by decide +kernel
theorem dX6_point_58 : decode cX6_point 58 = .ok (.getfield 36, 3) := by decide +kernel
theorem dX6_point_61 : decode cX6_point 61 = .ok (.invokevirtual 148, 3) := by decide +kernel
theorem dX6_point_64 : decode cX6_point 64 = .ok (.aload_n 0, 1) := by decide +kernel
theorem dX6_point_65 : decode cX6_point 65 = .ok (.getfield 12, 3) := by decide +kernel
theorem dX6_point_68 : decode cX6_point 68 = .ok (.getfield 72, 3) := by decide +kernel
theorem dX6_point_71 : decode cX6_point 71 = .ok (.bipush 16, 2) := by decide +kernel
theorem dX6_point_73 : decode cX6_point 73 = .ok (.invokevirtual 89, 3) := by decide +kernel
theorem dX6_point_76 : decode cX6_point 76 = .ok (.ireturn, 1) := by decide +kernel
set_option maxRecDepth 20000 in
theorem ggX6_lift_X1_remember : GoodIn wsX6_lift wsX1_remember := goodIn_r _ [8, 9, 10, 11, 7, 12, 13, 14, 15, 16, 17, 18, 19, 20, 21, 22, 23, 24, 25, 26, 27, 28, 29, 30, 31, 32, 33, 34, 35, 36, 37, 38, 39, 40, 41, 42, 43, 44, 45, 46, 47, 48, 49, 50, 51, 52, 53, 54, 55, 56, 57, 58, 59, 60, 61, 62, 63, 64, 65, 66, 67, 68, 69, 70, 71, 94, 95, 96, 97, 88, 89, 90, 91, 92, 93, 98, 99, 100, 101, 102] (by decide +kernel) (by decide +kernel)
set_option maxRecDepth 20000 in
theorem gX6_lift_X1_remember : GoodIn wsX6_lift (wsV RX6 151 RX1 yX1_remember wsX1_remember) := goodIn_app (goodIn_of _ (by decide +kernel)) ggX6_lift_X1_remember
set_option maxRecDepth 20000 in
theorem ggX6_lift_X4_liftPen : GoodIn wsX6_lift wsX4_liftPen := goodIn_r _ [75, 50, 88, 89, 90, 91, 92, 93] (by decide +kernel) (by decide +kernel)
set_option maxRecDepth 20000 in
theorem gX6_lift_X4_liftPen : GoodIn wsX6_lift (wsV RX6 154 RX4 yX4_liftPen wsX4_liftPen) := goodIn_app (goodIn_of _ (by decide +kernel)) ggX6_lift_X4_liftPen
set_option maxRecDepth 20000 in
theorem ggX6_lift_X0_strokesOf : GoodIn wsX6_lift wsX0_strokesOf := goodIn_r _ [79, 40, 80, 56, 81, 98, 99, 100, 101, 102] (by decide +kernel) (by decide +kernel)
set_option maxRecDepth 20000 in
theorem gX6_lift_X0_strokesOf : GoodIn wsX6_lift (wsV RX6 76 RX0 yX0_strokesOf wsX0_strokesOf) := goodIn_app (goodIn_of _ (by decide +kernel)) ggX6_lift_X0_strokesOf
theorem dX6_lift_0 : decode cX6_lift 0 = .ok (.aload_n 0, 1) := by decide +kernel
theorem dX6_lift_1 : decode cX6_lift 1 = .ok (.getfield 36, 3) := by decide +kernel
theorem dX6_lift_4 : decode cX6_lift 4 = .ok (.aload_n 0, 1) := by decide +kernel
theorem dX6_lift_5 : decode cX6_lift 5 = .ok (.getfield 12, 3) := by decide +kernel
theorem dX6_lift_8 : decode cX6_lift 8 = .ok (.invokevirtual 151, 3) := by decide +kernel
theorem dX6_lift_11 : decode cX6_lift 11 = .ok (.aload_n 0, 1) := by decide +kernel
theorem dX6_lift_12 : decode cX6_lift 12 = .ok (.getfield 12, 3) := by decide +kernel
theorem dX6_lift_15 : decode cX6_lift 15 = .ok (.invokevirtual 154, 3) := by decide +kernel
theorem dX6_lift_18 : decode cX6_lift 18 = .ok (.aload_n 0, 1) := by decide +kernel
theorem dX6_lift_19 : decode cX6_lift 19 = .ok (.getfield 12, 3) := by decide +kernel
theorem dX6_lift_22 : decode cX6_lift 22 = .ok (.getfield 72, 3) := by decide +kernel
theorem dX6_lift_25 : decode cX6_lift 25 = .ok (.bipush 16, 2) := by decide +kernel
theorem dX6_lift_27 : decode cX6_lift 27 = .ok (.invokevirtual 76, 3) := by decide +kernel
theorem dX6_lift_30 : decode cX6_lift 30 = .ok (.ireturn, 1) := by decide +kernel
set_option maxRecDepth 20000 in
theorem ggX6_draw_X5_firstError : GoodIn wsX6_draw wsX5_firstError := goodIn_r _ [12, 13, 14, 15, 16, 17, 18, 19, 11, 20, 178, 179] (by decide +kernel) (by decide +kernel)
set_option maxRecDepth 20000 in
theorem gX6_draw_X5_firstError : GoodIn wsX6_draw (wsV RX6 68 RX5 yX5_firstError wsX5_firstError) := goodIn_app (goodIn_of _ (by decide +kernel)) ggX6_draw_X5_firstError
set_option maxRecDepth 20000 in
theorem ggX6_draw_X4_copyFrom : GoodIn wsX6_draw wsX4_copyFrom := goodIn_r _ [25, 26, 27, 28, 29, 30, 31, 32, 33, 34, 35, 36, 37, 38, 39, 40, 41, 42, 16, 43, 44, 45, 46, 47, 48, 49, 50, 51, 172, 173, 174, 175, 176, 177, 180, 181, 182, 183, 184] (by decide +kernel) (by decide +kernel)
set_option maxRecDepth 20000 in
theorem gX6_draw_X4_copyFrom : GoodIn wsX6_draw (wsV RX6 159 RX4 yX4_copyFrom wsX4_copyFrom) := goodIn_app (goodIn_of _ (by decide +kernel)) ggX6_draw_X4_copyFrom
set_option maxRecDepth 20000 in
theorem ggX6_draw_X4_clearHand : GoodIn wsX6_draw wsX4_clearHand := goodIn_r _ [55, 26, 31, 56, 57, 58, 35, 59, 37, 40, 60, 16, 61, 172, 173, 174, 175, 176, 177, 180, 181, 182, 183, 184] (by decide +kernel) (by decide +kernel)
set_option maxRecDepth 20000 in
theorem gX6_draw_X4_clearHand : GoodIn wsX6_draw (wsV RX6 162 RX4 yX4_clearHand wsX4_clearHand) := goodIn_app (goodIn_of _ (by decide +kernel)) ggX6_draw_X4_clearHand
set_option maxRecDepth 20000 in
theorem ggX6_draw_X5_drawOn : GoodIn wsX6_draw wsX5_drawOn := goodIn_r _ [65, 13, 14, 15, 16, 17, 66, 67, 68, 24, 69, 31, 26, 70, 71, 72, 73, 74, 75, 28, 76, 77, 78, 35, 79, 38, 80, 81, 82, 83, 37, 84, 85, 86, 87, 88, 89, 90, 91, 39, 92, 93, 94, 95, 40, 96, 97, 98, 99, 100, 101, 102, 103, 46, 104, 60, 61, 105, 106, 107, 108, 109, 110, 111, 112, 113, 114, 115, 116, 117, 118, 119, 41, 120, 121, 122, 123, 124, 125, 126, 127, 178, 179, 172, 173, 174, 175, 176, 177, 180, 181, 182, 183, 184] (by decide +kernel) (by decide +kernel)
set_option maxRecDepth 20000 in
theorem gX6_draw_X5_drawOn : GoodIn wsX6_draw (wsV RX6 165 RX5 yX5_drawOn wsX5_drawOn) := goodIn_app (goodIn_of _ (by decide +kernel)) ggX6_draw_X5_drawOn
set_option maxRecDepth 20000 in
theorem ggX6_draw_X1_remember : GoodIn wsX6_draw wsX1_remember := goodIn_r _ [132, 133, 134, 135, 131, 136, 137, 138, 139, 140, 141, 142, 143, 144, 145, 146, 24, 147, 148, 149, 150, 151, 152, 153, 35, 26, 154, 27, 28, 29, 155, 156, 157, 37, 38, 39, 40, 41, 158, 22, 23, 25, 30, 31, 32, 33, 34, 36, 42, 16, 43, 44, 45, 46, 47, 48, 49, 50, 51, 159, 160, 161, 162, 163, 164, 185, 186, 187, 188, 172, 173, 174, 175, 176, 177, 180, 181, 182, 183, 184] (by decide +kernel) (by decide +kernel)
set_option maxRecDepth 20000 in
theorem gX6_draw_X1_remember : GoodIn wsX6_draw (wsV RX6 151 RX1 yX1_remember wsX1_remember) := goodIn_app (goodIn_of _ (by decide +kernel)) ggX6_draw_X1_remember
set_option maxRecDepth 20000 in
theorem ggX6_draw_X0_signsOf : GoodIn wsX6_draw wsX0_signsOf := goodIn_r _ [95, 40, 15, 16, 17, 180, 181, 182, 183, 184] (by decide +kernel) (by decide +kernel)
set_option maxRecDepth 20000 in
theorem gX6_draw_X0_signsOf : GoodIn wsX6_draw (wsV RX6 89 RX0 yX0_signsOf wsX0_signsOf) := goodIn_app (goodIn_of _ (by decide +kernel)) ggX6_draw_X0_signsOf
theorem dX6_draw_0 : decode cX6_draw 0 = .ok (.aload_n 0, 1) := by decide +kernel
theorem dX6_draw_1 : decode cX6_draw 1 = .ok (.getfield 29, 3) := by decide +kernel
theorem dX6_draw_4 : decode cX6_draw 4 = .ok (.invokevirtual 68, 3) := by decide +kernel
theorem dX6_draw_7 : decode cX6_draw 7 = .ok (.iconst (-1), 1) := by decide +kernel
theorem dX6_draw_8 : decode cX6_draw 8 = .ok (.if_icmp .eq 13, 3) := by decide +kernel
theorem dX6_draw_11 : decode cX6_draw 11 = .ok (.new 60, 3) := by decide +kernel
theorem dX6_draw_14 : decode cX6_draw 14 = .ok (.dup, 1) := by decide +kernel
theorem dX6_draw_15 : decode cX6_draw 15 = .ok (.ldc 157, 2) := by decide +kernel
theorem dX6_draw_17 : decode cX6_draw 17 = .ok (.invokespecial 64, 3) := by decide +kernel
theorem dX6_draw_20 : decode cX6_draw 20 = .ok (.athrow, 1) := by decide +kernel
theorem dX6_draw_21 : decode cX6_draw 21 = .ok (.aload_n 0, 1) := by decide +kernel
theorem dX6_draw_22 : decode cX6_draw 22 = .ok (.getfield 16, 3) := by decide +kernel
theorem dX6_draw_25 : decode cX6_draw 25 = .ok (.aload_n 0, 1) := by decide +kernel
theorem dX6_draw_26 : decode cX6_draw 26 = .ok (.getfield 12, 3) := by decide +kernel
theorem dX6_draw_29 : decode cX6_draw 29 = .ok (.invokevirtual 159, 3) := by decide +kernel
theorem dX6_draw_32 : decode cX6_draw 32 = .ok (.aload_n 0, 1) := by decide +kernel
theorem dX6_draw_33 : decode cX6_draw 33 = .ok (.getfield 16, 3) := by decide +kernel
theorem dX6_draw_36 : decode cX6_draw 36 = .ok (.invokevirtual 162, 3) := by decide +kernel
theorem dX6_draw_39 : decode cX6_draw 39 = .ok (.aload_n 0, 1) := by decide +kernel
theorem dX6_draw_40 : decode cX6_draw 40 = .ok (.getfield 29, 3) := by decide +kernel
theorem dX6_draw_43 : decode cX6_draw 43 = .ok (.aload_n 0, 1) := by decide +kernel
theorem dX6_draw_44 : decode cX6_draw 44 = .ok (.getfield 16, 3) := by decide +kernel
theorem dX6_draw_47 : decode cX6_draw 47 = .ok (.invokevirtual 165, 3) := by decide +kernel
theorem dX6_draw_50 : decode cX6_draw 50 = .ok (.ifCond .ne 13, 3) := by decide +kernel
theorem dX6_draw_53 : decode cX6_draw 53 = .ok (.new 60, 3) := by decide +kernel
theorem dX6_draw_56 : decode cX6_draw 56 = .ok (.dup, 1) := by decide +kernel
theorem dX6_draw_57 : decode cX6_draw 57 = .ok (.ldc 169, 2) := by decide +kernel
theorem dX6_draw_59 : decode cX6_draw 59 = .ok (.invokespecial 64, 3) := by decide +kernel
theorem dX6_draw_62 : decode cX6_draw 62 = .ok (.athrow, 1) := by decide +kernel
theorem dX6_draw_63 : decode cX6_draw 63 = .ok (.aload_n 0, 1) := by decide +kernel
theorem dX6_draw_64 : decode cX6_draw 64 = .ok (.getfield 36, 3) := by decide +kernel
theorem dX6_draw_67 : decode cX6_draw 67 = .ok (.aload_n 0, 1) := by decide +kernel
theorem dX6_draw_68 : decode cX6_draw 68 = .ok (.getfield 12, 3) := by decide +kernel
theorem dX6_draw_71 : decode cX6_draw 71 = .ok (.invokevirtual 151, 3) := by decide +kernel
theorem dX6_draw_74 : decode cX6_draw 74 = .ok (.aload_n 0, 1) := by decide +kernel
theorem dX6_draw_75 : decode cX6_draw 75 = .ok (.getfield 12, 3) := by decide +kernel
theorem dX6_draw_78 : decode cX6_draw 78 = .ok (.aload_n 0, 1) := by decide +kernel
theorem dX6_draw_79 : decode cX6_draw 79 = .ok (.getfield 16, 3) := by decide +kernel
theorem dX6_draw_82 : decode cX6_draw 82 = .ok (.invokevirtual 159, 3) := by decide +kernel
theorem dX6_draw_85 : decode cX6_draw 85 = .ok (.aload_n 0, 1) := by decide +kernel
theorem dX6_draw_86 : decode cX6_draw 86 = .ok (.getfield 12, 3) := by decide +kernel
theorem dX6_draw_89 : decode cX6_draw 89 = .ok (.getfield 72, 3) := by decide +kernel
theorem dX6_draw_92 : decode cX6_draw 92 = .ok (.bipush 16, 2) := by decide +kernel
theorem dX6_draw_94 : decode cX6_draw 94 = .ok (.invokevirtual 89, 3) := by decide +kernel
theorem dX6_draw_97 : decode cX6_draw 97 = .ok (.ireturn, 1) := by decide +kernel
set_option maxRecDepth 20000 in
theorem ggX6_learn_X6_isName : GoodIn wsX6_learn wsX6_isName := goodIn_r _ [11] (by decide +kernel) (by decide +kernel)
set_option maxRecDepth 20000 in
theorem gX6_learn_X6_isName : GoodIn wsX6_learn (va_wsS RX6 120 yX6_isName wsX6_isName) := goodIn_app (goodIn_of _ (by decide +kernel)) ggX6_learn_X6_isName
set_option maxRecDepth 20000 in
theorem ggX6_learn_X1_prepare : GoodIn wsX6_learn wsX1_prepare := goodIn_r _ [16, 17, 18, 19, 20, 21, 22, 23, 24, 25, 26, 27, 28, 29, 30, 31, 32, 33, 34, 35, 36, 37, 38, 39, 40, 41, 42, 43, 44, 45, 46, 47, 48, 49, 50, 51, 52, 53, 54, 55, 56, 57, 58, 59, 10, 60, 61, 62, 63, 64, 65, 66, 67, 68, 133, 134, 135, 136, 127, 128, 129, 130, 131, 132, 137, 138, 139, 140, 141] (by decide +kernel) (by decide +kernel)
set_option maxRecDepth 20000 in
theorem gX6_learn_X1_prepare : GoodIn wsX6_learn (wsV RX6 138 RX1 yX1_prepare wsX1_prepare) := goodIn_app (goodIn_of _ (by decide +kernel)) ggX6_learn_X1_prepare
set_option maxRecDepth 20000 in
theorem ggX6_learn_X4_keepHand : GoodIn wsX6_learn wsX4_keepHand := goodIn_r _ [72, 36, 53, 38, 73, 74, 75, 35, 76, 44, 77, 10, 78, 79, 80, 81, 27, 82, 83, 84, 85, 86, 87, 88, 89, 90, 91, 92, 93, 94, 47, 95, 96, 97, 98, 48, 99, 100, 101, 102, 45, 46, 103, 104, 65, 66, 67, 68, 105, 106, 107, 108, 109, 110, 54, 111, 112, 113, 114, 127, 128, 129, 130, 131, 132, 137, 138, 139, 140, 141] (by decide +kernel) (by decide +kernel)
set_option maxRecDepth 20000 in
theorem gX6_learn_X4_keepHand : GoodIn wsX6_learn (wsV RX6 171 RX4 yX4_keepHand wsX4_keepHand) := goodIn_app (goodIn_of _ (by decide +kernel)) ggX6_learn_X4_keepHand
set_option maxRecDepth 20000 in
theorem ggX6_learn_X1_commit : GoodIn wsX6_learn wsX1_commit := goodIn_r _ [118, 18, 119, 120, 62, 63, 64, 133, 134, 135] (by decide +kernel) (by decide +kernel)
set_option maxRecDepth 20000 in
theorem gX6_learn_X1_commit : GoodIn wsX6_learn (wsV RX6 148 RX1 yX1_commit wsX1_commit) := goodIn_app (goodIn_of _ (by decide +kernel)) ggX6_learn_X1_commit
theorem dX6_learn_0 : decode cX6_learn 0 = .ok (.iload_n 1, 1) := by decide +kernel
theorem dX6_learn_1 : decode cX6_learn 1 = .ok (.invokestatic 120, 3) := by decide +kernel
theorem dX6_learn_4 : decode cX6_learn 4 = .ok (.ifCond .ne 13, 3) := by decide +kernel
theorem dX6_learn_7 : decode cX6_learn 7 = .ok (.new 49, 3) := by decide +kernel
theorem dX6_learn_10 : decode cX6_learn 10 = .ok (.dup, 1) := by decide +kernel
theorem dX6_learn_11 : decode cX6_learn 11 = .ok (.ldc 123, 2) := by decide +kernel
theorem dX6_learn_13 : decode cX6_learn 13 = .ok (.invokespecial 53, 3) := by decide +kernel
theorem dX6_learn_16 : decode cX6_learn 16 = .ok (.athrow, 1) := by decide +kernel
theorem dX6_learn_17 : decode cX6_learn 17 = .ok (.aload_n 0, 1) := by decide +kernel
theorem dX6_learn_18 : decode cX6_learn 18 = .ok (.getfield 36, 3) := by decide +kernel
theorem dX6_learn_21 : decode cX6_learn 21 = .ok (.aload_n 0, 1) := by decide +kernel
theorem dX6_learn_22 : decode cX6_learn 22 = .ok (.getfield 12, 3) := by decide +kernel
theorem dX6_learn_25 : decode cX6_learn 25 = .ok (.invokevirtual 138, 3) := by decide +kernel
theorem dX6_learn_28 : decode cX6_learn 28 = .ok (.aload_n 0, 1) := by decide +kernel
theorem dX6_learn_29 : decode cX6_learn 29 = .ok (.getfield 12, 3) := by decide +kernel
theorem dX6_learn_32 : decode cX6_learn 32 = .ok (.iload_n 1, 1) := by decide +kernel
theorem dX6_learn_33 : decode cX6_learn 33 = .ok (.invokevirtual 171, 3) := by decide +kernel
theorem dX6_learn_36 : decode cX6_learn 36 = .ok (.ifCond .ne 13, 3) := by decide +kernel
theorem dX6_learn_39 : decode cX6_learn 39 = .ok (.new 60, 3) := by decide +kernel
theorem dX6_learn_42 : decode cX6_learn 42 = .ok (.dup, 1) := by decide +kernel
theorem dX6_learn_43 : decode cX6_learn 43 = .ok (.ldc 174, 2) := by decide +kernel
theorem dX6_learn_45 : decode cX6_learn 45 = .ok (.invokespecial 64, 3) := by decide +kernel
theorem dX6_learn_48 : decode cX6_learn 48 = .ok (.athrow, 1) := by decide +kernel
theorem dX6_learn_49 : decode cX6_learn 49 = .ok (.aload_n 0, 1) := by decide +kernel
theorem dX6_learn_50 : decode cX6_learn 50 = .ok (.getfield 36, 3) := by decide +kernel
theorem dX6_learn_53 : decode cX6_learn 53 = .ok (.invokevirtual 148, 3) := by decide +kernel
theorem dX6_learn_56 : decode cX6_learn 56 = .ok (.aload_n 0, 1) := by decide +kernel
theorem dX6_learn_57 : decode cX6_learn 57 = .ok (.getfield 12, 3) := by decide +kernel
theorem dX6_learn_60 : decode cX6_learn 60 = .ok (.getfield 92, 3) := by decide +kernel
theorem dX6_learn_63 : decode cX6_learn 63 = .ok (.iconst 1, 1) := by decide +kernel
theorem dX6_learn_64 : decode cX6_learn 64 = .ok (.isub, 1) := by decide +kernel
theorem dX6_learn_65 : decode cX6_learn 65 = .ok (.ireturn, 1) := by decide +kernel
set_option maxRecDepth 20000 in
theorem ggX6_forget_X1_prepare : GoodIn wsX6_forget wsX1_prepare := goodIn_r _ [10, 11, 12, 13, 14, 15, 16, 17, 18, 19, 20, 21, 22, 23, 24, 25, 26, 27, 28, 29, 30, 31, 32, 33, 34, 35, 36, 37, 38, 39, 40, 41, 42, 43, 44, 45, 46, 47, 48, 49, 50, 51, 52, 53, 54, 55, 56, 57, 58, 59, 60, 61, 62, 63, 104, 105, 106, 107, 98, 99, 100, 101, 102, 103, 108, 109, 110, 111, 112] (by decide +kernel) (by decide +kernel)
set_option maxRecDepth 20000 in
theorem gX6_forget_X1_prepare : GoodIn wsX6_forget (wsV RX6 138 RX1 yX1_prepare wsX1_prepare) := goodIn_app (goodIn_of _ (by decide +kernel)) ggX6_forget_X1_prepare
set_option maxRecDepth 20000 in
theorem ggX6_forget_X4_dropSample : GoodIn wsX6_forget wsX4_dropSample := goodIn_r _ [67, 47, 30, 32, 68, 69, 70, 21, 71, 72, 73, 74, 29, 75, 38, 39, 40, 41, 42, 76, 54, 77, 60, 61, 62, 63, 78, 79, 80, 81, 82, 83, 84, 85, 98, 99, 100, 101, 102, 103, 108, 109, 110, 111, 112] (by decide +kernel) (by decide +kernel)
set_option maxRecDepth 20000 in
theorem gX6_forget_X4_dropSample : GoodIn wsX6_forget (wsV RX6 176 RX4 yX4_dropSample wsX4_dropSample) := goodIn_app (goodIn_of _ (by decide +kernel)) ggX6_forget_X4_dropSample
set_option maxRecDepth 20000 in
theorem ggX6_forget_X1_commit : GoodIn wsX6_forget wsX1_commit := goodIn_r _ [89, 12, 90, 91, 57, 58, 59, 104, 105, 106] (by decide +kernel) (by decide +kernel)
set_option maxRecDepth 20000 in
theorem gX6_forget_X1_commit : GoodIn wsX6_forget (wsV RX6 148 RX1 yX1_commit wsX1_commit) := goodIn_app (goodIn_of _ (by decide +kernel)) ggX6_forget_X1_commit
theorem dX6_forget_0 : decode cX6_forget 0 = .ok (.aload_n 0, 1) := by decide +kernel
theorem dX6_forget_1 : decode cX6_forget 1 = .ok (.getfield 36, 3) := by decide +kernel
theorem dX6_forget_4 : decode cX6_forget 4 = .ok (.aload_n 0, 1) := by decide +kernel
theorem dX6_forget_5 : decode cX6_forget 5 = .ok (.getfield 12, 3) := by decide +kernel
theorem dX6_forget_8 : decode cX6_forget 8 = .ok (.invokevirtual 138, 3) := by decide +kernel
theorem dX6_forget_11 : decode cX6_forget 11 = .ok (.aload_n 0, 1) := by decide +kernel
theorem dX6_forget_12 : decode cX6_forget 12 = .ok (.getfield 12, 3) := by decide +kernel
theorem dX6_forget_15 : decode cX6_forget 15 = .ok (.iload_n 1, 1) := by decide +kernel
theorem dX6_forget_16 : decode cX6_forget 16 = .ok (.invokevirtual 176, 3) := by decide +kernel
theorem dX6_forget_19 : decode cX6_forget 19 = .ok (.ifCond .ne 13, 3) := by decide +kernel
theorem dX6_forget_22 : decode cX6_forget 22 = .ok (.new 110, 3) := by decide +kernel
theorem dX6_forget_25 : decode cX6_forget 25 = .ok (.dup, 1) := by decide +kernel
theorem dX6_forget_26 : decode cX6_forget 26 = .ok (.ldc 112, 2) := by decide +kernel
theorem dX6_forget_28 : decode cX6_forget 28 = .ok (.invokespecial 114, 3) := by decide +kernel
theorem dX6_forget_31 : decode cX6_forget 31 = .ok (.athrow, 1) := by decide +kernel
theorem dX6_forget_32 : decode cX6_forget 32 = .ok (.aload_n 0, 1) := by decide +kernel
theorem dX6_forget_33 : decode cX6_forget 33 = .ok (.getfield 36, 3) := by decide +kernel
theorem dX6_forget_36 : decode cX6_forget 36 = .ok (.invokevirtual 148, 3) := by decide +kernel
theorem dX6_forget_39 : decode cX6_forget 39 = .ok (.aload_n 0, 1) := by decide +kernel
theorem dX6_forget_40 : decode cX6_forget 40 = .ok (.getfield 12, 3) := by decide +kernel
theorem dX6_forget_43 : decode cX6_forget 43 = .ok (.getfield 92, 3) := by decide +kernel
theorem dX6_forget_46 : decode cX6_forget 46 = .ok (.ireturn, 1) := by decide +kernel
set_option maxRecDepth 20000 in
theorem ggX6_practise_X6_isName : GoodIn wsX6_practise wsX6_isName := goodIn_r _ [10] (by decide +kernel) (by decide +kernel)
set_option maxRecDepth 20000 in
theorem gX6_practise_X6_isName : GoodIn wsX6_practise (va_wsS RX6 120 yX6_isName wsX6_isName) := goodIn_app (goodIn_of _ (by decide +kernel)) ggX6_practise_X6_isName
set_option maxRecDepth 20000 in
theorem ggX6_practise_X1_prepare : GoodIn wsX6_practise wsX1_prepare := goodIn_r _ [15, 16, 17, 18, 19, 20, 21, 22, 23, 24, 25, 26, 27, 28, 29, 30, 31, 32, 33, 34, 35, 36, 37, 38, 39, 40, 41, 42, 43, 44, 45, 46, 47, 48, 49, 50, 51, 52, 53, 54, 55, 56, 57, 58, 9, 59, 60, 61, 62, 63, 64, 65, 66, 67, 159, 160, 161, 162, 163, 164, 165, 166, 167, 168, 169, 170, 171, 172, 173] (by decide +kernel) (by decide +kernel)
set_option maxRecDepth 20000 in
theorem gX6_practise_X1_prepare : GoodIn wsX6_practise (wsV RX6 138 RX1 yX1_prepare wsX1_prepare) := goodIn_app (goodIn_of _ (by decide +kernel)) ggX6_practise_X1_prepare
set_option maxRecDepth 20000 in
theorem ggX6_practise_X6_practiseOn : GoodIn wsX6_practise wsX6_practiseOn := goodIn_r _ [71, 72, 73, 74, 75, 76, 77, 78, 34, 79, 43, 80, 9, 81, 82, 83, 84, 85, 86, 87, 88, 89, 90, 91, 92, 93, 94, 95, 96, 97, 98, 99, 61, 62, 63, 100, 101, 102, 103, 46, 104, 105, 106, 107, 108, 109, 47, 110, 111, 112, 113, 114, 115, 116, 117, 118, 119, 120, 121, 26, 122, 38, 123, 124, 125, 126, 127, 128, 129, 130, 37, 131, 132, 133, 134, 39, 135, 136, 137, 138, 139, 140, 141, 142, 35, 53, 143, 144, 145, 146, 163, 164, 165, 166, 167, 168, 153, 154, 155, 156, 157, 158, 174, 175, 176, 177, 178, 179, 169, 170, 171, 172, 173] (by decide +kernel) (by decide +kernel)
set_option maxRecDepth 20000 in
theorem gX6_practise_X6_practiseOn : GoodIn wsX6_practise (wsV RX6 179 RX6 yX6_practiseOn wsX6_practiseOn) := goodIn_app (goodIn_of _ (by decide +kernel)) ggX6_practise_X6_practiseOn
set_option maxRecDepth 20000 in
theorem ggX6_practise_X1_commit : GoodIn wsX6_practise wsX1_commit := goodIn_r _ [150, 17, 151, 152, 61, 62, 63, 159, 160, 161] (by decide +kernel) (by decide +kernel)
set_option maxRecDepth 20000 in
theorem gX6_practise_X1_commit : GoodIn wsX6_practise (wsV RX6 148 RX1 yX1_commit wsX1_commit) := goodIn_app (goodIn_of _ (by decide +kernel)) ggX6_practise_X1_commit
theorem dX6_practise_0 : decode cX6_practise 0 = .ok (.iload_n 1, 1) := by decide +kernel
theorem dX6_practise_1 : decode cX6_practise 1 = .ok (.invokestatic 120, 3) := by decide +kernel
theorem dX6_practise_4 : decode cX6_practise 4 = .ok (.ifCond .ne 13, 3) := by decide +kernel
theorem dX6_practise_7 : decode cX6_practise 7 = .ok (.new 49, 3) := by decide +kernel
theorem dX6_practise_10 : decode cX6_practise 10 = .ok (.dup, 1) := by decide +kernel
theorem dX6_practise_11 : decode cX6_practise 11 = .ok (.ldc 123, 2) := by decide +kernel
theorem dX6_practise_13 : decode cX6_practise 13 = .ok (.invokespecial 53, 3) := by decide +kernel
theorem dX6_practise_16 : decode cX6_practise 16 = .ok (.athrow, 1) := by decide +kernel
theorem dX6_practise_17 : decode cX6_practise 17 = .ok (.aload_n 0, 1) := by decide +kernel
theorem dX6_practise_18 : decode cX6_practise 18 = .ok (.getfield 36, 3) := by decide +kernel
theorem dX6_practise_21 : decode cX6_practise 21 = .ok (.aload_n 0, 1) := by decide +kernel
theorem dX6_practise_22 : decode cX6_practise 22 = .ok (.getfield 12, 3) := by decide +kernel
theorem dX6_practise_25 : decode cX6_practise 25 = .ok (.invokevirtual 138, 3) := by decide +kernel
theorem dX6_practise_28 : decode cX6_practise 28 = .ok (.aload_n 0, 1) := by decide +kernel
theorem dX6_practise_29 : decode cX6_practise 29 = .ok (.aload_n 0, 1) := by decide +kernel
theorem dX6_practise_30 : decode cX6_practise 30 = .ok (.getfield 12, 3) := by decide +kernel
theorem dX6_practise_33 : decode cX6_practise 33 = .ok (.iload_n 1, 1) := by decide +kernel
theorem dX6_practise_34 : decode cX6_practise 34 = .ok (.invokevirtual 179, 3) := by decide +kernel
theorem dX6_practise_37 : decode cX6_practise 37 = .ok (.istore_n 2, 1) := by decide +kernel
theorem dX6_practise_38 : decode cX6_practise 38 = .ok (.iload_n 2, 1) := by decide +kernel
theorem dX6_practise_39 : decode cX6_practise 39 = .ok (.iconst (-1), 1) := by decide +kernel
theorem dX6_practise_40 : decode cX6_practise 40 = .ok (.if_icmp .ne 13, 3) := by decide +kernel
theorem dX6_practise_43 : decode cX6_practise 43 = .ok (.new 60, 3) := by decide +kernel
theorem dX6_practise_46 : decode cX6_practise 46 = .ok (.dup, 1) := by decide +kernel
theorem dX6_practise_47 : decode cX6_practise 47 = .ok (.ldc 183, 2) := by decide +kernel
theorem dX6_practise_49 : decode cX6_practise 49 = .ok (.invokespecial 64, 3) := by decide +kernel
theorem dX6_practise_52 : decode cX6_practise 52 = .ok (.athrow, 1) := by decide +kernel
theorem dX6_practise_53 : decode cX6_practise 53 = .ok (.aload_n 0, 1) := by decide +kernel
theorem dX6_practise_54 : decode cX6_practise 54 = .ok (.getfield 36, 3) := by decide +kernel
theorem dX6_practise_57 : decode cX6_practise 57 = .ok (.invokevirtual 148, 3) := by decide +kernel
theorem dX6_practise_60 : decode cX6_practise 60 = .ok (.iload_n 2, 1) := by decide +kernel
theorem dX6_practise_61 : decode cX6_practise 61 = .ok (.ireturn, 1) := by decide +kernel
set_option maxRecDepth 20000 in
theorem ggX6_set_X6_isSetting : GoodIn wsX6_set wsX6_isSetting := goodIn_r _ [10] (by decide +kernel) (by decide +kernel)
set_option maxRecDepth 20000 in
theorem gX6_set_X6_isSetting : GoodIn wsX6_set (va_wsS RX6 185 yX6_isSetting wsX6_isSetting) := goodIn_app (goodIn_of _ (by decide +kernel)) ggX6_set_X6_isSetting
set_option maxRecDepth 20000 in
theorem ggX6_set_X4_settingOf : GoodIn wsX6_set wsX4_settingOf := goodIn_r _ [15, 16, 17, 9, 18, 143, 144, 145, 146, 147, 148] (by decide +kernel) (by decide +kernel)
set_option maxRecDepth 20000 in
theorem gX6_set_X4_settingOf : GoodIn wsX6_set (wsV RX6 130 RX4 yX4_settingOf wsX4_settingOf) := goodIn_app (goodIn_of _ (by decide +kernel)) ggX6_set_X4_settingOf
set_option maxRecDepth 20000 in
theorem ggX6_set_X1_prepare : GoodIn wsX6_set wsX1_prepare := goodIn_r _ [23, 24, 25, 26, 27, 28, 29, 30, 31, 32, 33, 14, 34, 35, 36, 37, 38, 39, 40, 41, 42, 43, 44, 16, 45, 46, 47, 48, 49, 50, 51, 52, 53, 54, 55, 56, 57, 58, 59, 60, 61, 62, 63, 64, 9, 65, 66, 67, 68, 69, 70, 71, 72, 73, 149, 150, 151, 152, 143, 144, 145, 146, 147, 148, 153, 154, 155, 156, 157] (by decide +kernel) (by decide +kernel)
set_option maxRecDepth 20000 in
theorem gX6_set_X1_prepare : GoodIn wsX6_set (wsV RX6 138 RX1 yX1_prepare wsX1_prepare) := goodIn_app (goodIn_of _ (by decide +kernel)) ggX6_set_X1_prepare
set_option maxRecDepth 20000 in
theorem ggX6_set_X4_changeSetting : GoodIn wsX6_set wsX4_changeSetting := goodIn_r _ [77, 16, 58, 42, 78, 79, 80, 14, 81, 82, 83, 84, 41, 85, 86, 87, 68, 88, 89, 90, 91, 92, 49, 17, 9, 18, 93, 94, 95, 96, 50, 97, 98, 99, 100, 51, 101, 102, 103, 104, 105, 106, 107, 108, 109, 110, 111, 112, 113, 114, 115, 52, 116, 117, 118, 119, 53, 120, 121, 122, 123, 124, 125, 126, 127, 128, 129, 130, 143, 144, 145, 146, 147, 148, 153, 154, 155, 156, 157] (by decide +kernel) (by decide +kernel)
set_option maxRecDepth 20000 in
theorem gX6_set_X4_changeSetting : GoodIn wsX6_set (wsV RX6 190 RX4 yX4_changeSetting wsX4_changeSetting) := goodIn_app (goodIn_of _ (by decide +kernel)) ggX6_set_X4_changeSetting
set_option maxRecDepth 20000 in
theorem ggX6_set_X1_commit : GoodIn wsX6_set wsX1_commit := goodIn_r _ [134, 25, 135, 136, 67, 68, 69, 149, 150, 151] (by decide +kernel) (by decide +kernel)
set_option maxRecDepth 20000 in
theorem gX6_set_X1_commit : GoodIn wsX6_set (wsV RX6 148 RX1 yX1_commit wsX1_commit) := goodIn_app (goodIn_of _ (by decide +kernel)) ggX6_set_X1_commit
theorem dX6_set_0 : decode cX6_set 0 = .ok (.iload_n 1, 1) := by decide +kernel
theorem dX6_set_1 : decode cX6_set 1 = .ok (.iload_n 2, 1) := by decide +kernel
theorem dX6_set_2 : decode cX6_set 2 = .ok (.invokestatic 185, 3) := by decide +kernel
theorem dX6_set_5 : decode cX6_set 5 = .ok (.ifCond .ne 13, 3) := by decide +kernel
theorem dX6_set_8 : decode cX6_set 8 = .ok (.new 49, 3) := by decide +kernel
theorem dX6_set_11 : decode cX6_set 11 = .ok (.dup, 1) := by decide +kernel
theorem dX6_set_12 : decode cX6_set 12 = .ok (.ldc 188, 2) := by decide +kernel
theorem dX6_set_14 : decode cX6_set 14 = .ok (.invokespecial 53, 3) := by decide +kernel
theorem dX6_set_17 : decode cX6_set 17 = .ok (.athrow, 1) := by decide +kernel
theorem dX6_set_18 : decode cX6_set 18 = .ok (.aload_n 0, 1) := by decide +kernel
theorem dX6_set_19 : decode cX6_set 19 = .ok (.getfield 12, 3) := by decide +kernel
theorem dX6_set_22 : decode cX6_set 22 = .ok (.iload_n 1, 1) := by decide +kernel
theorem dX6_set_23 : decode cX6_set 23 = .ok (.invokevirtual 130, 3) := by decide +kernel
theorem dX6_set_26 : decode cX6_set 26 = .ok (.istore_n 3, 1) := by decide +kernel
theorem dX6_set_27 : decode cX6_set 27 = .ok (.aload_n 0, 1) := by decide +kernel
theorem dX6_set_28 : decode cX6_set 28 = .ok (.getfield 36, 3) := by decide +kernel
theorem dX6_set_31 : decode cX6_set 31 = .ok (.aload_n 0, 1) := by decide +kernel
theorem dX6_set_32 : decode cX6_set 32 = .ok (.getfield 12, 3) := by decide +kernel
theorem dX6_set_35 : decode cX6_set 35 = .ok (.invokevirtual 138, 3) := by decide +kernel
theorem dX6_set_38 : decode cX6_set 38 = .ok (.aload_n 0, 1) := by decide +kernel
theorem dX6_set_39 : decode cX6_set 39 = .ok (.getfield 12, 3) := by decide +kernel
theorem dX6_set_42 : decode cX6_set 42 = .ok (.iload_n 1, 1) := by decide +kernel
theorem dX6_set_43 : decode cX6_set 43 = .ok (.iload_n 2, 1) := by decide +kernel
theorem dX6_set_44 : decode cX6_set 44 = .ok (.invokevirtual 190, 3) := by decide +kernel
theorem dX6_set_47 : decode cX6_set 47 = .ok (.ifCond .ne 13, 3) := by decide +kernel
theorem dX6_set_50 : decode cX6_set 50 = .ok (.new 60, 3) := by decide +kernel
theorem dX6_set_53 : decode cX6_set 53 = .ok (.dup, 1) := by decide +kernel
theorem dX6_set_54 : decode cX6_set 54 = .ok (.ldc 193, 2) := by decide +kernel
theorem dX6_set_56 : decode cX6_set 56 = .ok (.invokespecial 64, 3) := by decide +kernel
theorem dX6_set_59 : decode cX6_set 59 = .ok (.athrow, 1) := by decide +kernel
theorem dX6_set_60 : decode cX6_set 60 = .ok (.aload_n 0, 1) := by decide +kernel
theorem dX6_set_61 : decode cX6_set 61 = .ok (.getfield 36, 3) := by decide +kernel
theorem dX6_set_64 : decode cX6_set 64 = .ok (.invokevirtual 148, 3) := by decide +kernel
theorem dX6_set_67 : decode cX6_set 67 = .ok (.iload_n 3, 1) := by decide +kernel
theorem dX6_set_68 : decode cX6_set 68 = .ok (.ireturn, 1) := by decide +kernel
set_option maxRecDepth 20000 in
theorem ggX6_undo_X1_newestState : GoodIn wsX6_undo wsX1_newestState := goodIn_r _ [10, 11, 12, 13, 14, 15, 16, 17, 18, 19, 62, 63, 64, 65] (by decide +kernel) (by decide +kernel)
set_option maxRecDepth 20000 in
theorem gX6_undo_X1_newestState : GoodIn wsX6_undo (wsV RX6 195 RX1 yX1_newestState wsX1_newestState) := goodIn_app (goodIn_of _ (by decide +kernel)) ggX6_undo_X1_newestState
set_option maxRecDepth 20000 in
theorem ggX6_undo_X4_copyFrom : GoodIn wsX6_undo wsX4_copyFrom := goodIn_r _ [24, 25, 26, 27, 28, 29, 30, 31, 32, 33, 34, 35, 36, 37, 38, 39, 40, 41, 42, 43, 44, 45, 46, 47, 48, 49, 50, 51, 66, 67, 68, 69, 70, 71, 72, 73, 74, 75, 76] (by decide +kernel) (by decide +kernel)
set_option maxRecDepth 20000 in
theorem gX6_undo_X4_copyFrom : GoodIn wsX6_undo (wsV RX6 159 RX4 yX4_copyFrom wsX4_copyFrom) := goodIn_app (goodIn_of _ (by decide +kernel)) ggX6_undo_X4_copyFrom
set_option maxRecDepth 20000 in
theorem ggX6_undo_X1_dropNewest : GoodIn wsX6_undo wsX1_dropNewest := goodIn_r _ [55, 13, 11, 62, 63, 64] (by decide +kernel) (by decide +kernel)
set_option maxRecDepth 20000 in
theorem gX6_undo_X1_dropNewest : GoodIn wsX6_undo (wsV RX6 201 RX1 yX1_dropNewest wsX1_dropNewest) := goodIn_app (goodIn_of _ (by decide +kernel)) ggX6_undo_X1_dropNewest
theorem dX6_undo_0 : decode cX6_undo 0 = .ok (.aload_n 0, 1) := by decide +kernel
theorem dX6_undo_1 : decode cX6_undo 1 = .ok (.getfield 36, 3) := by decide +kernel
theorem dX6_undo_4 : decode cX6_undo 4 = .ok (.invokevirtual 195, 3) := by decide +kernel
theorem dX6_undo_7 : decode cX6_undo 7 = .ok (.astore_n 1, 1) := by decide +kernel
theorem dX6_undo_8 : decode cX6_undo 8 = .ok (.aload_n 1, 1) := by decide +kernel
theorem dX6_undo_9 : decode cX6_undo 9 = .ok (.ifnonnull 13, 3) := by decide +kernel
theorem dX6_undo_12 : decode cX6_undo 12 = .ok (.new 60, 3) := by decide +kernel
theorem dX6_undo_15 : decode cX6_undo 15 = .ok (.dup, 1) := by decide +kernel
theorem dX6_undo_16 : decode cX6_undo 16 = .ok (.ldc 199, 2) := by decide +kernel
theorem dX6_undo_18 : decode cX6_undo 18 = .ok (.invokespecial 64, 3) := by decide +kernel
theorem dX6_undo_21 : decode cX6_undo 21 = .ok (.athrow, 1) := by decide +kernel
theorem dX6_undo_22 : decode cX6_undo 22 = .ok (.aload_n 0, 1) := by decide +kernel
theorem dX6_undo_23 : decode cX6_undo 23 = .ok (.getfield 12, 3) := by decide +kernel
theorem dX6_undo_26 : decode cX6_undo 26 = .ok (.aload_n 1, 1) := by decide +kernel
theorem dX6_undo_27 : decode cX6_undo 27 = .ok (.invokevirtual 159, 3) := by decide +kernel
theorem dX6_undo_30 : decode cX6_undo 30 = .ok (.aload_n 0, 1) := by decide +kernel
theorem dX6_undo_31 : decode cX6_undo 31 = .ok (.getfield 36, 3) := by decide +kernel
theorem dX6_undo_34 : decode cX6_undo 34 = .ok (.invokevirtual 201, 3) := by decide +kernel
theorem dX6_undo_37 : decode cX6_undo 37 = .ok (.aload_n 0, 1) := by decide +kernel
theorem dX6_undo_38 : decode cX6_undo 38 = .ok (.getfield 36, 3) := by decide +kernel
theorem dX6_undo_41 : decode cX6_undo 41 = .ok (.getfield 204, 3) := by decide +kernel
theorem dX6_undo_44 : decode cX6_undo 44 = .ok (.ireturn, 1) := by decide +kernel
set_option maxRecDepth 20000 in
theorem ggX6_read_X2_readFigure : GoodIn wsX6_read wsX2_readFigure := goodIn_r _ [13, 14, 15, 16, 17, 18, 19, 20, 21, 22, 23, 12, 24, 25, 26, 27, 28, 29, 30, 31, 32, 33, 34, 35, 36, 37, 38, 39, 40, 41, 42, 43, 44, 45, 46, 47, 48, 49, 50, 51, 52, 53, 54, 55, 56, 57, 58, 59, 60, 61, 62, 63, 64, 65, 66, 67, 68, 69, 76, 77, 78, 79, 80, 81, 82, 83, 84, 85, 86, 87, 88, 89, 90, 91, 92] (by decide +kernel) (by decide +kernel)
set_option maxRecDepth 20000 in
theorem gX6_read_X2_readFigure : GoodIn wsX6_read (wsV RX6 207 RX2 yX2_readFigure wsX2_readFigure) := goodIn_app (goodIn_of _ (by decide +kernel)) ggX6_read_X2_readFigure
theorem dX6_read_0 : decode cX6_read 0 = .ok (.iload_n 1, 1) := by decide +kernel
theorem dX6_read_1 : decode cX6_read 1 = .ok (.ifCond .lt 8, 3) := by decide +kernel
theorem dX6_read_4 : decode cX6_read 4 = .ok (.iload_n 1, 1) := by decide +kernel
theorem dX6_read_5 : decode cX6_read 5 = .ok (.iconst 3, 1) := by decide +kernel
theorem dX6_read_6 : decode cX6_read 6 = .ok (.if_icmp .le 13, 3) := by decide +kernel
theorem dX6_read_9 : decode cX6_read 9 = .ok (.new 49, 3) := by decide +kernel
theorem dX6_read_12 : decode cX6_read 12 = .ok (.dup, 1) := by decide +kernel
theorem dX6_read_13 : decode cX6_read 13 = .ok (.ldc 118, 2) := by decide +kernel
theorem dX6_read_15 : decode cX6_read 15 = .ok (.invokespecial 53, 3) := by decide +kernel
theorem dX6_read_18 : decode cX6_read 18 = .ok (.athrow, 1) := by decide +kernel
theorem dX6_read_19 : decode cX6_read 19 = .ok (.aload_n 0, 1) := by decide +kernel
theorem dX6_read_20 : decode cX6_read 20 = .ok (.getfield 22, 3) := by decide +kernel
theorem dX6_read_23 : decode cX6_read 23 = .ok (.aload_n 0, 1) := by decide +kernel
theorem dX6_read_24 : decode cX6_read 24 = .ok (.getfield 12, 3) := by decide +kernel
theorem dX6_read_27 : decode cX6_read 27 = .ok (.bipush 16, 2) := by decide +kernel
theorem dX6_read_29 : decode cX6_read 29 = .ok (.iconst (-1), 1) := by decide +kernel
theorem dX6_read_30 : decode cX6_read 30 = .ok (.invokevirtual 207, 3) := by decide +kernel
theorem dX6_read_33 : decode cX6_read 33 = .ok (.iload_n 1, 1) := by decide +kernel
theorem dX6_read_34 : decode cX6_read 34 = .ok (.tableswitch 50 0 2 #[26, 34, 42], 26) := by decide +kernel
theorem dX6_read_60 : decode cX6_read 60 = .ok (.aload_n 0, 1) := by decide +kernel
theorem dX6_read_61 : decode cX6_read 61 = .ok (.getfield 22, 3) := by decide +kernel
theorem dX6_read_64 : decode cX6_read 64 = .ok (.getfield 211, 3) := by decide +kernel
theorem dX6_read_67 : decode cX6_read 67 = .ok (.ireturn, 1) := by decide +kernel
theorem dX6_read_68 : decode cX6_read 68 = .ok (.aload_n 0, 1) := by decide +kernel
theorem dX6_read_69 : decode cX6_read 69 = .ok (.getfield 22, 3) := by decide +kernel
theorem dX6_read_72 : decode cX6_read 72 = .ok (.getfield 214, 3) := by decide +kernel
theorem dX6_read_75 : decode cX6_read 75 = .ok (.ireturn, 1) := by decide +kernel
theorem dX6_read_76 : decode cX6_read 76 = .ok (.aload_n 0, 1) := by decide +kernel
theorem dX6_read_77 : decode cX6_read 77 = .ok (.getfield 22, 3) := by decide +kernel
theorem dX6_read_80 : decode cX6_read 80 = .ok (.getfield 217, 3) := by decide +kernel
theorem dX6_read_83 : decode cX6_read 83 = .ok (.ireturn, 1) := by decide +kernel
theorem dX6_read_84 : decode cX6_read 84 = .ok (.aload_n 0, 1) := by decide +kernel
theorem dX6_read_85 : decode cX6_read 85 = .ok (.getfield 22, 3) := by decide +kernel
theorem dX6_read_88 : decode cX6_read 88 = .ok (.getfield 220, 3) := by decide +kernel
theorem dX6_read_91 : decode cX6_read 91 = .ok (.ireturn, 1) := by decide +kernel
set_option maxRecDepth 20000 in
theorem ggX6_nearest_X4_hasSample : GoodIn wsX6_nearest wsX4_hasSample := goodIn_r _ [9, 10, 63, 64, 65, 66, 67, 68] (by decide +kernel) (by decide +kernel)
set_option maxRecDepth 20000 in
theorem gX6_nearest_X4_hasSample : GoodIn wsX6_nearest (wsV RX6 106 RX4 yX4_hasSample wsX4_hasSample) := goodIn_app (goodIn_of _ (by decide +kernel)) ggX6_nearest_X4_hasSample
set_option maxRecDepth 20000 in
theorem ggX6_nearest_X2_rankedSample : GoodIn wsX6_nearest wsX2_rankedSample := goodIn_r _ [15, 16, 17, 18, 19, 20, 21, 14, 22, 23, 24, 25, 26, 27, 28, 29, 30, 31, 32, 33, 34, 35, 36, 37, 38, 39, 40, 41, 42, 43, 44, 45, 46, 47, 48, 49, 50, 51, 52, 53, 54, 55, 56, 63, 64, 65, 66, 67, 68, 69, 70, 71, 72, 73, 74, 75, 76, 77, 78, 79] (by decide +kernel) (by decide +kernel)
set_option maxRecDepth 20000 in
theorem gX6_nearest_X2_rankedSample : GoodIn wsX6_nearest (wsV RX6 225 RX2 yX2_rankedSample wsX2_rankedSample) := goodIn_app (goodIn_of _ (by decide +kernel)) ggX6_nearest_X2_rankedSample
theorem dX6_nearest_0 : decode cX6_nearest 0 = .ok (.aload_n 0, 1) := by decide +kernel
theorem dX6_nearest_1 : decode cX6_nearest 1 = .ok (.getfield 12, 3) := by decide +kernel
theorem dX6_nearest_4 : decode cX6_nearest 4 = .ok (.iload_n 1, 1) := by decide +kernel
theorem dX6_nearest_5 : decode cX6_nearest 5 = .ok (.invokevirtual 106, 3) := by decide +kernel
theorem dX6_nearest_8 : decode cX6_nearest 8 = .ok (.ifCond .ne 13, 3) := by decide +kernel
theorem dX6_nearest_11 : decode cX6_nearest 11 = .ok (.new 110, 3) := by decide +kernel
theorem dX6_nearest_14 : decode cX6_nearest 14 = .ok (.dup, 1) := by decide +kernel
theorem dX6_nearest_15 : decode cX6_nearest 15 = .ok (.ldc 223, 2) := by decide +kernel
theorem dX6_nearest_17 : decode cX6_nearest 17 = .ok (.invokespecial 114, 3) := by decide +kernel
theorem dX6_nearest_20 : decode cX6_nearest 20 = .ok (.athrow, 1) := by decide +kernel
theorem dX6_nearest_21 : decode cX6_nearest 21 = .ok (.aload_n 0, 1) := by decide +kernel
theorem dX6_nearest_22 : decode cX6_nearest 22 = .ok (.getfield 22, 3) := by decide +kernel
theorem dX6_nearest_25 : decode cX6_nearest 25 = .ok (.aload_n 0, 1) := by decide +kernel
theorem dX6_nearest_26 : decode cX6_nearest 26 = .ok (.getfield 12, 3) := by decide +kernel
theorem dX6_nearest_29 : decode cX6_nearest 29 = .ok (.iload_n 1, 1) := by decide +kernel
theorem dX6_nearest_30 : decode cX6_nearest 30 = .ok (.invokevirtual 225, 3) := by decide +kernel
theorem dX6_nearest_33 : decode cX6_nearest 33 = .ok (.ireturn, 1) := by decide +kernel
set_option maxRecDepth 20000 in
theorem ggX6_between_X4_hasSample : GoodIn wsX6_between wsX4_hasSample := goodIn_r _ [10, 11, 53, 54, 55, 56, 57, 58] (by decide +kernel) (by decide +kernel)
set_option maxRecDepth 20000 in
theorem gX6_between_X4_hasSample : GoodIn wsX6_between (wsV RX6 106 RX4 yX4_hasSample wsX4_hasSample) := goodIn_app (goodIn_of _ (by decide +kernel)) ggX6_between_X4_hasSample
set_option maxRecDepth 20000 in
theorem ggX6_between_X2_distanceOf : GoodIn wsX6_between wsX2_distanceOf := goodIn_r _ [16, 17, 18, 19, 20, 21, 22, 23, 24, 25, 26, 27, 28, 29, 30, 31, 32, 33, 34, 35, 36, 37, 38, 39, 15, 40, 41, 42, 43, 44, 45, 46, 59, 60, 61, 62, 63, 64, 65, 66, 67, 68, 69] (by decide +kernel) (by decide +kernel)
set_option maxRecDepth 20000 in
theorem gX6_between_X2_distanceOf : GoodIn wsX6_between (wsV RX6 228 RX2 yX2_distanceOf wsX2_distanceOf) := goodIn_app (goodIn_of _ (by decide +kernel)) ggX6_between_X2_distanceOf
theorem dX6_between_0 : decode cX6_between 0 = .ok (.aload_n 0, 1) := by decide +kernel
theorem dX6_between_1 : decode cX6_between 1 = .ok (.getfield 12, 3) := by decide +kernel
theorem dX6_between_4 : decode cX6_between 4 = .ok (.iload_n 1, 1) := by decide +kernel
theorem dX6_between_5 : decode cX6_between 5 = .ok (.invokevirtual 106, 3) := by decide +kernel
theorem dX6_between_8 : decode cX6_between 8 = .ok (.ifCond .eq 14, 3) := by decide +kernel
theorem dX6_between_11 : decode cX6_between 11 = .ok (.aload_n 0, 1) := by decide +kernel
theorem dX6_between_12 : decode cX6_between 12 = .ok (.getfield 12, 3) := by decide +kernel
theorem dX6_between_15 : decode cX6_between 15 = .ok (.iload_n 2, 1) := by decide +kernel
theorem dX6_between_16 : decode cX6_between 16 = .ok (.invokevirtual 106, 3) := by decide +kernel
theorem dX6_between_19 : decode cX6_between 19 = .ok (.ifCond .ne 13, 3) := by decide +kernel
theorem dX6_between_22 : decode cX6_between 22 = .ok (.new 110, 3) := by decide +kernel
theorem dX6_between_25 : decode cX6_between 25 = .ok (.dup, 1) := by decide +kernel
theorem dX6_between_26 : decode cX6_between 26 = .ok (.ldc 112, 2) := by decide +kernel
theorem dX6_between_28 : decode cX6_between 28 = .ok (.invokespecial 114, 3) := by decide +kernel
theorem dX6_between_31 : decode cX6_between 31 = .ok (.athrow, 1) := by decide +kernel
theorem dX6_between_32 : decode cX6_between 32 = .ok (.aload_n 0, 1) := by decide +kernel
theorem dX6_between_33 : decode cX6_between 33 = .ok (.getfield 22, 3) := by decide +kernel
theorem dX6_between_36 : decode cX6_between 36 = .ok (.aload_n 0, 1) := by decide +kernel
theorem dX6_between_37 : decode cX6_between 37 = .ok (.getfield 12, 3) := by decide +kernel
theorem dX6_between_40 : decode cX6_between 40 = .ok (.getfield 72, 3) := by decide +kernel
theorem dX6_between_43 : decode cX6_between 43 = .ok (.iload_n 1, 1) := by decide +kernel
theorem dX6_between_44 : decode cX6_between 44 = .ok (.iload_n 2, 1) := by decide +kernel
theorem dX6_between_45 : decode cX6_between 45 = .ok (.invokevirtual 228, 3) := by decide +kernel
theorem dX6_between_48 : decode cX6_between 48 = .ok (.ireturn, 1) := by decide +kernel
set_option maxRecDepth 20000 in
theorem ggX6_closest_X2_closestPair : GoodIn wsX6_closest wsX2_closestPair := goodIn_r _ [7, 8, 9, 10, 11, 12, 13, 14, 15, 16, 17, 18, 19, 20, 21, 6, 22, 23, 24, 25, 26, 27, 28, 29, 30, 31, 32, 33, 34, 35, 36, 37, 38, 39, 40, 41, 42, 43, 44, 45, 46, 47, 48, 49, 56, 57, 58, 59, 60, 61, 62, 63, 64, 65, 66, 67, 68, 69, 70, 71, 72] (by decide +kernel) (by decide +kernel)
set_option maxRecDepth 20000 in
theorem gX6_closest_X2_closestPair : GoodIn wsX6_closest (wsV RX6 232 RX2 yX2_closestPair wsX2_closestPair) := goodIn_app (goodIn_of _ (by decide +kernel)) ggX6_closest_X2_closestPair
theorem dX6_closest_0 : decode cX6_closest 0 = .ok (.aload_n 0, 1) := by decide +kernel
theorem dX6_closest_1 : decode cX6_closest 1 = .ok (.getfield 22, 3) := by decide +kernel
theorem dX6_closest_4 : decode cX6_closest 4 = .ok (.aload_n 0, 1) := by decide +kernel
theorem dX6_closest_5 : decode cX6_closest 5 = .ok (.getfield 12, 3) := by decide +kernel
theorem dX6_closest_8 : decode cX6_closest 8 = .ok (.iconst (-1), 1) := by decide +kernel
theorem dX6_closest_9 : decode cX6_closest 9 = .ok (.invokevirtual 232, 3) := by decide +kernel
theorem dX6_closest_12 : decode cX6_closest 12 = .ok (.ireturn, 1) := by decide +kernel
set_option maxRecDepth 20000 in
theorem ggX6_byOthers_X2_readFigure : GoodIn wsX6_byOthers wsX2_readFigure := goodIn_r _ [9, 10, 11, 12, 13, 14, 15, 16, 17, 18, 19, 8, 20, 21, 22, 23, 24, 25, 26, 27, 28, 29, 30, 31, 32, 33, 34, 35, 36, 37, 38, 39, 40, 41, 42, 43, 44, 45, 46, 47, 48, 49, 50, 51, 52, 53, 54, 55, 56, 57, 58, 59, 60, 61, 62, 63, 64, 65, 79, 80, 81, 82, 83, 84, 73, 74, 75, 76, 77, 78, 85, 86, 87, 88, 89] (by decide +kernel) (by decide +kernel)
set_option maxRecDepth 20000 in
theorem gX6_byOthers_X2_readFigure : GoodIn wsX6_byOthers (wsV RX6 207 RX2 yX2_readFigure wsX2_readFigure) := goodIn_app (goodIn_of _ (by decide +kernel)) ggX6_byOthers_X2_readFigure
set_option maxRecDepth 20000 in
theorem ggX6_byOthers_X4_nameOf : GoodIn wsX6_byOthers wsX4_nameOf := goodIn_r _ [64, 65, 32, 33, 34, 73, 74, 75, 76, 77, 78] (by decide +kernel) (by decide +kernel)
set_option maxRecDepth 20000 in
theorem gX6_byOthers_X4_nameOf : GoodIn wsX6_byOthers (wsV RX6 115 RX4 yX4_nameOf wsX4_nameOf) := goodIn_app (goodIn_of _ (by decide +kernel)) ggX6_byOthers_X4_nameOf
theorem dX6_byOthers_0 : decode cX6_byOthers 0 = .ok (.iconst 0, 1) := by decide +kernel
theorem dX6_byOthers_1 : decode cX6_byOthers 1 = .ok (.istore_n 1, 1) := by decide +kernel
theorem dX6_byOthers_2 : decode cX6_byOthers 2 = .ok (.iconst 0, 1) := by decide +kernel
theorem dX6_byOthers_3 : decode cX6_byOthers 3 = .ok (.istore_n 2, 1) := by decide +kernel
theorem dX6_byOthers_4 : decode cX6_byOthers 4 = .ok (.iload_n 2, 1) := by decide +kernel
theorem dX6_byOthers_5 : decode cX6_byOthers 5 = .ok (.aload_n 0, 1) := by decide +kernel
theorem dX6_byOthers_6 : decode cX6_byOthers 6 = .ok (.getfield 12, 3) := by decide +kernel
theorem dX6_byOthers_9 : decode cX6_byOthers 9 = .ok (.getfield 92, 3) := by decide +kernel
theorem dX6_byOthers_12 : decode cX6_byOthers 12 = .ok (.if_icmp .ge 43, 3) := by decide +kernel
theorem dX6_byOthers_15 : decode cX6_byOthers 15 = .ok (.aload_n 0, 1) := by decide +kernel
theorem dX6_byOthers_16 : decode cX6_byOthers 16 = .ok (.getfield 22, 3) := by decide +kernel
theorem dX6_byOthers_19 : decode cX6_byOthers 19 = .ok (.aload_n 0, 1) := by decide +kernel
theorem dX6_byOthers_20 : decode cX6_byOthers 20 = .ok (.getfield 12, 3) := by decide +kernel
theorem dX6_byOthers_23 : decode cX6_byOthers 23 = .ok (.iload_n 2, 1) := by decide +kernel
theorem dX6_byOthers_24 : decode cX6_byOthers 24 = .ok (.iload_n 2, 1) := by decide +kernel
theorem dX6_byOthers_25 : decode cX6_byOthers 25 = .ok (.invokevirtual 207, 3) := by decide +kernel
theorem dX6_byOthers_28 : decode cX6_byOthers 28 = .ok (.aload_n 0, 1) := by decide +kernel
theorem dX6_byOthers_29 : decode cX6_byOthers 29 = .ok (.getfield 22, 3) := by decide +kernel
theorem dX6_byOthers_32 : decode cX6_byOthers 32 = .ok (.getfield 214, 3) := by decide +kernel
theorem dX6_byOthers_35 : decode cX6_byOthers 35 = .ok (.aload_n 0, 1) := by decide +kernel
theorem dX6_byOthers_36 : decode cX6_byOthers 36 = .ok (.getfield 12, 3) := by decide +kernel
theorem dX6_byOthers_39 : decode cX6_byOthers 39 = .ok (.iload_n 2, 1) := by decide +kernel
theorem dX6_byOthers_40 : decode cX6_byOthers 40 = .ok (.invokevirtual 115, 3) := by decide +kernel
theorem dX6_byOthers_43 : decode cX6_byOthers 43 = .ok (.if_icmp .ne 6, 3) := by decide +kernel
theorem dX6_byOthers_46 : decode cX6_byOthers 46 = .ok (.iinc 1 1, 3) := by decide +kernel
theorem dX6_byOthers_49 : decode cX6_byOthers 49 = .ok (.iinc 2 1, 3) := by decide +kernel
theorem dX6_byOthers_52 : decode cX6_byOthers 52 = .ok (.goto (-48), 3) := by decide +kernel
theorem dX6_byOthers_55 : decode cX6_byOthers 55 = .ok (.iload_n 1, 1) := by decide +kernel
theorem dX6_byOthers_56 : decode cX6_byOthers 56 = .ok (.ireturn, 1) := by decide +kernel
set_option maxRecDepth 20000 in
theorem ggX6_bestRuling_X4_copyFrom : GoodIn wsX6_bestRuling wsX4_copyFrom := goodIn_r _ [7, 8, 9, 10, 11, 12, 13, 14, 15, 16, 17, 18, 19, 20, 21, 22, 23, 24, 25, 26, 27, 28, 29, 30, 31, 32, 33, 34, 144, 145, 146, 147, 148, 149, 150, 151, 152, 153, 154] (by decide +kernel) (by decide +kernel)
set_option maxRecDepth 20000 in
theorem gX6_bestRuling_X4_copyFrom : GoodIn wsX6_bestRuling (wsV RX6 159 RX4 yX4_copyFrom wsX4_copyFrom) := goodIn_app (goodIn_of _ (by decide +kernel)) ggX6_bestRuling_X4_copyFrom
set_option maxRecDepth 20000 in
theorem ggX6_bestRuling_X4_clearHand : GoodIn wsX6_bestRuling wsX4_clearHand := goodIn_r _ [38, 8, 13, 39, 40, 41, 17, 42, 19, 22, 43, 25, 44, 144, 145, 146, 147, 148, 149, 150, 151, 152, 153, 154] (by decide +kernel) (by decide +kernel)
set_option maxRecDepth 20000 in
theorem gX6_bestRuling_X4_clearHand : GoodIn wsX6_bestRuling (wsV RX6 162 RX4 yX4_clearHand wsX4_clearHand) := goodIn_app (goodIn_of _ (by decide +kernel)) ggX6_bestRuling_X4_clearHand
set_option maxRecDepth 20000 in
theorem ggX6_bestRuling_X4_changeSetting : GoodIn wsX6_bestRuling wsX4_changeSetting := goodIn_r _ [48, 10, 12, 8, 49, 50, 51, 6, 52, 53, 54, 55, 17, 56, 57, 58, 29, 59, 60, 61, 62, 63, 19, 64, 25, 65, 66, 67, 68, 69, 20, 70, 71, 72, 73, 21, 74, 75, 76, 77, 78, 79, 80, 81, 82, 43, 44, 83, 84, 85, 86, 22, 87, 88, 89, 90, 23, 91, 92, 93, 94, 95, 96, 97, 98, 99, 100, 101, 144, 145, 146, 147, 148, 149, 150, 151, 152, 153, 154] (by decide +kernel) (by decide +kernel)
set_option maxRecDepth 20000 in
theorem gX6_bestRuling_X4_changeSetting : GoodIn wsX6_bestRuling (wsV RX6 190 RX4 yX4_changeSetting wsX4_changeSetting) := goodIn_app (goodIn_of _ (by decide +kernel)) ggX6_bestRuling_X4_changeSetting
set_option maxRecDepth 20000 in
theorem ggX6_bestRuling_X6_leastOfPairs : GoodIn wsX6_bestRuling wsX6_leastOfPairs := goodIn_r _ [105, 106, 107, 108, 109, 110, 111, 112, 113, 114, 115, 116, 117, 6, 118, 9, 64, 25, 65, 119, 120, 121, 122, 123, 124, 28, 29, 30, 125, 92, 93, 17, 94, 22, 43, 44, 126, 127, 128, 129, 23, 130, 131, 132, 133, 134, 135, 136, 81, 82, 137, 138, 139, 140, 141, 142, 143, 144, 145, 146, 147, 148, 149, 155, 156, 157, 158, 159, 160, 150, 151, 152, 153, 154] (by decide +kernel) (by decide +kernel)
set_option maxRecDepth 20000 in
theorem gX6_bestRuling_X6_leastOfPairs : GoodIn wsX6_bestRuling (wsV RX6 235 RX6 yX6_leastOfPairs wsX6_leastOfPairs) := goodIn_app (goodIn_of _ (by decide +kernel)) ggX6_bestRuling_X6_leastOfPairs
theorem dX6_bestRuling_0 : decode cX6_bestRuling 0 = .ok (.aload_n 0, 1) := by decide +kernel
theorem dX6_bestRuling_1 : decode cX6_bestRuling 1 = .ok (.getfield 16, 3) := by decide +kernel
theorem dX6_bestRuling_4 : decode cX6_bestRuling 4 = .ok (.aload_n 0, 1) := by decide +kernel
theorem dX6_bestRuling_5 : decode cX6_bestRuling 5 = .ok (.getfield 12, 3) := by decide +kernel
theorem dX6_bestRuling_8 : decode cX6_bestRuling 8 = .ok (.invokevirtual 159, 3) := by decide +kernel
theorem dX6_bestRuling_11 : decode cX6_bestRuling 11 = .ok (.aload_n 0, 1) := by decide +kernel
theorem dX6_bestRuling_12 : decode cX6_bestRuling 12 = .ok (.getfield 16, 3) := by decide +kernel
theorem dX6_bestRuling_15 : decode cX6_bestRuling 15 = .ok (.invokevirtual 162, 3) := by decide +kernel
theorem dX6_bestRuling_18 : decode cX6_bestRuling 18 = .ok (.iconst (-1), 1) := by decide +kernel
theorem dX6_bestRuling_19 : decode cX6_bestRuling 19 = .ok (.istore_n 1, 1) := by decide +kernel
theorem dX6_bestRuling_20 : decode cX6_bestRuling 20 = .ok (.iconst (-1), 1) := by decide +kernel
theorem dX6_bestRuling_21 : decode cX6_bestRuling 21 = .ok (.istore_n 2, 1) := by decide +kernel
theorem dX6_bestRuling_22 : decode cX6_bestRuling 22 = .ok (.iconst 5, 1) := by decide +kernel
theorem dX6_bestRuling_23 : decode cX6_bestRuling 23 = .ok (.istore_n 3, 1) := by decide +kernel
theorem dX6_bestRuling_24 : decode cX6_bestRuling 24 = .ok (.iload_n 3, 1) := by decide +kernel
theorem dX6_bestRuling_25 : decode cX6_bestRuling 25 = .ok (.bipush 20, 2) := by decide +kernel
theorem dX6_bestRuling_27 : decode cX6_bestRuling 27 = .ok (.if_icmp .gt 47, 3) := by decide +kernel
theorem dX6_bestRuling_30 : decode cX6_bestRuling 30 = .ok (.aload_n 0, 1) := by decide +kernel
theorem dX6_bestRuling_31 : decode cX6_bestRuling 31 = .ok (.getfield 16, 3) := by decide +kernel
theorem dX6_bestRuling_34 : decode cX6_bestRuling 34 = .ok (.iconst 0, 1) := by decide +kernel
theorem dX6_bestRuling_35 : decode cX6_bestRuling 35 = .ok (.iload_n 3, 1) := by decide +kernel
theorem dX6_bestRuling_36 : decode cX6_bestRuling 36 = .ok (.invokevirtual 190, 3) := by decide +kernel
theorem dX6_bestRuling_39 : decode cX6_bestRuling 39 = .ok (.ifCond .eq 15, 3) := by decide +kernel
theorem dX6_bestRuling_42 : decode cX6_bestRuling 42 = .ok (.aload_n 0, 1) := by decide +kernel
theorem dX6_bestRuling_43 : decode cX6_bestRuling 43 = .ok (.aload_n 0, 1) := by decide +kernel
theorem dX6_bestRuling_44 : decode cX6_bestRuling 44 = .ok (.getfield 16, 3) := by decide +kernel
theorem dX6_bestRuling_47 : decode cX6_bestRuling 47 = .ok (.iload_n 2, 1) := by decide +kernel
theorem dX6_bestRuling_48 : decode cX6_bestRuling 48 = .ok (.invokevirtual 235, 3) := by decide +kernel
theorem dX6_bestRuling_51 : decode cX6_bestRuling 51 = .ok (.goto 4, 3) := by decide +kernel
theorem dX6_bestRuling_54 : decode cX6_bestRuling 54 = .ok (.iconst (-1), 1) := by decide +kernel
theorem dX6_bestRuling_55 : decode cX6_bestRuling 55 = .ok (.istore 4, 2) := by decide +kernel
theorem dX6_bestRuling_57 : decode cX6_bestRuling 57 = .ok (.iload 4, 2) := by decide +kernel
theorem dX6_bestRuling_59 : decode cX6_bestRuling 59 = .ok (.iload_n 2, 1) := by decide +kernel
theorem dX6_bestRuling_60 : decode cX6_bestRuling 60 = .ok (.if_icmp .le 8, 3) := by decide +kernel
theorem dX6_bestRuling_63 : decode cX6_bestRuling 63 = .ok (.iload 4, 2) := by decide +kernel
theorem dX6_bestRuling_65 : decode cX6_bestRuling 65 = .ok (.istore_n 2, 1) := by decide +kernel
theorem dX6_bestRuling_66 : decode cX6_bestRuling 66 = .ok (.iload_n 3, 1) := by decide +kernel
theorem dX6_bestRuling_67 : decode cX6_bestRuling 67 = .ok (.istore_n 1, 1) := by decide +kernel
theorem dX6_bestRuling_68 : decode cX6_bestRuling 68 = .ok (.iinc 3 1, 3) := by decide +kernel
theorem dX6_bestRuling_71 : decode cX6_bestRuling 71 = .ok (.goto (-47), 3) := by decide +kernel
theorem dX6_bestRuling_74 : decode cX6_bestRuling 74 = .ok (.iload_n 1, 1) := by decide +kernel
theorem dX6_bestRuling_75 : decode cX6_bestRuling 75 = .ok (.ireturn, 1) := by decide +kernel
set_option maxRecDepth 20000 in
theorem ggX6_mirrored_X4_copyFrom : GoodIn wsX6_mirrored wsX4_copyFrom := goodIn_r _ [9, 10, 11, 12, 13, 14, 15, 16, 17, 18, 19, 20, 21, 22, 23, 24, 25, 26, 27, 28, 29, 30, 31, 32, 33, 34, 35, 36, 155, 156, 157, 158, 159, 160, 161, 162, 163, 164, 165] (by decide +kernel) (by decide +kernel)
set_option maxRecDepth 20000 in
theorem gX6_mirrored_X4_copyFrom : GoodIn wsX6_mirrored (wsV RX6 159 RX4 yX4_copyFrom wsX4_copyFrom) := goodIn_app (goodIn_of _ (by decide +kernel)) ggX6_mirrored_X4_copyFrom
set_option maxRecDepth 20000 in
theorem ggX6_mirrored_X4_mirrorHand : GoodIn wsX6_mirrored wsX4_mirrorHand := goodIn_r _ [40, 10, 41, 42, 43, 19, 44, 45, 46, 47, 48, 21, 49, 27, 50, 51, 52, 53, 54, 22, 55, 56, 57, 58, 23, 59, 60, 61, 62, 63, 64, 65, 66, 67, 8, 68, 12, 69, 70, 71, 72, 73, 74, 31, 75, 76, 77, 78, 79, 80, 81, 82, 83, 84, 85, 86, 87, 88, 24, 89, 90, 91, 92, 25, 93, 94, 95, 96, 97, 98, 99, 100, 101, 102, 103, 155, 156, 157, 158, 159, 160, 161, 162, 163, 164, 165] (by decide +kernel) (by decide +kernel)
set_option maxRecDepth 20000 in
theorem gX6_mirrored_X4_mirrorHand : GoodIn wsX6_mirrored (wsV RX6 238 RX4 yX4_mirrorHand wsX4_mirrorHand) := goodIn_app (goodIn_of _ (by decide +kernel)) ggX6_mirrored_X4_mirrorHand
set_option maxRecDepth 20000 in
theorem ggX6_mirrored_X2_readFigure : GoodIn wsX6_mirrored wsX2_readFigure := goodIn_r _ [108, 109, 110, 111, 112, 113, 114, 115, 116, 117, 118, 107, 119, 120, 121, 30, 31, 32, 122, 94, 95, 19, 96, 24, 49, 27, 50, 63, 64, 123, 124, 125, 126, 25, 127, 128, 129, 130, 131, 132, 133, 83, 84, 134, 66, 67, 8, 68, 12, 135, 136, 137, 138, 139, 140, 141, 142, 11, 149, 150, 151, 152, 153, 154, 155, 156, 157, 158, 159, 160, 161, 162, 163, 164, 165] (by decide +kernel) (by decide +kernel)
set_option maxRecDepth 20000 in
theorem gX6_mirrored_X2_readFigure : GoodIn wsX6_mirrored (wsV RX6 207 RX2 yX2_readFigure wsX2_readFigure) := goodIn_app (goodIn_of _ (by decide +kernel)) ggX6_mirrored_X2_readFigure
theorem dX6_mirrored_0 : decode cX6_mirrored 0 = .ok (.aload_n 0, 1) := by decide +kernel
theorem dX6_mirrored_1 : decode cX6_mirrored 1 = .ok (.getfield 16, 3) := by decide +kernel
theorem dX6_mirrored_4 : decode cX6_mirrored 4 = .ok (.aload_n 0, 1) := by decide +kernel
theorem dX6_mirrored_5 : decode cX6_mirrored 5 = .ok (.getfield 12, 3) := by decide +kernel
theorem dX6_mirrored_8 : decode cX6_mirrored 8 = .ok (.invokevirtual 159, 3) := by decide +kernel
theorem dX6_mirrored_11 : decode cX6_mirrored 11 = .ok (.aload_n 0, 1) := by decide +kernel
theorem dX6_mirrored_12 : decode cX6_mirrored 12 = .ok (.getfield 16, 3) := by decide +kernel
theorem dX6_mirrored_15 : decode cX6_mirrored 15 = .ok (.invokevirtual 238, 3) := by decide +kernel
theorem dX6_mirrored_18 : decode cX6_mirrored 18 = .ok (.ifCond .ne 5, 3) := by decide +kernel
theorem dX6_mirrored_21 : decode cX6_mirrored 21 = .ok (.iconst (-1), 1) := by decide +kernel
theorem dX6_mirrored_22 : decode cX6_mirrored 22 = .ok (.ireturn, 1) := by decide +kernel
theorem dX6_mirrored_23 : decode cX6_mirrored 23 = .ok (.aload_n 0, 1) := by decide +kernel
theorem dX6_mirrored_24 : decode cX6_mirrored 24 = .ok (.getfield 22, 3) := by decide +kernel
theorem dX6_mirrored_27 : decode cX6_mirrored 27 = .ok (.aload_n 0, 1) := by decide +kernel
theorem dX6_mirrored_28 : decode cX6_mirrored 28 = .ok (.getfield 16, 3) := by decide +kernel
theorem dX6_mirrored_31 : decode cX6_mirrored 31 = .ok (.bipush 16, 2) := by decide +kernel
theorem dX6_mirrored_33 : decode cX6_mirrored 33 = .ok (.iconst (-1), 1) := by decide +kernel
theorem dX6_mirrored_34 : decode cX6_mirrored 34 = .ok (.invokevirtual 207, 3) := by decide +kernel
theorem dX6_mirrored_37 : decode cX6_mirrored 37 = .ok (.aload_n 0, 1) := by decide +kernel
theorem dX6_mirrored_38 : decode cX6_mirrored 38 = .ok (.getfield 22, 3) := by decide +kernel
theorem dX6_mirrored_41 : decode cX6_mirrored 41 = .ok (.getfield 214, 3) := by decide +kernel
theorem dX6_mirrored_44 : decode cX6_mirrored 44 = .ok (.ireturn, 1) := by decide +kernel
set_option maxRecDepth 20000 in
theorem ggX6_runScript_X6_withoutGroups : GoodIn wsX6_runScript wsX6_withoutGroups := goodIn_r _ [9, 5] (by decide +kernel) (by decide +kernel)
set_option maxRecDepth 20000 in
theorem gX6_runScript_X6_withoutGroups : GoodIn wsX6_runScript (va_wsS RX6 244 yX6_withoutGroups wsX6_withoutGroups) := goodIn_app (goodIn_of _ (by decide +kernel)) ggX6_runScript_X6_withoutGroups
set_option maxRecDepth 20000 in
theorem ggX6_runScript_X4_copyFrom : GoodIn wsX6_runScript wsX4_copyFrom := goodIn_r _ [14, 15, 16, 17, 18, 19, 20, 21, 22, 23, 24, 25, 26, 27, 28, 29, 30, 31, 8, 32, 33, 34, 35, 36, 37, 38, 39, 40, 237, 238, 239, 240, 241, 242, 243, 244, 245, 246, 247] (by decide +kernel) (by decide +kernel)
set_option maxRecDepth 20000 in
theorem gX6_runScript_X4_copyFrom : GoodIn wsX6_runScript (wsV RX6 159 RX4 yX4_copyFrom wsX4_copyFrom) := goodIn_app (goodIn_of _ (by decide +kernel)) ggX6_runScript_X4_copyFrom
set_option maxRecDepth 20000 in
theorem ggX6_runScript_X6_commandSucceeds : GoodIn wsX6_runScript wsX6_commandSucceeds := goodIn_r _ [44, 3, 45, 46, 47, 48, 49, 50, 51, 52, 13, 53, 20, 15, 54, 8, 55, 56, 57, 58, 59, 17, 60, 61, 62, 63, 64, 24, 65, 27, 66, 67, 68, 69, 26, 70, 71, 72, 73, 74, 75, 76, 77, 28, 78, 79, 80, 81, 29, 82, 83, 84, 85, 86, 87, 88, 89, 35, 90, 91, 92, 93, 94, 95, 96, 97, 98, 99, 100, 101, 102, 103, 104, 105, 106, 107, 30, 108, 109, 110, 111, 112, 113, 114, 115, 116, 117, 118, 119, 19, 16, 120, 121, 122, 123, 124, 125, 126, 127, 128, 129, 130, 131, 132, 133, 134, 135, 136, 137, 138, 139, 140, 141, 142, 143, 37, 38, 39, 40, 144, 145, 146, 147, 148, 149, 150, 151, 152, 153, 154, 155, 156, 157, 158, 159, 160, 161, 162, 163, 164, 165, 166, 167, 168, 169, 170, 171, 172, 173, 174, 175, 176, 177, 178, 179, 180, 181, 182, 183, 184, 185, 186, 187, 188, 189, 190, 191, 192, 193, 194, 195, 196, 197, 198, 199, 34, 36, 200, 201, 202, 203, 204, 205, 206, 207, 208, 209, 210, 211, 212, 213, 214, 215, 216, 217, 218, 219, 220, 221, 222, 223, 224, 225, 18, 226, 227, 228, 229, 230, 231, 232, 233, 234, 235, 236, 248, 249, 250, 251, 252, 253, 237, 238, 239, 240, 241, 242, 243, 244, 245, 246, 247] (by decide +kernel) (by decide +kernel)
set_option maxRecDepth 20000 in
theorem gX6_runScript_X6_commandSucceeds : GoodIn wsX6_runScript (wsV RX6 252 RX6 yX6_commandSucceeds wsX6_commandSucceeds) := goodIn_app (goodIn_of _ (by decide +kernel)) ggX6_runScript_X6_commandSucceeds
theorem dX6_runScript_0 : decode cX6_runScript 0 = .ok (.iload_n 1, 1) := by decide +kernel
theorem dX6_runScript_1 : decode cX6_runScript 1 = .ok (.iconst 1, 1) := by decide +kernel
theorem dX6_runScript_2 : decode cX6_runScript 2 = .ok (.if_icmp .lt 8, 3) := by decide +kernel
theorem dX6_runScript_5 : decode cX6_runScript 5 = .ok (.iload_n 1, 1) := by decide +kernel
theorem dX6_runScript_6 : decode cX6_runScript 6 = .ok (.iconst 3, 1) := by decide +kernel
theorem dX6_runScript_7 : decode cX6_runScript 7 = .ok (.if_icmp .le 13, 3) := by decide +kernel
theorem dX6_runScript_10 : decode cX6_runScript 10 = .ok (.new 49, 3) := by decide +kernel
theorem dX6_runScript_13 : decode cX6_runScript 13 = .ok (.dup, 1) := by decide +kernel
theorem dX6_runScript_14 : decode cX6_runScript 14 = .ok (.ldc 242, 2) := by decide +kernel
theorem dX6_runScript_16 : decode cX6_runScript 16 = .ok (.invokespecial 53, 3) := by decide +kernel
theorem dX6_runScript_19 : decode cX6_runScript 19 = .ok (.athrow, 1) := by decide +kernel
theorem dX6_runScript_20 : decode cX6_runScript 20 = .ok (.lload_n 2, 1) := by decide +kernel
theorem dX6_runScript_21 : decode cX6_runScript 21 = .ok (.lconst 0, 1) := by decide +kernel
theorem dX6_runScript_22 : decode cX6_runScript 22 = .ok (.lcmp, 1) := by decide +kernel
theorem dX6_runScript_23 : decode cX6_runScript 23 = .ok (.ifCond .lt 13, 3) := by decide +kernel
theorem dX6_runScript_26 : decode cX6_runScript 26 = .ok (.lload_n 2, 1) := by decide +kernel
theorem dX6_runScript_27 : decode cX6_runScript 27 = .ok (.iload_n 1, 1) := by decide +kernel
theorem dX6_runScript_28 : decode cX6_runScript 28 = .ok (.invokestatic 244, 3) := by decide +kernel
theorem dX6_runScript_31 : decode cX6_runScript 31 = .ok (.lconst 0, 1) := by decide +kernel
theorem dX6_runScript_32 : decode cX6_runScript 32 = .ok (.lcmp, 1) := by decide +kernel
theorem dX6_runScript_33 : decode cX6_runScript 33 = .ok (.ifCond .eq 13, 3) := by decide +kernel
theorem dX6_runScript_36 : decode cX6_runScript 36 = .ok (.new 49, 3) := by decide +kernel
theorem dX6_runScript_39 : decode cX6_runScript 39 = .ok (.dup, 1) := by decide +kernel
theorem dX6_runScript_40 : decode cX6_runScript 40 = .ok (.ldc 248, 2) := by decide +kernel
theorem dX6_runScript_42 : decode cX6_runScript 42 = .ok (.invokespecial 53, 3) := by decide +kernel
theorem dX6_runScript_45 : decode cX6_runScript 45 = .ok (.athrow, 1) := by decide +kernel
theorem dX6_runScript_46 : decode cX6_runScript 46 = .ok (.aload_n 0, 1) := by decide +kernel
theorem dX6_runScript_47 : decode cX6_runScript 47 = .ok (.getfield 16, 3) := by decide +kernel
theorem dX6_runScript_50 : decode cX6_runScript 50 = .ok (.aload_n 0, 1) := by decide +kernel
theorem dX6_runScript_51 : decode cX6_runScript 51 = .ok (.getfield 12, 3) := by decide +kernel
theorem dX6_runScript_54 : decode cX6_runScript 54 = .ok (.invokevirtual 159, 3) := by decide +kernel
theorem dX6_runScript_57 : decode cX6_runScript 57 = .ok (.iconst 0, 1) := by decide +kernel
theorem dX6_runScript_58 : decode cX6_runScript 58 = .ok (.istore 4, 2) := by decide +kernel
theorem dX6_runScript_60 : decode cX6_runScript 60 = .ok (.iload 4, 2) := by decide +kernel
theorem dX6_runScript_62 : decode cX6_runScript 62 = .ok (.iload_n 1, 1) := by decide +kernel
theorem dX6_runScript_63 : decode cX6_runScript 63 = .ok (.if_icmp .ge 34, 3) := by decide +kernel
theorem dX6_runScript_66 : decode cX6_runScript 66 = .ok (.aload_n 0, 1) := by decide +kernel
theorem dX6_runScript_67 : decode cX6_runScript 67 = .ok (.lload_n 2, 1) := by decide +kernel
theorem dX6_runScript_68 : decode cX6_runScript 68 = .ok (.iload_n 1, 1) := by decide +kernel
theorem dX6_runScript_69 : decode cX6_runScript 69 = .ok (.iconst 1, 1) := by decide +kernel
theorem dX6_runScript_70 : decode cX6_runScript 70 = .ok (.isub, 1) := by decide +kernel
theorem dX6_runScript_71 : decode cX6_runScript 71 = .ok (.iload 4, 2) := by decide +kernel
theorem dX6_runScript_73 : decode cX6_runScript 73 = .ok (.isub, 1) := by decide +kernel
theorem dX6_runScript_74 : decode cX6_runScript 74 = .ok (.invokestatic 244, 3) := by decide +kernel
theorem dX6_runScript_77 : decode cX6_runScript 77 = .ok (.ldc2_w 250, 3) := by decide +kernel
theorem dX6_runScript_80 : decode cX6_runScript 80 = .ok (.lrem, 1) := by decide +kernel
theorem dX6_runScript_81 : decode cX6_runScript 81 = .ok (.l2i, 1) := by decide +kernel
theorem dX6_runScript_82 : decode cX6_runScript 82 = .ok (.invokevirtual 252, 3) := by decide +kernel
theorem dX6_runScript_85 : decode cX6_runScript 85 = .ok (.ifCond .ne 6, 3) := by decide +kernel
theorem dX6_runScript_88 : decode cX6_runScript 88 = .ok (.iload 4, 2) := by decide +kernel
theorem dX6_runScript_90 : decode cX6_runScript 90 = .ok (.ireturn, 1) := by decide +kernel
theorem dX6_runScript_91 : decode cX6_runScript 91 = .ok (.iinc 4 1, 3) := by decide +kernel
theorem dX6_runScript_94 : decode cX6_runScript 94 = .ok (.goto (-34), 3) := by decide +kernel
theorem dX6_runScript_97 : decode cX6_runScript 97 = .ok (.iconst (-1), 1) := by decide +kernel
theorem dX6_runScript_98 : decode cX6_runScript 98 = .ok (.ireturn, 1) := by decide +kernel
set_option maxRecDepth 20000 in
theorem ggX6_simulate_X4_copyFrom : GoodIn wsX6_simulate wsX4_copyFrom := goodIn_r _ [12, 13, 14, 15, 16, 17, 18, 19, 20, 21, 22, 23, 24, 25, 26, 27, 28, 29, 30, 31, 32, 33, 34, 35, 36, 37, 38, 39, 208, 209, 210, 211, 212, 213, 214, 215, 216, 217, 218] (by decide +kernel) (by decide +kernel)
set_option maxRecDepth 20000 in
theorem gX6_simulate_X4_copyFrom : GoodIn wsX6_simulate (wsV RX6 159 RX4 yX4_copyFrom wsX4_copyFrom) := goodIn_app (goodIn_of _ (by decide +kernel)) ggX6_simulate_X4_copyFrom
set_option maxRecDepth 20000 in
theorem ggX6_simulate_X4_outcomesOf : GoodIn wsX6_simulate wsX4_outcomesOf := goodIn_r _ [43, 44, 45, 46, 11, 47, 16, 48, 30, 49, 208, 209, 210, 211, 212, 213] (by decide +kernel) (by decide +kernel)
set_option maxRecDepth 20000 in
theorem gX6_simulate_X4_outcomesOf : GoodIn wsX6_simulate (wsV RX6 95 RX4 yX4_outcomesOf wsX4_outcomesOf) := goodIn_app (goodIn_of _ (by decide +kernel)) ggX6_simulate_X4_outcomesOf
set_option maxRecDepth 20000 in
theorem ggX6_simulate_X6_takeTurn : GoodIn wsX6_simulate wsX6_takeTurn := goodIn_r _ [53, 3, 54, 55, 56, 57, 11, 58, 13, 17, 14, 59, 60, 61, 22, 62, 24, 48, 30, 49, 63, 64, 65, 66, 67, 68, 69, 70, 71, 72, 73, 74, 75, 76, 77, 78, 27, 79, 80, 81, 82, 28, 83, 84, 85, 86, 25, 26, 87, 88, 36, 37, 38, 39, 89, 90, 91, 92, 93, 94, 18, 95, 96, 97, 98, 99, 100, 101, 102, 103, 104, 105, 106, 107, 108, 109, 110, 111, 112, 113, 114, 115, 116, 117, 118, 119, 120, 121, 122, 123, 124, 125, 33, 34, 35, 126, 127, 128, 129, 130, 131, 132, 133, 134, 135, 136, 137, 138, 139, 140, 15, 141, 142, 143, 144, 145, 146, 147, 148, 149, 16, 44, 45, 46, 47, 150, 151, 152, 153, 154, 155, 156, 157, 158, 159, 160, 161, 162, 163, 164, 165, 166, 167, 168, 169, 170, 171, 172, 173, 174, 175, 176, 177, 178, 179, 180, 181, 182, 183, 184, 185, 186, 187, 188, 189, 190, 191, 192, 193, 194, 195, 196, 197, 198, 199, 200, 201, 202, 203, 204, 205, 206, 207, 208, 209, 210, 211, 212, 213, 214, 215, 216, 217, 218, 219, 220, 221, 222, 223, 224] (by decide +kernel) (by decide +kernel)
set_option maxRecDepth 20000 in
theorem gX6_simulate_X6_takeTurn : GoodIn wsX6_simulate (wsV RX6 261 RX6 yX6_takeTurn wsX6_takeTurn) := goodIn_app (goodIn_of _ (by decide +kernel)) ggX6_simulate_X6_takeTurn
theorem dX6_simulate_0 : decode cX6_simulate 0 = .ok (.iload_n 3, 1) := by decide +kernel
theorem dX6_simulate_1 : decode cX6_simulate 1 = .ok (.iconst 1, 1) := by decide +kernel
theorem dX6_simulate_2 : decode cX6_simulate 2 = .ok (.if_icmp .lt 9, 3) := by decide +kernel
theorem dX6_simulate_5 : decode cX6_simulate 5 = .ok (.iload_n 3, 1) := by decide +kernel
theorem dX6_simulate_6 : decode cX6_simulate 6 = .ok (.bipush 99, 2) := by decide +kernel
theorem dX6_simulate_8 : decode cX6_simulate 8 = .ok (.if_icmp .le 13, 3) := by decide +kernel
theorem dX6_simulate_11 : decode cX6_simulate 11 = .ok (.new 49, 3) := by decide +kernel
theorem dX6_simulate_14 : decode cX6_simulate 14 = .ok (.dup, 1) := by decide +kernel
theorem dX6_simulate_15 : decode cX6_simulate 15 = .ok (.ldc 255, 2) := by decide +kernel
theorem dX6_simulate_17 : decode cX6_simulate 17 = .ok (.invokespecial 53, 3) := by decide +kernel
theorem dX6_simulate_20 : decode cX6_simulate 20 = .ok (.athrow, 1) := by decide +kernel
theorem dX6_simulate_21 : decode cX6_simulate 21 = .ok (.aload_n 0, 1) := by decide +kernel
theorem dX6_simulate_22 : decode cX6_simulate 22 = .ok (.getfield 16, 3) := by decide +kernel
theorem dX6_simulate_25 : decode cX6_simulate 25 = .ok (.aload_n 0, 1) := by decide +kernel
theorem dX6_simulate_26 : decode cX6_simulate 26 = .ok (.getfield 12, 3) := by decide +kernel
theorem dX6_simulate_29 : decode cX6_simulate 29 = .ok (.invokevirtual 159, 3) := by decide +kernel
theorem dX6_simulate_32 : decode cX6_simulate 32 = .ok (.aload_n 0, 1) := by decide +kernel
theorem dX6_simulate_33 : decode cX6_simulate 33 = .ok (.getfield 16, 3) := by decide +kernel
theorem dX6_simulate_36 : decode cX6_simulate 36 = .ok (.iconst 0, 1) := by decide +kernel
theorem dX6_simulate_37 : decode cX6_simulate 37 = .ok (.invokevirtual 95, 3) := by decide +kernel
theorem dX6_simulate_40 : decode cX6_simulate 40 = .ok (.istore 4, 2) := by decide +kernel
theorem dX6_simulate_42 : decode cX6_simulate 42 = .ok (.lload_n 1, 1) := by decide +kernel
theorem dX6_simulate_43 : decode cX6_simulate 43 = .ok (.lstore 5, 2) := by decide +kernel
theorem dX6_simulate_45 : decode cX6_simulate 45 = .ok (.iconst 0, 1) := by decide +kernel
theorem dX6_simulate_46 : decode cX6_simulate 46 = .ok (.istore 7, 2) := by decide +kernel
theorem dX6_simulate_48 : decode cX6_simulate 48 = .ok (.iload 7, 2) := by decide +kernel
theorem dX6_simulate_50 : decode cX6_simulate 50 = .ok (.iload_n 3, 1) := by decide +kernel
theorem dX6_simulate_51 : decode cX6_simulate 51 = .ok (.if_icmp .ge 31, 3) := by decide +kernel
theorem dX6_simulate_54 : decode cX6_simulate 54 = .ok (.lload 5, 2) := by decide +kernel
theorem dX6_simulate_56 : decode cX6_simulate 56 = .ok (.ldc2_w 257, 3) := by decide +kernel
theorem dX6_simulate_59 : decode cX6_simulate 59 = .ok (.lmul, 1) := by decide +kernel
theorem dX6_simulate_60 : decode cX6_simulate 60 = .ok (.ldc2_w 259, 3) := by decide +kernel
theorem dX6_simulate_63 : decode cX6_simulate 63 = .ok (.ladd, 1) := by decide +kernel
theorem dX6_simulate_64 : decode cX6_simulate 64 = .ok (.lstore 5, 2) := by decide +kernel
theorem dX6_simulate_66 : decode cX6_simulate 66 = .ok (.aload_n 0, 1) := by decide +kernel
theorem dX6_simulate_67 : decode cX6_simulate 67 = .ok (.lload 5, 2) := by decide +kernel
theorem dX6_simulate_69 : decode cX6_simulate 69 = .ok (.bipush 33, 2) := by decide +kernel
theorem dX6_simulate_71 : decode cX6_simulate 71 = .ok (.lushr, 1) := by decide +kernel
theorem dX6_simulate_72 : decode cX6_simulate 72 = .ok (.l2i, 1) := by decide +kernel
theorem dX6_simulate_73 : decode cX6_simulate 73 = .ok (.invokevirtual 261, 3) := by decide +kernel
theorem dX6_simulate_76 : decode cX6_simulate 76 = .ok (.iinc 7 1, 3) := by decide +kernel
theorem dX6_simulate_79 : decode cX6_simulate 79 = .ok (.goto (-31), 3) := by decide +kernel
theorem dX6_simulate_82 : decode cX6_simulate 82 = .ok (.bipush 100, 2) := by decide +kernel
theorem dX6_simulate_84 : decode cX6_simulate 84 = .ok (.aload_n 0, 1) := by decide +kernel
theorem dX6_simulate_85 : decode cX6_simulate 85 = .ok (.getfield 16, 3) := by decide +kernel
theorem dX6_simulate_88 : decode cX6_simulate 88 = .ok (.getfield 92, 3) := by decide +kernel
theorem dX6_simulate_91 : decode cX6_simulate 91 = .ok (.imul, 1) := by decide +kernel
theorem dX6_simulate_92 : decode cX6_simulate 92 = .ok (.aload_n 0, 1) := by decide +kernel
theorem dX6_simulate_93 : decode cX6_simulate 93 = .ok (.getfield 16, 3) := by decide +kernel
theorem dX6_simulate_96 : decode cX6_simulate 96 = .ok (.iconst 0, 1) := by decide +kernel
theorem dX6_simulate_97 : decode cX6_simulate 97 = .ok (.invokevirtual 95, 3) := by decide +kernel
theorem dX6_simulate_100 : decode cX6_simulate 100 = .ok (.iadd, 1) := by decide +kernel
theorem dX6_simulate_101 : decode cX6_simulate 101 = .ok (.iload 4, 2) := by decide +kernel
theorem dX6_simulate_103 : decode cX6_simulate 103 = .ok (.isub, 1) := by decide +kernel
theorem dX6_simulate_104 : decode cX6_simulate 104 = .ok (.ireturn, 1) := by decide +kernel
set_option maxRecDepth 20000 in
theorem ggX6_save_X3_keepCopy : GoodIn wsX6_save wsX3_keepCopy := goodIn_r _ [10, 11, 12, 13, 14, 15, 16, 17, 18, 19, 20, 21, 22, 23, 24, 25, 26, 27, 28, 29, 30, 31, 32, 33, 34, 35, 36, 37, 38, 39, 40, 41, 42, 43, 44, 45, 46, 47, 48, 49, 50, 51, 52, 53, 54, 55, 56, 69, 63, 64, 65, 66, 67, 68, 70, 71, 72, 73, 74] (by decide +kernel) (by decide +kernel)
set_option maxRecDepth 20000 in
theorem gX6_save_X3_keepCopy : GoodIn wsX6_save (wsV RX6 266 RX3 yX3_keepCopy wsX3_keepCopy) := goodIn_app (goodIn_of _ (by decide +kernel)) ggX6_save_X3_keepCopy
theorem dX6_save_0 : decode cX6_save 0 = .ok (.iload_n 1, 1) := by decide +kernel
theorem dX6_save_1 : decode cX6_save 1 = .ok (.ifCond .lt 8, 3) := by decide +kernel
theorem dX6_save_4 : decode cX6_save 4 = .ok (.iload_n 1, 1) := by decide +kernel
theorem dX6_save_5 : decode cX6_save 5 = .ok (.iconst 2, 1) := by decide +kernel
theorem dX6_save_6 : decode cX6_save 6 = .ok (.if_icmp .lt 14, 3) := by decide +kernel
theorem dX6_save_9 : decode cX6_save 9 = .ok (.new 110, 3) := by decide +kernel
theorem dX6_save_12 : decode cX6_save 12 = .ok (.dup, 1) := by decide +kernel
theorem dX6_save_13 : decode cX6_save 13 = .ok (.ldc_w 264, 3) := by decide +kernel
theorem dX6_save_16 : decode cX6_save 16 = .ok (.invokespecial 114, 3) := by decide +kernel
theorem dX6_save_19 : decode cX6_save 19 = .ok (.athrow, 1) := by decide +kernel
theorem dX6_save_20 : decode cX6_save 20 = .ok (.aload_n 0, 1) := by decide +kernel
theorem dX6_save_21 : decode cX6_save 21 = .ok (.getfield 45, 3) := by decide +kernel
theorem dX6_save_24 : decode cX6_save 24 = .ok (.iload_n 1, 1) := by decide +kernel
theorem dX6_save_25 : decode cX6_save 25 = .ok (.aload_n 0, 1) := by decide +kernel
theorem dX6_save_26 : decode cX6_save 26 = .ok (.getfield 12, 3) := by decide +kernel
theorem dX6_save_29 : decode cX6_save 29 = .ok (.invokevirtual 266, 3) := by decide +kernel
theorem dX6_save_32 : decode cX6_save 32 = .ok (.aload_n 0, 1) := by decide +kernel
theorem dX6_save_33 : decode cX6_save 33 = .ok (.getfield 12, 3) := by decide +kernel
theorem dX6_save_36 : decode cX6_save 36 = .ok (.getfield 92, 3) := by decide +kernel
theorem dX6_save_39 : decode cX6_save 39 = .ok (.ireturn, 1) := by decide +kernel
set_option maxRecDepth 20000 in
theorem ggX6_restore_X3_copyAt : GoodIn wsX6_restore wsX3_copyAt := goodIn_r _ [13, 14, 65] (by decide +kernel) (by decide +kernel)
set_option maxRecDepth 20000 in
theorem gX6_restore_X3_copyAt : GoodIn wsX6_restore (wsV RX6 270 RX3 yX3_copyAt wsX3_copyAt) := goodIn_app (goodIn_of _ (by decide +kernel)) ggX6_restore_X3_copyAt
set_option maxRecDepth 20000 in
theorem ggX6_restore_X4_copyFrom : GoodIn wsX6_restore wsX4_copyFrom := goodIn_r _ [19, 20, 21, 22, 23, 24, 25, 26, 27, 28, 29, 30, 31, 32, 33, 34, 35, 36, 37, 38, 39, 40, 41, 42, 43, 44, 45, 46, 59, 60, 61, 62, 63, 64, 66, 67, 68, 69, 70] (by decide +kernel) (by decide +kernel)
set_option maxRecDepth 20000 in
theorem gX6_restore_X4_copyFrom : GoodIn wsX6_restore (wsV RX6 159 RX4 yX4_copyFrom wsX4_copyFrom) := goodIn_app (goodIn_of _ (by decide +kernel)) ggX6_restore_X4_copyFrom
set_option maxRecDepth 20000 in
theorem ggX6_restore_X1_forgetAll : GoodIn wsX6_restore wsX1_forgetAll := goodIn_r _ [51, 52, 71, 72, 73] (by decide +kernel) (by decide +kernel)
set_option maxRecDepth 20000 in
theorem gX6_restore_X1_forgetAll : GoodIn wsX6_restore (wsV RX6 276 RX1 yX1_forgetAll wsX1_forgetAll) := goodIn_app (goodIn_of _ (by decide +kernel)) ggX6_restore_X1_forgetAll
theorem dX6_restore_0 : decode cX6_restore 0 = .ok (.iload_n 1, 1) := by decide +kernel
theorem dX6_restore_1 : decode cX6_restore 1 = .ok (.ifCond .lt 8, 3) := by decide +kernel
theorem dX6_restore_4 : decode cX6_restore 4 = .ok (.iload_n 1, 1) := by decide +kernel
theorem dX6_restore_5 : decode cX6_restore 5 = .ok (.iconst 2, 1) := by decide +kernel
theorem dX6_restore_6 : decode cX6_restore 6 = .ok (.if_icmp .lt 14, 3) := by decide +kernel
theorem dX6_restore_9 : decode cX6_restore 9 = .ok (.new 110, 3) := by decide +kernel
theorem dX6_restore_12 : decode cX6_restore 12 = .ok (.dup, 1) := by decide +kernel
theorem dX6_restore_13 : decode cX6_restore 13 = .ok (.ldc_w 264, 3) := by decide +kernel
theorem dX6_restore_16 : decode cX6_restore 16 = .ok (.invokespecial 114, 3) := by decide +kernel
theorem dX6_restore_19 : decode cX6_restore 19 = .ok (.athrow, 1) := by decide +kernel
theorem dX6_restore_20 : decode cX6_restore 20 = .ok (.aload_n 0, 1) := by decide +kernel
theorem dX6_restore_21 : decode cX6_restore 21 = .ok (.getfield 45, 3) := by decide +kernel
theorem dX6_restore_24 : decode cX6_restore 24 = .ok (.iload_n 1, 1) := by decide +kernel
theorem dX6_restore_25 : decode cX6_restore 25 = .ok (.invokevirtual 270, 3) := by decide +kernel
theorem dX6_restore_28 : decode cX6_restore 28 = .ok (.astore_n 2, 1) := by decide +kernel
theorem dX6_restore_29 : decode cX6_restore 29 = .ok (.aload_n 2, 1) := by decide +kernel
theorem dX6_restore_30 : decode cX6_restore 30 = .ok (.ifnonnull 14, 3) := by decide +kernel
theorem dX6_restore_33 : decode cX6_restore 33 = .ok (.new 60, 3) := by decide +kernel
theorem dX6_restore_36 : decode cX6_restore 36 = .ok (.dup, 1) := by decide +kernel
theorem dX6_restore_37 : decode cX6_restore 37 = .ok (.ldc_w 274, 3) := by decide +kernel
theorem dX6_restore_40 : decode cX6_restore 40 = .ok (.invokespecial 64, 3) := by decide +kernel
theorem dX6_restore_43 : decode cX6_restore 43 = .ok (.athrow, 1) := by decide +kernel
theorem dX6_restore_44 : decode cX6_restore 44 = .ok (.aload_n 0, 1) := by decide +kernel
theorem dX6_restore_45 : decode cX6_restore 45 = .ok (.getfield 12, 3) := by decide +kernel
theorem dX6_restore_48 : decode cX6_restore 48 = .ok (.aload_n 2, 1) := by decide +kernel
theorem dX6_restore_49 : decode cX6_restore 49 = .ok (.invokevirtual 159, 3) := by decide +kernel
theorem dX6_restore_52 : decode cX6_restore 52 = .ok (.aload_n 0, 1) := by decide +kernel
theorem dX6_restore_53 : decode cX6_restore 53 = .ok (.getfield 36, 3) := by decide +kernel
theorem dX6_restore_56 : decode cX6_restore 56 = .ok (.invokevirtual 276, 3) := by decide +kernel
theorem dX6_restore_59 : decode cX6_restore 59 = .ok (.aload_n 0, 1) := by decide +kernel
theorem dX6_restore_60 : decode cX6_restore 60 = .ok (.getfield 12, 3) := by decide +kernel
theorem dX6_restore_63 : decode cX6_restore 63 = .ok (.getfield 92, 3) := by decide +kernel
theorem dX6_restore_66 : decode cX6_restore 66 = .ok (.ireturn, 1) := by decide +kernel
theorem dX6_isOnGrid_0 : decode cX6_isOnGrid 0 = .ok (.iload_n 0, 1) := by decide +kernel
theorem dX6_isOnGrid_1 : decode cX6_isOnGrid 1 = .ok (.ifCond .lt 13, 3) := by decide +kernel
theorem dX6_isOnGrid_4 : decode cX6_isOnGrid 4 = .ok (.iload_n 0, 1) := by decide +kernel
theorem dX6_isOnGrid_5 : decode cX6_isOnGrid 5 = .ok (.bipush 60, 2) := by decide +kernel
theorem dX6_isOnGrid_7 : decode cX6_isOnGrid 7 = .ok (.if_icmp .gt 7, 3) := by decide +kernel
theorem dX6_isOnGrid_10 : decode cX6_isOnGrid 10 = .ok (.iconst 1, 1) := by decide +kernel
theorem dX6_isOnGrid_11 : decode cX6_isOnGrid 11 = .ok (.goto 4, 3) := by decide +kernel
theorem dX6_isOnGrid_14 : decode cX6_isOnGrid 14 = .ok (.iconst 0, 1) := by decide +kernel
theorem dX6_isOnGrid_15 : decode cX6_isOnGrid 15 = .ok (.ireturn, 1) := by decide +kernel
theorem dX6_isName_0 : decode cX6_isName 0 = .ok (.iload_n 0, 1) := by decide +kernel
theorem dX6_isName_1 : decode cX6_isName 1 = .ok (.ifCond .lt 13, 3) := by decide +kernel
theorem dX6_isName_4 : decode cX6_isName 4 = .ok (.iload_n 0, 1) := by decide +kernel
theorem dX6_isName_5 : decode cX6_isName 5 = .ok (.bipush 10, 2) := by decide +kernel
theorem dX6_isName_7 : decode cX6_isName 7 = .ok (.if_icmp .ge 7, 3) := by decide +kernel
theorem dX6_isName_10 : decode cX6_isName 10 = .ok (.iconst 1, 1) := by decide +kernel
theorem dX6_isName_11 : decode cX6_isName 11 = .ok (.goto 4, 3) := by decide +kernel
theorem dX6_isName_14 : decode cX6_isName 14 = .ok (.iconst 0, 1) := by decide +kernel
theorem dX6_isName_15 : decode cX6_isName 15 = .ok (.ireturn, 1) := by decide +kernel
theorem dX6_isSetting_0 : decode cX6_isSetting 0 = .ok (.iload_n 0, 1) := by decide +kernel
theorem dX6_isSetting_1 : decode cX6_isSetting 1 = .ok (.tableswitch 77 0 2 #[27, 44, 60], 27) := by decide +kernel
theorem dX6_isSetting_28 : decode cX6_isSetting 28 = .ok (.iload_n 1, 1) := by decide +kernel
theorem dX6_isSetting_29 : decode cX6_isSetting 29 = .ok (.iconst 5, 1) := by decide +kernel
theorem dX6_isSetting_30 : decode cX6_isSetting 30 = .ok (.if_icmp .lt 13, 3) := by decide +kernel
theorem dX6_isSetting_33 : decode cX6_isSetting 33 = .ok (.iload_n 1, 1) := by decide +kernel
theorem dX6_isSetting_34 : decode cX6_isSetting 34 = .ok (.bipush 20, 2) := by decide +kernel
theorem dX6_isSetting_36 : decode cX6_isSetting 36 = .ok (.if_icmp .gt 7, 3) := by decide +kernel
theorem dX6_isSetting_39 : decode cX6_isSetting 39 = .ok (.iconst 1, 1) := by decide +kernel
theorem dX6_isSetting_40 : decode cX6_isSetting 40 = .ok (.goto 4, 3) := by decide +kernel
theorem dX6_isSetting_43 : decode cX6_isSetting 43 = .ok (.iconst 0, 1) := by decide +kernel
theorem dX6_isSetting_44 : decode cX6_isSetting 44 = .ok (.ireturn, 1) := by decide +kernel
theorem dX6_isSetting_45 : decode cX6_isSetting 45 = .ok (.iload_n 1, 1) := by decide +kernel
theorem dX6_isSetting_46 : decode cX6_isSetting 46 = .ok (.ifCond .lt 13, 3) := by decide +kernel
theorem dX6_isSetting_49 : decode cX6_isSetting 49 = .ok (.iload_n 1, 1) := by decide +kernel
theorem dX6_isSetting_50 : decode cX6_isSetting 50 = .ok (.bipush 99, 2) := by decide +kernel
theorem dX6_isSetting_52 : decode cX6_isSetting 52 = .ok (.if_icmp .gt 7, 3) := by decide +kernel
theorem dX6_isSetting_55 : decode cX6_isSetting 55 = .ok (.iconst 1, 1) := by decide +kernel
theorem dX6_isSetting_56 : decode cX6_isSetting 56 = .ok (.goto 4, 3) := by decide +kernel
theorem dX6_isSetting_59 : decode cX6_isSetting 59 = .ok (.iconst 0, 1) := by decide +kernel
theorem dX6_isSetting_60 : decode cX6_isSetting 60 = .ok (.ireturn, 1) := by decide +kernel
theorem dX6_isSetting_61 : decode cX6_isSetting 61 = .ok (.iload_n 1, 1) := by decide +kernel
theorem dX6_isSetting_62 : decode cX6_isSetting 62 = .ok (.iconst 1, 1) := by decide +kernel
theorem dX6_isSetting_63 : decode cX6_isSetting 63 = .ok (.if_icmp .lt 13, 3) := by decide +kernel
theorem dX6_isSetting_66 : decode cX6_isSetting 66 = .ok (.iload_n 1, 1) := by decide +kernel
theorem dX6_isSetting_67 : decode cX6_isSetting 67 = .ok (.bipush 20, 2) := by decide +kernel
theorem dX6_isSetting_69 : decode cX6_isSetting 69 = .ok (.if_icmp .gt 7, 3) := by decide +kernel
theorem dX6_isSetting_72 : decode cX6_isSetting 72 = .ok (.iconst 1, 1) := by decide +kernel
theorem dX6_isSetting_73 : decode cX6_isSetting 73 = .ok (.goto 4, 3) := by decide +kernel
theorem dX6_isSetting_76 : decode cX6_isSetting 76 = .ok (.iconst 0, 1) := by decide +kernel
theorem dX6_isSetting_77 : decode cX6_isSetting 77 = .ok (.ireturn, 1) := by decide +kernel
theorem dX6_isSetting_78 : decode cX6_isSetting 78 = .ok (.iconst 0, 1) := by decide +kernel
theorem dX6_isSetting_79 : decode cX6_isSetting 79 = .ok (.ireturn, 1) := by decide +kernel
theorem dX6_cell_0 : decode cX6_cell 0 = .ok (.iload_n 1, 1) := by decide +kernel
theorem dX6_cell_1 : decode cX6_cell 1 = .ok (.ifCond .lt 15, 3) := by decide +kernel
theorem dX6_cell_4 : decode cX6_cell 4 = .ok (.iload_n 1, 1) := by decide +kernel
theorem dX6_cell_5 : decode cX6_cell 5 = .ok (.aload_n 0, 1) := by decide +kernel
theorem dX6_cell_6 : decode cX6_cell 6 = .ok (.arraylength, 1) := by decide +kernel
theorem dX6_cell_7 : decode cX6_cell 7 = .ok (.if_icmp .ge 9, 3) := by decide +kernel
theorem dX6_cell_10 : decode cX6_cell 10 = .ok (.aload_n 0, 1) := by decide +kernel
theorem dX6_cell_11 : decode cX6_cell 11 = .ok (.iload_n 1, 1) := by decide +kernel
theorem dX6_cell_12 : decode cX6_cell 12 = .ok (.iaload, 1) := by decide +kernel
theorem dX6_cell_13 : decode cX6_cell 13 = .ok (.goto 4, 3) := by decide +kernel
theorem dX6_cell_16 : decode cX6_cell 16 = .ok (.iconst 0, 1) := by decide +kernel
theorem dX6_cell_17 : decode cX6_cell 17 = .ok (.ireturn, 1) := by decide +kernel
theorem dX6_putCell_0 : decode cX6_putCell 0 = .ok (.iload_n 1, 1) := by decide +kernel
theorem dX6_putCell_1 : decode cX6_putCell 1 = .ok (.ifCond .lt 13, 3) := by decide +kernel
theorem dX6_putCell_4 : decode cX6_putCell 4 = .ok (.iload_n 1, 1) := by decide +kernel
theorem dX6_putCell_5 : decode cX6_putCell 5 = .ok (.aload_n 0, 1) := by decide +kernel
theorem dX6_putCell_6 : decode cX6_putCell 6 = .ok (.arraylength, 1) := by decide +kernel
theorem dX6_putCell_7 : decode cX6_putCell 7 = .ok (.if_icmp .ge 7, 3) := by decide +kernel
theorem dX6_putCell_10 : decode cX6_putCell 10 = .ok (.aload_n 0, 1) := by decide +kernel
theorem dX6_putCell_11 : decode cX6_putCell 11 = .ok (.iload_n 1, 1) := by decide +kernel
theorem dX6_putCell_12 : decode cX6_putCell 12 = .ok (.iload_n 2, 1) := by decide +kernel
theorem dX6_putCell_13 : decode cX6_putCell 13 = .ok (.iastore, 1) := by decide +kernel
theorem dX6_putCell_14 : decode cX6_putCell 14 = .ok (.return_, 1) := by decide +kernel
theorem dX6_copyCells_0 : decode cX6_copyCells 0 = .ok (.iload 4, 2) := by decide +kernel
theorem dX6_copyCells_2 : decode cX6_copyCells 2 = .ok (.ifCond .lt 47, 3) := by decide +kernel
theorem dX6_copyCells_5 : decode cX6_copyCells 5 = .ok (.iload_n 1, 1) := by decide +kernel
theorem dX6_copyCells_6 : decode cX6_copyCells 6 = .ok (.ifCond .lt 43, 3) := by decide +kernel
theorem dX6_copyCells_9 : decode cX6_copyCells 9 = .ok (.iload_n 3, 1) := by decide +kernel
theorem dX6_copyCells_10 : decode cX6_copyCells 10 = .ok (.ifCond .lt 39, 3) := by decide +kernel
theorem dX6_copyCells_13 : decode cX6_copyCells 13 = .ok (.iload 4, 2) := by decide +kernel
theorem dX6_copyCells_15 : decode cX6_copyCells 15 = .ok (.aload_n 0, 1) := by decide +kernel
theorem dX6_copyCells_16 : decode cX6_copyCells 16 = .ok (.arraylength, 1) := by decide +kernel
theorem dX6_copyCells_17 : decode cX6_copyCells 17 = .ok (.if_icmp .gt 32, 3) := by decide +kernel
theorem dX6_copyCells_20 : decode cX6_copyCells 20 = .ok (.iload_n 1, 1) := by decide +kernel
theorem dX6_copyCells_21 : decode cX6_copyCells 21 = .ok (.aload_n 0, 1) := by decide +kernel
theorem dX6_copyCells_22 : decode cX6_copyCells 22 = .ok (.arraylength, 1) := by decide +kernel
theorem dX6_copyCells_23 : decode cX6_copyCells 23 = .ok (.iload 4, 2) := by decide +kernel
theorem dX6_copyCells_25 : decode cX6_copyCells 25 = .ok (.isub, 1) := by decide +kernel
theorem dX6_copyCells_26 : decode cX6_copyCells 26 = .ok (.if_icmp .gt 23, 3) := by decide +kernel
theorem dX6_copyCells_29 : decode cX6_copyCells 29 = .ok (.iload 4, 2) := by decide +kernel
theorem dX6_copyCells_31 : decode cX6_copyCells 31 = .ok (.aload_n 2, 1) := by decide +kernel
theorem dX6_copyCells_32 : decode cX6_copyCells 32 = .ok (.arraylength, 1) := by decide +kernel
theorem dX6_copyCells_33 : decode cX6_copyCells 33 = .ok (.if_icmp .gt 16, 3) := by decide +kernel
theorem dX6_copyCells_36 : decode cX6_copyCells 36 = .ok (.iload_n 3, 1) := by decide +kernel
theorem dX6_copyCells_37 : decode cX6_copyCells 37 = .ok (.aload_n 2, 1) := by decide +kernel
theorem dX6_copyCells_38 : decode cX6_copyCells 38 = .ok (.arraylength, 1) := by decide +kernel
theorem dX6_copyCells_39 : decode cX6_copyCells 39 = .ok (.iload 4, 2) := by decide +kernel
theorem dX6_copyCells_41 : decode cX6_copyCells 41 = .ok (.isub, 1) := by decide +kernel
theorem dX6_copyCells_42 : decode cX6_copyCells 42 = .ok (.if_icmp .gt 7, 3) := by decide +kernel
theorem dX6_copyCells_45 : decode cX6_copyCells 45 = .ok (.iconst 1, 1) := by decide +kernel
theorem dX6_copyCells_46 : decode cX6_copyCells 46 = .ok (.goto 4, 3) := by decide +kernel
theorem dX6_copyCells_49 : decode cX6_copyCells 49 = .ok (.iconst 0, 1) := by decide +kernel
theorem dX6_copyCells_50 : decode cX6_copyCells 50 = .ok (.istore 5, 2) := by decide +kernel
theorem dX6_copyCells_52 : decode cX6_copyCells 52 = .ok (.iload 5, 2) := by decide +kernel
theorem dX6_copyCells_54 : decode cX6_copyCells 54 = .ok (.ifCond .eq 12, 3) := by decide +kernel
theorem dX6_copyCells_57 : decode cX6_copyCells 57 = .ok (.aload_n 0, 1) := by decide +kernel
theorem dX6_copyCells_58 : decode cX6_copyCells 58 = .ok (.iload_n 1, 1) := by decide +kernel
theorem dX6_copyCells_59 : decode cX6_copyCells 59 = .ok (.aload_n 2, 1) := by decide +kernel
theorem dX6_copyCells_60 : decode cX6_copyCells 60 = .ok (.iload_n 3, 1) := by decide +kernel
theorem dX6_copyCells_61 : decode cX6_copyCells 61 = .ok (.iload 4, 2) := by decide +kernel
theorem dX6_copyCells_63 : decode cX6_copyCells 63 = .ok (.invokestatic 279, 3) := by decide +kernel
theorem dX6_copyCells_66 : decode cX6_copyCells 66 = .ok (.return_, 1) := by decide +kernel
theorem dX6_copyRow_0 : decode cX6_copyRow 0 = .ok (.aload_n 0, 1) := by decide +kernel
theorem dX6_copyRow_1 : decode cX6_copyRow 1 = .ok (.iconst 0, 1) := by decide +kernel
theorem dX6_copyRow_2 : decode cX6_copyRow 2 = .ok (.aload_n 1, 1) := by decide +kernel
theorem dX6_copyRow_3 : decode cX6_copyRow 3 = .ok (.iconst 0, 1) := by decide +kernel
theorem dX6_copyRow_4 : decode cX6_copyRow 4 = .ok (.aload_n 0, 1) := by decide +kernel
theorem dX6_copyRow_5 : decode cX6_copyRow 5 = .ok (.arraylength, 1) := by decide +kernel
theorem dX6_copyRow_6 : decode cX6_copyRow 6 = .ok (.aload_n 1, 1) := by decide +kernel
theorem dX6_copyRow_7 : decode cX6_copyRow 7 = .ok (.arraylength, 1) := by decide +kernel
theorem dX6_copyRow_8 : decode cX6_copyRow 8 = .ok (.invokestatic 285, 3) := by decide +kernel
theorem dX6_copyRow_11 : decode cX6_copyRow 11 = .ok (.invokestatic 279, 3) := by decide +kernel
theorem dX6_copyRow_14 : decode cX6_copyRow 14 = .ok (.return_, 1) := by decide +kernel
set_option maxRecDepth 20000 in
theorem ggX6_practiseOn_X0_strokesOf : GoodIn wsX6_practiseOn wsX0_strokesOf := goodIn_r _ [9, 10, 11, 12, 13, 108, 109, 110, 111, 112] (by decide +kernel) (by decide +kernel)
set_option maxRecDepth 20000 in
theorem gX6_practiseOn_X0_strokesOf : GoodIn wsX6_practiseOn (wsV RX6 76 RX0 yX0_strokesOf wsX0_strokesOf) := goodIn_app (goodIn_of _ (by decide +kernel)) ggX6_practiseOn_X0_strokesOf
set_option maxRecDepth 20000 in
theorem ggX6_practiseOn_X2_readFigure : GoodIn wsX6_practiseOn wsX2_readFigure := goodIn_r _ [18, 19, 20, 21, 22, 23, 24, 25, 26, 27, 28, 17, 29, 30, 31, 32, 33, 34, 35, 36, 37, 8, 38, 39, 11, 12, 13, 40, 41, 42, 43, 44, 45, 46, 47, 48, 49, 50, 51, 52, 53, 54, 55, 56, 57, 58, 59, 60, 61, 62, 63, 64, 65, 66, 67, 68, 69, 70, 102, 103, 104, 105, 106, 107, 90, 91, 92, 93, 94, 95, 108, 109, 110, 111, 112] (by decide +kernel) (by decide +kernel)
set_option maxRecDepth 20000 in
theorem gX6_practiseOn_X2_readFigure : GoodIn wsX6_practiseOn (wsV RX6 207 RX2 yX2_readFigure wsX2_readFigure) := goodIn_app (goodIn_of _ (by decide +kernel)) ggX6_practiseOn_X2_readFigure
set_option maxRecDepth 20000 in
theorem ggX6_practiseOn_X4_countOutcome : GoodIn wsX6_practiseOn wsX4_countOutcome := goodIn_r _ [74, 75, 76, 77, 78, 59, 79, 11, 12, 13, 40, 41, 90, 91, 92, 93, 94, 95] (by decide +kernel) (by decide +kernel)
set_option maxRecDepth 20000 in
theorem gX6_practiseOn_X4_countOutcome : GoodIn wsX6_practiseOn (wsV RX6 290 RX4 yX4_countOutcome wsX4_countOutcome) := goodIn_app (goodIn_of _ (by decide +kernel)) ggX6_practiseOn_X4_countOutcome
set_option maxRecDepth 20000 in
theorem ggX6_practiseOn_X4_clearHand : GoodIn wsX6_practiseOn wsX4_clearHand := goodIn_r _ [83, 84, 85, 86, 87, 88, 8, 89, 10, 39, 40, 12, 41, 90, 91, 92, 93, 94, 95, 108, 109, 110, 111, 112] (by decide +kernel) (by decide +kernel)
set_option maxRecDepth 20000 in
theorem gX6_practiseOn_X4_clearHand : GoodIn wsX6_practiseOn (wsV RX6 162 RX4 yX4_clearHand wsX4_clearHand) := goodIn_app (goodIn_of _ (by decide +kernel)) ggX6_practiseOn_X4_clearHand
theorem dX6_practiseOn_0 : decode cX6_practiseOn 0 = .ok (.aload_n 1, 1) := by decide +kernel
theorem dX6_practiseOn_1 : decode cX6_practiseOn 1 = .ok (.getfield 72, 3) := by decide +kernel
theorem dX6_practiseOn_4 : decode cX6_practiseOn 4 = .ok (.bipush 16, 2) := by decide +kernel
theorem dX6_practiseOn_6 : decode cX6_practiseOn 6 = .ok (.invokevirtual 76, 3) := by decide +kernel
theorem dX6_practiseOn_9 : decode cX6_practiseOn 9 = .ok (.ifCond .ne 5, 3) := by decide +kernel
theorem dX6_practiseOn_12 : decode cX6_practiseOn 12 = .ok (.iconst (-1), 1) := by decide +kernel
theorem dX6_practiseOn_13 : decode cX6_practiseOn 13 = .ok (.ireturn, 1) := by decide +kernel
theorem dX6_practiseOn_14 : decode cX6_practiseOn 14 = .ok (.aload_n 0, 1) := by decide +kernel
theorem dX6_practiseOn_15 : decode cX6_practiseOn 15 = .ok (.getfield 22, 3) := by decide +kernel
theorem dX6_practiseOn_18 : decode cX6_practiseOn 18 = .ok (.aload_n 1, 1) := by decide +kernel
theorem dX6_practiseOn_19 : decode cX6_practiseOn 19 = .ok (.bipush 16, 2) := by decide +kernel
theorem dX6_practiseOn_21 : decode cX6_practiseOn 21 = .ok (.iconst (-1), 1) := by decide +kernel
theorem dX6_practiseOn_22 : decode cX6_practiseOn 22 = .ok (.invokevirtual 207, 3) := by decide +kernel
theorem dX6_practiseOn_25 : decode cX6_practiseOn 25 = .ok (.iconst 2, 1) := by decide +kernel
theorem dX6_practiseOn_26 : decode cX6_practiseOn 26 = .ok (.istore_n 3, 1) := by decide +kernel
theorem dX6_practiseOn_27 : decode cX6_practiseOn 27 = .ok (.aload_n 0, 1) := by decide +kernel
theorem dX6_practiseOn_28 : decode cX6_practiseOn 28 = .ok (.getfield 22, 3) := by decide +kernel
theorem dX6_practiseOn_31 : decode cX6_practiseOn 31 = .ok (.getfield 211, 3) := by decide +kernel
theorem dX6_practiseOn_34 : decode cX6_practiseOn 34 = .ok (.ifCond .eq 8, 3) := by decide +kernel
theorem dX6_practiseOn_37 : decode cX6_practiseOn 37 = .ok (.iconst 1, 1) := by decide +kernel
theorem dX6_practiseOn_38 : decode cX6_practiseOn 38 = .ok (.istore_n 3, 1) := by decide +kernel
theorem dX6_practiseOn_39 : decode cX6_practiseOn 39 = .ok (.goto 16, 3) := by decide +kernel
theorem dX6_practiseOn_42 : decode cX6_practiseOn 42 = .ok (.aload_n 0, 1) := by decide +kernel
theorem dX6_practiseOn_43 : decode cX6_practiseOn 43 = .ok (.getfield 22, 3) := by decide +kernel
theorem dX6_practiseOn_46 : decode cX6_practiseOn 46 = .ok (.getfield 214, 3) := by decide +kernel
theorem dX6_practiseOn_49 : decode cX6_practiseOn 49 = .ok (.iload_n 2, 1) := by decide +kernel
theorem dX6_practiseOn_50 : decode cX6_practiseOn 50 = .ok (.if_icmp .ne 5, 3) := by decide +kernel
theorem dX6_practiseOn_53 : decode cX6_practiseOn 53 = .ok (.iconst 0, 1) := by decide +kernel
theorem dX6_practiseOn_54 : decode cX6_practiseOn 54 = .ok (.istore_n 3, 1) := by decide +kernel
theorem dX6_practiseOn_55 : decode cX6_practiseOn 55 = .ok (.aload_n 1, 1) := by decide +kernel
theorem dX6_practiseOn_56 : decode cX6_practiseOn 56 = .ok (.iload_n 2, 1) := by decide +kernel
theorem dX6_practiseOn_57 : decode cX6_practiseOn 57 = .ok (.iload_n 3, 1) := by decide +kernel
theorem dX6_practiseOn_58 : decode cX6_practiseOn 58 = .ok (.invokevirtual 290, 3) := by decide +kernel
theorem dX6_practiseOn_61 : decode cX6_practiseOn 61 = .ok (.aload_n 1, 1) := by decide +kernel
theorem dX6_practiseOn_62 : decode cX6_practiseOn 62 = .ok (.invokevirtual 162, 3) := by decide +kernel
theorem dX6_practiseOn_65 : decode cX6_practiseOn 65 = .ok (.iload_n 3, 1) := by decide +kernel
theorem dX6_practiseOn_66 : decode cX6_practiseOn 66 = .ok (.ireturn, 1) := by decide +kernel
set_option maxRecDepth 20000 in
theorem ggX6_leastOfPairs_X2_closestPair : GoodIn wsX6_leastOfPairs wsX2_closestPair := goodIn_r _ [7, 8, 9, 10, 11, 12, 13, 14, 15, 16, 17, 18, 19, 20, 21, 6, 22, 23, 24, 25, 26, 27, 28, 29, 30, 31, 32, 33, 34, 35, 36, 37, 38, 39, 40, 41, 42, 43, 44, 45, 46, 47, 48, 49, 57, 58, 59, 60, 61, 62, 63, 64, 65, 66, 67, 68, 69, 70, 71, 72, 73] (by decide +kernel) (by decide +kernel)
set_option maxRecDepth 20000 in
theorem gX6_leastOfPairs_X2_closestPair : GoodIn wsX6_leastOfPairs (wsV RX6 232 RX2 yX2_closestPair wsX2_closestPair) := goodIn_app (goodIn_of _ (by decide +kernel)) ggX6_leastOfPairs_X2_closestPair
set_option maxRecDepth 20000 in
theorem ggX6_leastOfPairs_X2_distanceOf : GoodIn wsX6_leastOfPairs wsX2_distanceOf := goodIn_r _ [22, 23, 24, 25, 26, 27, 28, 29, 30, 31, 32, 33, 16, 17, 18, 34, 35, 36, 37, 38, 39, 40, 41, 42, 6, 43, 44, 45, 46, 47, 48, 49, 63, 64, 65, 66, 67, 68, 69, 70, 71, 72, 73] (by decide +kernel) (by decide +kernel)
set_option maxRecDepth 20000 in
theorem gX6_leastOfPairs_X2_distanceOf : GoodIn wsX6_leastOfPairs (wsV RX6 228 RX2 yX2_distanceOf wsX2_distanceOf) := goodIn_app (goodIn_of _ (by decide +kernel)) ggX6_leastOfPairs_X2_distanceOf
theorem dX6_leastOfPairs_0 : decode cX6_leastOfPairs 0 = .ok (.aload_n 0, 1) := by decide +kernel
theorem dX6_leastOfPairs_1 : decode cX6_leastOfPairs 1 = .ok (.getfield 22, 3) := by decide +kernel
theorem dX6_leastOfPairs_4 : decode cX6_leastOfPairs 4 = .ok (.aload_n 1, 1) := by decide +kernel
theorem dX6_leastOfPairs_5 : decode cX6_leastOfPairs 5 = .ok (.iload_n 2, 1) := by decide +kernel
theorem dX6_leastOfPairs_6 : decode cX6_leastOfPairs 6 = .ok (.invokevirtual 232, 3) := by decide +kernel
theorem dX6_leastOfPairs_9 : decode cX6_leastOfPairs 9 = .ok (.istore_n 3, 1) := by decide +kernel
theorem dX6_leastOfPairs_10 : decode cX6_leastOfPairs 10 = .ok (.iload_n 3, 1) := by decide +kernel
theorem dX6_leastOfPairs_11 : decode cX6_leastOfPairs 11 = .ok (.iconst (-1), 1) := by decide +kernel
theorem dX6_leastOfPairs_12 : decode cX6_leastOfPairs 12 = .ok (.if_icmp .ne 7, 3) := by decide +kernel
theorem dX6_leastOfPairs_15 : decode cX6_leastOfPairs 15 = .ok (.iconst (-1), 1) := by decide +kernel
theorem dX6_leastOfPairs_16 : decode cX6_leastOfPairs 16 = .ok (.goto 22, 3) := by decide +kernel
theorem dX6_leastOfPairs_19 : decode cX6_leastOfPairs 19 = .ok (.aload_n 0, 1) := by decide +kernel
theorem dX6_leastOfPairs_20 : decode cX6_leastOfPairs 20 = .ok (.getfield 22, 3) := by decide +kernel
theorem dX6_leastOfPairs_23 : decode cX6_leastOfPairs 23 = .ok (.aload_n 1, 1) := by decide +kernel
theorem dX6_leastOfPairs_24 : decode cX6_leastOfPairs 24 = .ok (.getfield 72, 3) := by decide +kernel
theorem dX6_leastOfPairs_27 : decode cX6_leastOfPairs 27 = .ok (.iload_n 3, 1) := by decide +kernel
theorem dX6_leastOfPairs_28 : decode cX6_leastOfPairs 28 = .ok (.bipush 100, 2) := by decide +kernel
theorem dX6_leastOfPairs_30 : decode cX6_leastOfPairs 30 = .ok (.idiv, 1) := by decide +kernel
theorem dX6_leastOfPairs_31 : decode cX6_leastOfPairs 31 = .ok (.iload_n 3, 1) := by decide +kernel
theorem dX6_leastOfPairs_32 : decode cX6_leastOfPairs 32 = .ok (.bipush 100, 2) := by decide +kernel
theorem dX6_leastOfPairs_34 : decode cX6_leastOfPairs 34 = .ok (.irem, 1) := by decide +kernel
theorem dX6_leastOfPairs_35 : decode cX6_leastOfPairs 35 = .ok (.invokevirtual 228, 3) := by decide +kernel
theorem dX6_leastOfPairs_38 : decode cX6_leastOfPairs 38 = .ok (.ireturn, 1) := by decide +kernel
theorem dX6_withoutGroups_0 : decode cX6_withoutGroups 0 = .ok (.lload_n 0, 1) := by decide +kernel
theorem dX6_withoutGroups_1 : decode cX6_withoutGroups 1 = .ok (.lstore_n 3, 1) := by decide +kernel
theorem dX6_withoutGroups_2 : decode cX6_withoutGroups 2 = .ok (.iconst 0, 1) := by decide +kernel
theorem dX6_withoutGroups_3 : decode cX6_withoutGroups 3 = .ok (.istore 5, 2) := by decide +kernel
theorem dX6_withoutGroups_5 : decode cX6_withoutGroups 5 = .ok (.iload 5, 2) := by decide +kernel
theorem dX6_withoutGroups_7 : decode cX6_withoutGroups 7 = .ok (.iload_n 2, 1) := by decide +kernel
theorem dX6_withoutGroups_8 : decode cX6_withoutGroups 8 = .ok (.if_icmp .ge 15, 3) := by decide +kernel
theorem dX6_withoutGroups_11 : decode cX6_withoutGroups 11 = .ok (.lload_n 3, 1) := by decide +kernel
theorem dX6_withoutGroups_12 : decode cX6_withoutGroups 12 = .ok (.ldc2_w 250, 3) := by decide +kernel
theorem dX6_withoutGroups_15 : decode cX6_withoutGroups 15 = .ok (.ldiv, 1) := by decide +kernel
theorem dX6_withoutGroups_16 : decode cX6_withoutGroups 16 = .ok (.lstore_n 3, 1) := by decide +kernel
theorem dX6_withoutGroups_17 : decode cX6_withoutGroups 17 = .ok (.iinc 5 1, 3) := by decide +kernel
theorem dX6_withoutGroups_20 : decode cX6_withoutGroups 20 = .ok (.goto (-15), 3) := by decide +kernel
theorem dX6_withoutGroups_23 : decode cX6_withoutGroups 23 = .ok (.lload_n 3, 1) := by decide +kernel
theorem dX6_withoutGroups_24 : decode cX6_withoutGroups 24 = .ok (.lreturn, 1) := by decide +kernel
set_option maxRecDepth 20000 in
theorem ggX6_commandSucceeds_X4_addPoint : GoodIn wsX6_commandSucceeds wsX4_addPoint := goodIn_r _ [11, 12, 13, 14, 15, 16, 17, 18, 19, 10, 20, 21, 22, 23, 24, 25, 26, 27, 28, 29, 30, 31, 32, 33, 34, 35, 36, 37, 38, 39, 40, 41, 42, 43, 44, 45, 46, 47, 48, 49, 50, 51, 52, 53, 54, 55, 56, 57, 58, 59, 60, 61, 62, 63, 64, 65, 66, 67, 68, 69, 70, 71, 72, 73, 74, 75, 76, 77, 78, 79, 80, 221, 222, 223, 224, 225, 226, 227, 228, 229, 230, 231] (by decide +kernel) (by decide +kernel)
set_option maxRecDepth 20000 in
theorem gX6_commandSucceeds_X4_addPoint : GoodIn wsX6_commandSucceeds (wsV RX6 142 RX4 yX4_addPoint wsX4_addPoint) := goodIn_app (goodIn_of _ (by decide +kernel)) ggX6_commandSucceeds_X4_addPoint
set_option maxRecDepth 20000 in
theorem ggX6_commandSucceeds_X4_liftPen : GoodIn wsX6_commandSucceeds wsX4_liftPen := goodIn_r _ [84, 12, 221, 222, 223, 224, 225, 226] (by decide +kernel) (by decide +kernel)
set_option maxRecDepth 20000 in
theorem gX6_commandSucceeds_X4_liftPen : GoodIn wsX6_commandSucceeds (wsV RX6 154 RX4 yX4_liftPen wsX4_liftPen) := goodIn_app (goodIn_of _ (by decide +kernel)) ggX6_commandSucceeds_X4_liftPen
set_option maxRecDepth 20000 in
theorem ggX6_commandSucceeds_X4_keepHand : GoodIn wsX6_commandSucceeds wsX4_keepHand := goodIn_r _ [88, 13, 89, 90, 91, 31, 32, 27, 33, 34, 22, 15, 23, 92, 93, 94, 10, 95, 96, 97, 98, 99, 100, 101, 102, 103, 104, 45, 46, 47, 48, 105, 106, 107, 108, 76, 109, 110, 111, 112, 29, 43, 113, 114, 115, 116, 117, 118, 59, 60, 119, 120, 121, 122, 12, 123, 124, 125, 126, 221, 222, 223, 224, 225, 226, 227, 228, 229, 230, 231] (by decide +kernel) (by decide +kernel)
set_option maxRecDepth 20000 in
theorem gX6_commandSucceeds_X4_keepHand : GoodIn wsX6_commandSucceeds (wsV RX6 171 RX4 yX4_keepHand wsX4_keepHand) := goodIn_app (goodIn_of _ (by decide +kernel)) ggX6_commandSucceeds_X4_keepHand
set_option maxRecDepth 20000 in
theorem ggX6_commandSucceeds_X4_dropSample : GoodIn wsX6_commandSucceeds wsX4_dropSample := goodIn_r _ [130, 89, 13, 90, 131, 132, 133, 10, 134, 109, 110, 111, 27, 112, 34, 29, 43, 48, 76, 113, 15, 114, 115, 116, 117, 118, 96, 97, 98, 99, 22, 23, 59, 60, 221, 222, 223, 224, 225, 226, 227, 228, 229, 230, 231] (by decide +kernel) (by decide +kernel)
set_option maxRecDepth 20000 in
theorem gX6_commandSucceeds_X4_dropSample : GoodIn wsX6_commandSucceeds (wsV RX6 176 RX4 yX4_dropSample wsX4_dropSample) := goodIn_app (goodIn_of _ (by decide +kernel)) ggX6_commandSucceeds_X4_dropSample
set_option maxRecDepth 20000 in
theorem ggX6_commandSucceeds_X6_isSetting : GoodIn wsX6_commandSucceeds wsX6_isSetting := goodIn_r _ [137] (by decide +kernel) (by decide +kernel)
set_option maxRecDepth 20000 in
theorem gX6_commandSucceeds_X6_isSetting : GoodIn wsX6_commandSucceeds (va_wsS RX6 185 yX6_isSetting wsX6_isSetting) := goodIn_app (goodIn_of _ (by decide +kernel)) ggX6_commandSucceeds_X6_isSetting
set_option maxRecDepth 20000 in
theorem ggX6_commandSucceeds_X4_changeSetting : GoodIn wsX6_commandSucceeds wsX4_changeSetting := goodIn_r _ [141, 21, 89, 13, 142, 143, 144, 10, 145, 146, 147, 148, 27, 149, 150, 151, 57, 152, 30, 31, 32, 33, 34, 22, 15, 23, 35, 36, 37, 38, 29, 39, 40, 41, 42, 43, 49, 50, 51, 52, 53, 54, 55, 56, 58, 59, 60, 153, 154, 155, 156, 48, 72, 73, 74, 75, 76, 44, 45, 46, 47, 65, 66, 67, 68, 69, 70, 71, 221, 222, 223, 224, 225, 226, 227, 228, 229, 230, 231] (by decide +kernel) (by decide +kernel)
set_option maxRecDepth 20000 in
theorem gX6_commandSucceeds_X4_changeSetting : GoodIn wsX6_commandSucceeds (wsV RX6 190 RX4 yX4_changeSetting wsX4_changeSetting) := goodIn_app (goodIn_of _ (by decide +kernel)) ggX6_commandSucceeds_X4_changeSetting
set_option maxRecDepth 20000 in
theorem ggX6_commandSucceeds_X2_readFigure : GoodIn wsX6_commandSucceeds wsX2_readFigure := goodIn_r _ [161, 162, 163, 164, 165, 166, 167, 168, 169, 170, 171, 160, 172, 173, 174, 175, 57, 176, 177, 45, 46, 27, 47, 48, 22, 15, 23, 59, 60, 178, 106, 107, 108, 76, 179, 180, 181, 182, 183, 184, 185, 56, 58, 186, 18, 19, 10, 20, 21, 187, 188, 189, 190, 191, 97, 98, 99, 90, 215, 216, 217, 218, 219, 220, 221, 222, 223, 224, 225, 226, 227, 228, 229, 230, 231] (by decide +kernel) (by decide +kernel)
set_option maxRecDepth 20000 in
theorem gX6_commandSucceeds_X2_readFigure : GoodIn wsX6_commandSucceeds (wsV RX6 207 RX2 yX2_readFigure wsX2_readFigure) := goodIn_app (goodIn_of _ (by decide +kernel)) ggX6_commandSucceeds_X2_readFigure
set_option maxRecDepth 20000 in
theorem ggX6_commandSucceeds_X6_practiseOn : GoodIn wsX6_commandSucceeds wsX6_practiseOn := goodIn_r _ [195, 196, 2, 197, 3, 198, 31, 32, 27, 33, 34, 22, 15, 23, 157, 158, 159, 160, 161, 162, 163, 164, 165, 166, 167, 168, 169, 170, 171, 172, 173, 174, 175, 57, 176, 177, 45, 46, 47, 48, 59, 60, 178, 106, 107, 108, 76, 179, 180, 181, 182, 183, 184, 185, 56, 58, 186, 18, 19, 10, 20, 21, 187, 188, 189, 190, 191, 97, 98, 99, 90, 199, 200, 201, 202, 203, 204, 205, 206, 207, 208, 120, 121, 122, 13, 12, 123, 124, 125, 126, 221, 222, 223, 224, 225, 226, 209, 210, 211, 212, 213, 214, 215, 216, 217, 218, 219, 220, 227, 228, 229, 230, 231] (by decide +kernel) (by decide +kernel)
set_option maxRecDepth 20000 in
theorem gX6_commandSucceeds_X6_practiseOn : GoodIn wsX6_commandSucceeds (wsV RX6 179 RX6 yX6_practiseOn wsX6_practiseOn) := goodIn_app (goodIn_of _ (by decide +kernel)) ggX6_commandSucceeds_X6_practiseOn
theorem dX6_commandSucceeds_0 : decode cX6_commandSucceeds 0 = .ok (.iload_n 1, 1) := by decide +kernel
theorem dX6_commandSucceeds_1 : decode cX6_commandSucceeds 1 = .ok (.sipush 1000, 3) := by decide +kernel
theorem dX6_commandSucceeds_4 : decode cX6_commandSucceeds 4 = .ok (.idiv, 1) := by decide +kernel
theorem dX6_commandSucceeds_5 : decode cX6_commandSucceeds 5 = .ok (.bipush 10, 2) := by decide +kernel
theorem dX6_commandSucceeds_7 : decode cX6_commandSucceeds 7 = .ok (.irem, 1) := by decide +kernel
theorem dX6_commandSucceeds_8 : decode cX6_commandSucceeds 8 = .ok (.istore_n 2, 1) := by decide +kernel
theorem dX6_commandSucceeds_9 : decode cX6_commandSucceeds 9 = .ok (.iload_n 1, 1) := by decide +kernel
theorem dX6_commandSucceeds_10 : decode cX6_commandSucceeds 10 = .ok (.bipush 100, 2) := by decide +kernel
theorem dX6_commandSucceeds_12 : decode cX6_commandSucceeds 12 = .ok (.idiv, 1) := by decide +kernel
theorem dX6_commandSucceeds_13 : decode cX6_commandSucceeds 13 = .ok (.bipush 10, 2) := by decide +kernel
theorem dX6_commandSucceeds_15 : decode cX6_commandSucceeds 15 = .ok (.irem, 1) := by decide +kernel
theorem dX6_commandSucceeds_16 : decode cX6_commandSucceeds 16 = .ok (.istore_n 3, 1) := by decide +kernel
theorem dX6_commandSucceeds_17 : decode cX6_commandSucceeds 17 = .ok (.iload_n 1, 1) := by decide +kernel
theorem dX6_commandSucceeds_18 : decode cX6_commandSucceeds 18 = .ok (.bipush 100, 2) := by decide +kernel
theorem dX6_commandSucceeds_20 : decode cX6_commandSucceeds 20 = .ok (.irem, 1) := by decide +kernel
theorem dX6_commandSucceeds_21 : decode cX6_commandSucceeds 21 = .ok (.istore 4, 2) := by decide +kernel
theorem dX6_commandSucceeds_23 : decode cX6_commandSucceeds 23 = .ok (.iload_n 2, 1) := by decide +kernel
theorem dX6_commandSucceeds_24 : decode cX6_commandSucceeds 24 = .ok (.ifCond .ne 11, 3) := by decide +kernel
theorem dX6_commandSucceeds_27 : decode cX6_commandSucceeds 27 = .ok (.iload_n 3, 1) := by decide +kernel
theorem dX6_commandSucceeds_28 : decode cX6_commandSucceeds 28 = .ok (.ifCond .ne 7, 3) := by decide +kernel
theorem dX6_commandSucceeds_31 : decode cX6_commandSucceeds 31 = .ok (.iconst 1, 1) := by decide +kernel
theorem dX6_commandSucceeds_32 : decode cX6_commandSucceeds 32 = .ok (.goto 4, 3) := by decide +kernel
theorem dX6_commandSucceeds_35 : decode cX6_commandSucceeds 35 = .ok (.iconst 0, 1) := by decide +kernel
theorem dX6_commandSucceeds_36 : decode cX6_commandSucceeds 36 = .ok (.istore 5, 2) := by decide +kernel
theorem dX6_commandSucceeds_38 : decode cX6_commandSucceeds 38 = .ok (.iload_n 3, 1) := by decide +kernel
theorem dX6_commandSucceeds_39 : decode cX6_commandSucceeds 39 = .ok (.ifCond .ne 12, 3) := by decide +kernel
theorem dX6_commandSucceeds_42 : decode cX6_commandSucceeds 42 = .ok (.iload 4, 2) := by decide +kernel
theorem dX6_commandSucceeds_44 : decode cX6_commandSucceeds 44 = .ok (.ifCond .ne 7, 3) := by decide +kernel
theorem dX6_commandSucceeds_47 : decode cX6_commandSucceeds 47 = .ok (.iconst 1, 1) := by decide +kernel
theorem dX6_commandSucceeds_48 : decode cX6_commandSucceeds 48 = .ok (.goto 4, 3) := by decide +kernel
theorem dX6_commandSucceeds_51 : decode cX6_commandSucceeds 51 = .ok (.iconst 0, 1) := by decide +kernel
theorem dX6_commandSucceeds_52 : decode cX6_commandSucceeds 52 = .ok (.istore 6, 2) := by decide +kernel
theorem dX6_commandSucceeds_54 : decode cX6_commandSucceeds 54 = .ok (.iload_n 1, 1) := by decide +kernel
theorem dX6_commandSucceeds_55 : decode cX6_commandSucceeds 55 = .ok (.sipush 10000, 3) := by decide +kernel
theorem dX6_commandSucceeds_58 : decode cX6_commandSucceeds 58 = .ok (.idiv, 1) := by decide +kernel
theorem dX6_commandSucceeds_59 : decode cX6_commandSucceeds 59 = .ok (.tableswitch 294 1 9 #[49, 65, 87, 109, 132, 164, 200, 223, 271], 49) := by decide +kernel
theorem dX6_commandSucceeds_108 : decode cX6_commandSucceeds 108 = .ok (.aload_n 0, 1) := by decide +kernel
theorem dX6_commandSucceeds_109 : decode cX6_commandSucceeds 109 = .ok (.getfield 16, 3) := by decide +kernel
theorem dX6_commandSucceeds_112 : decode cX6_commandSucceeds 112 = .ok (.iload_n 2, 1) := by decide +kernel
theorem dX6_commandSucceeds_113 : decode cX6_commandSucceeds 113 = .ok (.bipush 10, 2) := by decide +kernel
theorem dX6_commandSucceeds_115 : decode cX6_commandSucceeds 115 = .ok (.imul, 1) := by decide +kernel
theorem dX6_commandSucceeds_116 : decode cX6_commandSucceeds 116 = .ok (.iload_n 3, 1) := by decide +kernel
theorem dX6_commandSucceeds_117 : decode cX6_commandSucceeds 117 = .ok (.iadd, 1) := by decide +kernel
theorem dX6_commandSucceeds_118 : decode cX6_commandSucceeds 118 = .ok (.iload 4, 2) := by decide +kernel
theorem dX6_commandSucceeds_120 : decode cX6_commandSucceeds 120 = .ok (.invokevirtual 142, 3) := by decide +kernel
theorem dX6_commandSucceeds_123 : decode cX6_commandSucceeds 123 = .ok (.ireturn, 1) := by decide +kernel
theorem dX6_commandSucceeds_124 : decode cX6_commandSucceeds 124 = .ok (.aload_n 0, 1) := by decide +kernel
theorem dX6_commandSucceeds_125 : decode cX6_commandSucceeds 125 = .ok (.getfield 16, 3) := by decide +kernel
theorem dX6_commandSucceeds_128 : decode cX6_commandSucceeds 128 = .ok (.invokevirtual 154, 3) := by decide +kernel
theorem dX6_commandSucceeds_131 : decode cX6_commandSucceeds 131 = .ok (.iload_n 2, 1) := by decide +kernel
theorem dX6_commandSucceeds_132 : decode cX6_commandSucceeds 132 = .ok (.ifCond .ne 12, 3) := by decide +kernel
theorem dX6_commandSucceeds_135 : decode cX6_commandSucceeds 135 = .ok (.iload 6, 2) := by decide +kernel
theorem dX6_commandSucceeds_137 : decode cX6_commandSucceeds 137 = .ok (.ifCond .eq 7, 3) := by decide +kernel
theorem dX6_commandSucceeds_140 : decode cX6_commandSucceeds 140 = .ok (.iconst 1, 1) := by decide +kernel
theorem dX6_commandSucceeds_141 : decode cX6_commandSucceeds 141 = .ok (.goto 4, 3) := by decide +kernel
theorem dX6_commandSucceeds_144 : decode cX6_commandSucceeds 144 = .ok (.iconst 0, 1) := by decide +kernel
theorem dX6_commandSucceeds_145 : decode cX6_commandSucceeds 145 = .ok (.ireturn, 1) := by decide +kernel
theorem dX6_commandSucceeds_146 : decode cX6_commandSucceeds 146 = .ok (.iload 6, 2) := by decide +kernel
theorem dX6_commandSucceeds_148 : decode cX6_commandSucceeds 148 = .ok (.ifCond .eq 18, 3) := by decide +kernel
theorem dX6_commandSucceeds_151 : decode cX6_commandSucceeds 151 = .ok (.aload_n 0, 1) := by decide +kernel
theorem dX6_commandSucceeds_152 : decode cX6_commandSucceeds 152 = .ok (.getfield 16, 3) := by decide +kernel
theorem dX6_commandSucceeds_155 : decode cX6_commandSucceeds 155 = .ok (.iload_n 2, 1) := by decide +kernel
theorem dX6_commandSucceeds_156 : decode cX6_commandSucceeds 156 = .ok (.invokevirtual 171, 3) := by decide +kernel
theorem dX6_commandSucceeds_159 : decode cX6_commandSucceeds 159 = .ok (.ifCond .eq 7, 3) := by decide +kernel
theorem dX6_commandSucceeds_162 : decode cX6_commandSucceeds 162 = .ok (.iconst 1, 1) := by decide +kernel
theorem dX6_commandSucceeds_163 : decode cX6_commandSucceeds 163 = .ok (.goto 4, 3) := by decide +kernel
theorem dX6_commandSucceeds_166 : decode cX6_commandSucceeds 166 = .ok (.iconst 0, 1) := by decide +kernel
theorem dX6_commandSucceeds_167 : decode cX6_commandSucceeds 167 = .ok (.ireturn, 1) := by decide +kernel
theorem dX6_commandSucceeds_168 : decode cX6_commandSucceeds 168 = .ok (.iload 5, 2) := by decide +kernel
theorem dX6_commandSucceeds_170 : decode cX6_commandSucceeds 170 = .ok (.ifCond .eq 19, 3) := by decide +kernel
theorem dX6_commandSucceeds_173 : decode cX6_commandSucceeds 173 = .ok (.aload_n 0, 1) := by decide +kernel
theorem dX6_commandSucceeds_174 : decode cX6_commandSucceeds 174 = .ok (.getfield 16, 3) := by decide +kernel
theorem dX6_commandSucceeds_177 : decode cX6_commandSucceeds 177 = .ok (.iload 4, 2) := by decide +kernel
theorem dX6_commandSucceeds_179 : decode cX6_commandSucceeds 179 = .ok (.invokevirtual 176, 3) := by decide +kernel
theorem dX6_commandSucceeds_182 : decode cX6_commandSucceeds 182 = .ok (.ifCond .eq 7, 3) := by decide +kernel
theorem dX6_commandSucceeds_185 : decode cX6_commandSucceeds 185 = .ok (.iconst 1, 1) := by decide +kernel
theorem dX6_commandSucceeds_186 : decode cX6_commandSucceeds 186 = .ok (.goto 4, 3) := by decide +kernel
theorem dX6_commandSucceeds_189 : decode cX6_commandSucceeds 189 = .ok (.iconst 0, 1) := by decide +kernel
theorem dX6_commandSucceeds_190 : decode cX6_commandSucceeds 190 = .ok (.ireturn, 1) := by decide +kernel
theorem dX6_commandSucceeds_191 : decode cX6_commandSucceeds 191 = .ok (.iload_n 3, 1) := by decide +kernel
theorem dX6_commandSucceeds_192 : decode cX6_commandSucceeds 192 = .ok (.ifCond .ne 29, 3) := by decide +kernel
theorem dX6_commandSucceeds_195 : decode cX6_commandSucceeds 195 = .ok (.iload_n 2, 1) := by decide +kernel
theorem dX6_commandSucceeds_196 : decode cX6_commandSucceeds 196 = .ok (.iload 4, 2) := by decide +kernel
theorem dX6_commandSucceeds_198 : decode cX6_commandSucceeds 198 = .ok (.invokestatic 185, 3) := by decide +kernel
theorem dX6_commandSucceeds_201 : decode cX6_commandSucceeds 201 = .ok (.ifCond .eq 20, 3) := by decide +kernel
theorem dX6_commandSucceeds_204 : decode cX6_commandSucceeds 204 = .ok (.aload_n 0, 1) := by decide +kernel
theorem dX6_commandSucceeds_205 : decode cX6_commandSucceeds 205 = .ok (.getfield 16, 3) := by decide +kernel
theorem dX6_commandSucceeds_208 : decode cX6_commandSucceeds 208 = .ok (.iload_n 2, 1) := by decide +kernel
theorem dX6_commandSucceeds_209 : decode cX6_commandSucceeds 209 = .ok (.iload 4, 2) := by decide +kernel
theorem dX6_commandSucceeds_211 : decode cX6_commandSucceeds 211 = .ok (.invokevirtual 190, 3) := by decide +kernel
theorem dX6_commandSucceeds_214 : decode cX6_commandSucceeds 214 = .ok (.ifCond .eq 7, 3) := by decide +kernel
theorem dX6_commandSucceeds_217 : decode cX6_commandSucceeds 217 = .ok (.iconst 1, 1) := by decide +kernel
theorem dX6_commandSucceeds_218 : decode cX6_commandSucceeds 218 = .ok (.goto 4, 3) := by decide +kernel
theorem dX6_commandSucceeds_221 : decode cX6_commandSucceeds 221 = .ok (.iconst 0, 1) := by decide +kernel
theorem dX6_commandSucceeds_222 : decode cX6_commandSucceeds 222 = .ok (.ireturn, 1) := by decide +kernel
theorem dX6_commandSucceeds_223 : decode cX6_commandSucceeds 223 = .ok (.aload_n 0, 1) := by decide +kernel
theorem dX6_commandSucceeds_224 : decode cX6_commandSucceeds 224 = .ok (.getfield 22, 3) := by decide +kernel
theorem dX6_commandSucceeds_227 : decode cX6_commandSucceeds 227 = .ok (.aload_n 0, 1) := by decide +kernel
theorem dX6_commandSucceeds_228 : decode cX6_commandSucceeds 228 = .ok (.getfield 16, 3) := by decide +kernel
theorem dX6_commandSucceeds_231 : decode cX6_commandSucceeds 231 = .ok (.bipush 16, 2) := by decide +kernel
theorem dX6_commandSucceeds_233 : decode cX6_commandSucceeds 233 = .ok (.iconst (-1), 1) := by decide +kernel
theorem dX6_commandSucceeds_234 : decode cX6_commandSucceeds 234 = .ok (.invokevirtual 207, 3) := by decide +kernel
theorem dX6_commandSucceeds_237 : decode cX6_commandSucceeds 237 = .ok (.iload 6, 2) := by decide +kernel
theorem dX6_commandSucceeds_239 : decode cX6_commandSucceeds 239 = .ok (.ifCond .eq 18, 3) := by decide +kernel
theorem dX6_commandSucceeds_242 : decode cX6_commandSucceeds 242 = .ok (.aload_n 0, 1) := by decide +kernel
theorem dX6_commandSucceeds_243 : decode cX6_commandSucceeds 243 = .ok (.getfield 22, 3) := by decide +kernel
theorem dX6_commandSucceeds_246 : decode cX6_commandSucceeds 246 = .ok (.getfield 214, 3) := by decide +kernel
theorem dX6_commandSucceeds_249 : decode cX6_commandSucceeds 249 = .ok (.iload_n 2, 1) := by decide +kernel
theorem dX6_commandSucceeds_250 : decode cX6_commandSucceeds 250 = .ok (.if_icmp .ne 7, 3) := by decide +kernel
theorem dX6_commandSucceeds_253 : decode cX6_commandSucceeds 253 = .ok (.iconst 1, 1) := by decide +kernel
theorem dX6_commandSucceeds_254 : decode cX6_commandSucceeds 254 = .ok (.goto 4, 3) := by decide +kernel
theorem dX6_commandSucceeds_257 : decode cX6_commandSucceeds 257 = .ok (.iconst 0, 1) := by decide +kernel
theorem dX6_commandSucceeds_258 : decode cX6_commandSucceeds 258 = .ok (.ireturn, 1) := by decide +kernel
theorem dX6_commandSucceeds_259 : decode cX6_commandSucceeds 259 = .ok (.iload 5, 2) := by decide +kernel
theorem dX6_commandSucceeds_261 : decode cX6_commandSucceeds 261 = .ok (.ifCond .eq 19, 3) := by decide +kernel
theorem dX6_commandSucceeds_264 : decode cX6_commandSucceeds 264 = .ok (.aload_n 0, 1) := by decide +kernel
theorem dX6_commandSucceeds_265 : decode cX6_commandSucceeds 265 = .ok (.getfield 16, 3) := by decide +kernel
theorem dX6_commandSucceeds_268 : decode cX6_commandSucceeds 268 = .ok (.getfield 92, 3) := by decide +kernel
theorem dX6_commandSucceeds_271 : decode cX6_commandSucceeds 271 = .ok (.iload 4, 2) := by decide +kernel
theorem dX6_commandSucceeds_273 : decode cX6_commandSucceeds 273 = .ok (.if_icmp .lt 7, 3) := by decide +kernel
theorem dX6_commandSucceeds_276 : decode cX6_commandSucceeds 276 = .ok (.iconst 1, 1) := by decide +kernel
theorem dX6_commandSucceeds_277 : decode cX6_commandSucceeds 277 = .ok (.goto 4, 3) := by decide +kernel
theorem dX6_commandSucceeds_280 : decode cX6_commandSucceeds 280 = .ok (.iconst 0, 1) := by decide +kernel
theorem dX6_commandSucceeds_281 : decode cX6_commandSucceeds 281 = .ok (.ireturn, 1) := by decide +kernel
theorem dX6_commandSucceeds_282 : decode cX6_commandSucceeds 282 = .ok (.aload_n 0, 1) := by decide +kernel
theorem dX6_commandSucceeds_283 : decode cX6_commandSucceeds 283 = .ok (.getfield 22, 3) := by decide +kernel
theorem dX6_commandSucceeds_286 : decode cX6_commandSucceeds 286 = .ok (.aload_n 0, 1) := by decide +kernel
theorem dX6_commandSucceeds_287 : decode cX6_commandSucceeds 287 = .ok (.getfield 16, 3) := by decide +kernel
theorem dX6_commandSucceeds_290 : decode cX6_commandSucceeds 290 = .ok (.bipush 16, 2) := by decide +kernel
theorem dX6_commandSucceeds_292 : decode cX6_commandSucceeds 292 = .ok (.iconst (-1), 1) := by decide +kernel
theorem dX6_commandSucceeds_293 : decode cX6_commandSucceeds 293 = .ok (.invokevirtual 207, 3) := by decide +kernel
theorem dX6_commandSucceeds_296 : decode cX6_commandSucceeds 296 = .ok (.iload 5, 2) := by decide +kernel
theorem dX6_commandSucceeds_298 : decode cX6_commandSucceeds 298 = .ok (.ifCond .eq 30, 3) := by decide +kernel
theorem dX6_commandSucceeds_301 : decode cX6_commandSucceeds 301 = .ok (.aload_n 0, 1) := by decide +kernel
theorem dX6_commandSucceeds_302 : decode cX6_commandSucceeds 302 = .ok (.getfield 22, 3) := by decide +kernel
theorem dX6_commandSucceeds_305 : decode cX6_commandSucceeds 305 = .ok (.getfield 220, 3) := by decide +kernel
theorem dX6_commandSucceeds_308 : decode cX6_commandSucceeds 308 = .ok (.iconst (-1), 1) := by decide +kernel
theorem dX6_commandSucceeds_309 : decode cX6_commandSucceeds 309 = .ok (.if_icmp .eq 19, 3) := by decide +kernel
theorem dX6_commandSucceeds_312 : decode cX6_commandSucceeds 312 = .ok (.aload_n 0, 1) := by decide +kernel
theorem dX6_commandSucceeds_313 : decode cX6_commandSucceeds 313 = .ok (.getfield 22, 3) := by decide +kernel
theorem dX6_commandSucceeds_316 : decode cX6_commandSucceeds 316 = .ok (.getfield 217, 3) := by decide +kernel
theorem dX6_commandSucceeds_319 : decode cX6_commandSucceeds 319 = .ok (.iload 4, 2) := by decide +kernel
theorem dX6_commandSucceeds_321 : decode cX6_commandSucceeds 321 = .ok (.if_icmp .gt 7, 3) := by decide +kernel
theorem dX6_commandSucceeds_324 : decode cX6_commandSucceeds 324 = .ok (.iconst 1, 1) := by decide +kernel
theorem dX6_commandSucceeds_325 : decode cX6_commandSucceeds 325 = .ok (.goto 4, 3) := by decide +kernel
theorem dX6_commandSucceeds_328 : decode cX6_commandSucceeds 328 = .ok (.iconst 0, 1) := by decide +kernel
theorem dX6_commandSucceeds_329 : decode cX6_commandSucceeds 329 = .ok (.ireturn, 1) := by decide +kernel
theorem dX6_commandSucceeds_330 : decode cX6_commandSucceeds 330 = .ok (.iload 6, 2) := by decide +kernel
theorem dX6_commandSucceeds_332 : decode cX6_commandSucceeds 332 = .ok (.ifCond .eq 19, 3) := by decide +kernel
theorem dX6_commandSucceeds_335 : decode cX6_commandSucceeds 335 = .ok (.aload_n 0, 1) := by decide +kernel
theorem dX6_commandSucceeds_336 : decode cX6_commandSucceeds 336 = .ok (.aload_n 0, 1) := by decide +kernel
theorem dX6_commandSucceeds_337 : decode cX6_commandSucceeds 337 = .ok (.getfield 16, 3) := by decide +kernel
theorem dX6_commandSucceeds_340 : decode cX6_commandSucceeds 340 = .ok (.iload_n 2, 1) := by decide +kernel
theorem dX6_commandSucceeds_341 : decode cX6_commandSucceeds 341 = .ok (.invokevirtual 179, 3) := by decide +kernel
theorem dX6_commandSucceeds_344 : decode cX6_commandSucceeds 344 = .ok (.ifCond .ne 7, 3) := by decide +kernel
theorem dX6_commandSucceeds_347 : decode cX6_commandSucceeds 347 = .ok (.iconst 1, 1) := by decide +kernel
theorem dX6_commandSucceeds_348 : decode cX6_commandSucceeds 348 = .ok (.goto 4, 3) := by decide +kernel
theorem dX6_commandSucceeds_351 : decode cX6_commandSucceeds 351 = .ok (.iconst 0, 1) := by decide +kernel
theorem dX6_commandSucceeds_352 : decode cX6_commandSucceeds 352 = .ok (.ireturn, 1) := by decide +kernel
theorem dX6_commandSucceeds_353 : decode cX6_commandSucceeds 353 = .ok (.iconst 0, 1) := by decide +kernel
theorem dX6_commandSucceeds_354 : decode cX6_commandSucceeds 354 = .ok (.ireturn, 1) := by decide +kernel
set_option maxRecDepth 20000 in
theorem ggX6_takeTurn_X4_keepHand : GoodIn wsX6_takeTurn wsX4_keepHand := goodIn_r _ [7, 8, 9, 10, 11, 12, 13, 14, 15, 16, 17, 18, 19, 20, 21, 22, 6, 23, 24, 25, 26, 27, 28, 29, 30, 31, 32, 33, 34, 35, 36, 37, 38, 39, 40, 41, 42, 43, 44, 45, 46, 47, 48, 49, 50, 51, 52, 53, 54, 55, 56, 57, 58, 59, 60, 61, 62, 63, 64, 183, 184, 185, 186, 187, 188, 189, 190, 191, 192, 193] (by decide +kernel) (by decide +kernel)
set_option maxRecDepth 20000 in
theorem gX6_takeTurn_X4_keepHand : GoodIn wsX6_takeTurn (wsV RX6 171 RX4 yX4_keepHand wsX4_keepHand) := goodIn_app (goodIn_of _ (by decide +kernel)) ggX6_takeTurn_X4_keepHand
set_option maxRecDepth 20000 in
theorem ggX6_takeTurn_X6_practiseOn : GoodIn wsX6_takeTurn wsX6_practiseOn := goodIn_r _ [68, 69, 70, 71, 72, 73, 12, 13, 14, 15, 16, 17, 18, 19, 74, 75, 76, 77, 78, 79, 80, 81, 82, 83, 84, 85, 86, 87, 88, 89, 90, 91, 92, 93, 94, 95, 33, 34, 35, 36, 54, 55, 96, 38, 39, 40, 41, 97, 98, 99, 100, 101, 102, 103, 104, 105, 106, 107, 108, 6, 109, 110, 111, 112, 113, 114, 115, 25, 26, 27, 10, 116, 117, 118, 119, 120, 121, 122, 123, 124, 125, 57, 58, 59, 8, 60, 61, 62, 63, 64, 183, 184, 185, 186, 187, 188, 177, 178, 179, 180, 181, 182, 194, 195, 196, 197, 198, 199, 189, 190, 191, 192, 193] (by decide +kernel) (by decide +kernel)
set_option maxRecDepth 20000 in
theorem gX6_takeTurn_X6_practiseOn : GoodIn wsX6_takeTurn (wsV RX6 179 RX6 yX6_practiseOn wsX6_practiseOn) := goodIn_app (goodIn_of _ (by decide +kernel)) ggX6_takeTurn_X6_practiseOn
set_option maxRecDepth 20000 in
theorem ggX6_takeTurn_X4_liftPen : GoodIn wsX6_takeTurn wsX4_liftPen := goodIn_r _ [129, 60, 183, 184, 185, 186, 187, 188] (by decide +kernel) (by decide +kernel)
set_option maxRecDepth 20000 in
theorem gX6_takeTurn_X4_liftPen : GoodIn wsX6_takeTurn (wsV RX6 154 RX4 yX4_liftPen wsX4_liftPen) := goodIn_app (goodIn_of _ (by decide +kernel)) ggX6_takeTurn_X4_liftPen
set_option maxRecDepth 20000 in
theorem ggX6_takeTurn_X4_addPoint : GoodIn wsX6_takeTurn wsX4_addPoint := goodIn_r _ [133, 60, 8, 134, 18, 135, 136, 107, 108, 6, 109, 110, 17, 19, 137, 138, 139, 14, 140, 46, 141, 12, 13, 15, 16, 142, 143, 144, 145, 146, 147, 148, 149, 47, 150, 33, 34, 35, 36, 151, 152, 153, 154, 155, 156, 157, 104, 93, 105, 54, 55, 158, 159, 160, 161, 162, 163, 164, 165, 166, 167, 168, 169, 170, 171, 172, 41, 173, 174, 175, 176, 183, 184, 185, 186, 187, 188, 189, 190, 191, 192, 193] (by decide +kernel) (by decide +kernel)
set_option maxRecDepth 20000 in
theorem gX6_takeTurn_X4_addPoint : GoodIn wsX6_takeTurn (wsV RX6 142 RX4 yX4_addPoint wsX4_addPoint) := goodIn_app (goodIn_of _ (by decide +kernel)) ggX6_takeTurn_X4_addPoint
theorem dX6_takeTurn_0 : decode cX6_takeTurn 0 = .ok (.iload_n 1, 1) := by decide +kernel
theorem dX6_takeTurn_1 : decode cX6_takeTurn 1 = .ok (.bipush 16, 2) := by decide +kernel
theorem dX6_takeTurn_3 : decode cX6_takeTurn 3 = .ok (.irem, 1) := by decide +kernel
theorem dX6_takeTurn_4 : decode cX6_takeTurn 4 = .ok (.tableswitch 75 0 2 #[28, 46, 65], 28) := by decide +kernel
