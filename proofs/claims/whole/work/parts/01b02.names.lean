theorem dX6_sign_4 : decode cX6_sign 4 = .ok (.new 49, 3) := by decide +kernel
theorem dX6_sign_7 : decode cX6_sign 7 = .ok (.dup, 1) := by decide +kernel
theorem dX6_sign_8 : decode cX6_sign 8 = .ok (.ldc 100, 2) := by decide +kernel
theorem dX6_sign_10 : decode cX6_sign 10 = .ok (.invokespecial 53, 3) := by decide +kernel
theorem dX6_sign_13 : decode cX6_sign 13 = .ok (.athrow, 1) := by decide +kernel
theorem dX6_sign_14 : decode cX6_sign 14 = .ok (.aload_n 0, 1) := by decide +kernel
theorem dX6_sign_15 : decode cX6_sign 15 = .ok (.getfield 12, 3) := by decide +kernel
theorem dX6_sign_18 : decode cX6_sign 18 = .ok (.getfield 72, 3) := by decide +kernel
theorem dX6_sign_21 : decode cX6_sign 21 = .ok (.bipush 16, 2) := by decide +kernel
theorem dX6_sign_23 : decode cX6_sign 23 = .ok (.iload_n 1, 1) := by decide +kernel
theorem dX6_sign_24 : decode cX6_sign 24 = .ok (.invokevirtual 102, 3) := by decide +kernel
theorem dX6_sign_27 : decode cX6_sign 27 = .ok (.ireturn, 1) := by decide +kernel
set_option maxRecDepth 20000 in
theorem ggX6_sample_X4_hasSample : GoodIn wsX6_sample wsX4_hasSample := goodIn_r _ [11, 12, 48, 49, 50, 51, 52, 53] (by decide +kernel) (by decide +kernel)
set_option maxRecDepth 20000 in
theorem gX6_sample_X4_hasSample : GoodIn wsX6_sample (wsV RX6 106 RX4 yX4_hasSample wsX4_hasSample) := goodIn_app (goodIn_of _ (by decide +kernel)) ggX6_sample_X4_hasSample
set_option maxRecDepth 20000 in
theorem ggX6_sample_X4_nameOf : GoodIn wsX6_sample wsX4_nameOf := goodIn_r _ [16, 17, 18, 19, 20, 48, 49, 50, 51, 52, 53] (by decide +kernel) (by decide +kernel)
set_option maxRecDepth 20000 in
theorem gX6_sample_X4_nameOf : GoodIn wsX6_sample (wsV RX6 115 RX4 yX4_nameOf wsX4_nameOf) := goodIn_app (goodIn_of _ (by decide +kernel)) ggX6_sample_X4_nameOf
set_option maxRecDepth 20000 in
theorem ggX6_sample_X0_strokesOf : GoodIn wsX6_sample wsX0_strokesOf := goodIn_r _ [25, 26, 18, 19, 20, 54, 55, 56, 57, 58] (by decide +kernel) (by decide +kernel)
set_option maxRecDepth 20000 in
theorem gX6_sample_X0_strokesOf : GoodIn wsX6_sample (wsV RX6 76 RX0 yX0_strokesOf wsX0_strokesOf) := goodIn_app (goodIn_of _ (by decide +kernel)) ggX6_sample_X0_strokesOf
set_option maxRecDepth 20000 in
theorem ggX6_sample_X0_pointsOf : GoodIn wsX6_sample wsX0_pointsOf := goodIn_r _ [30, 31, 22, 23, 24, 25, 26, 18, 19, 20, 32, 33, 34, 35, 36, 54, 55, 56, 57, 58] (by decide +kernel) (by decide +kernel)
set_option maxRecDepth 20000 in
theorem gX6_sample_X0_pointsOf : GoodIn wsX6_sample (wsV RX6 82 RX0 yX0_pointsOf wsX0_pointsOf) := goodIn_app (goodIn_of _ (by decide +kernel)) ggX6_sample_X0_pointsOf
set_option maxRecDepth 20000 in
theorem ggX6_sample_X0_signsOf : GoodIn wsX6_sample wsX0_signsOf := goodIn_r _ [40, 41, 18, 19, 20, 54, 55, 56, 57, 58] (by decide +kernel) (by decide +kernel)
set_option maxRecDepth 20000 in
theorem gX6_sample_X0_signsOf : GoodIn wsX6_sample (wsV RX6 89 RX0 yX0_signsOf wsX0_signsOf) := goodIn_app (goodIn_of _ (by decide +kernel)) ggX6_sample_X0_signsOf
theorem dX6_sample_0 : decode cX6_sample 0 = .ok (.aload_n 0, 1) := by decide +kernel
theorem dX6_sample_1 : decode cX6_sample 1 = .ok (.getfield 12, 3) := by decide +kernel
theorem dX6_sample_4 : decode cX6_sample 4 = .ok (.iload_n 1, 1) := by decide +kernel
theorem dX6_sample_5 : decode cX6_sample 5 = .ok (.invokevirtual 106, 3) := by decide +kernel
theorem dX6_sample_8 : decode cX6_sample 8 = .ok (.ifCond .ne 13, 3) := by decide +kernel
theorem dX6_sample_11 : decode cX6_sample 11 = .ok (.new 110, 3) := by decide +kernel
theorem dX6_sample_14 : decode cX6_sample 14 = .ok (.dup, 1) := by decide +kernel
theorem dX6_sample_15 : decode cX6_sample 15 = .ok (.ldc 112, 2) := by decide +kernel
theorem dX6_sample_17 : decode cX6_sample 17 = .ok (.invokespecial 114, 3) := by decide +kernel
theorem dX6_sample_20 : decode cX6_sample 20 = .ok (.athrow, 1) := by decide +kernel
theorem dX6_sample_21 : decode cX6_sample 21 = .ok (.iload_n 2, 1) := by decide +kernel
theorem dX6_sample_22 : decode cX6_sample 22 = .ok (.tableswitch 75 0 3 #[30, 39, 51, 63], 30) := by decide +kernel
theorem dX6_sample_52 : decode cX6_sample 52 = .ok (.aload_n 0, 1) := by decide +kernel
theorem dX6_sample_53 : decode cX6_sample 53 = .ok (.getfield 12, 3) := by decide +kernel
theorem dX6_sample_56 : decode cX6_sample 56 = .ok (.iload_n 1, 1) := by decide +kernel
theorem dX6_sample_57 : decode cX6_sample 57 = .ok (.invokevirtual 115, 3) := by decide +kernel
theorem dX6_sample_60 : decode cX6_sample 60 = .ok (.ireturn, 1) := by decide +kernel
theorem dX6_sample_61 : decode cX6_sample 61 = .ok (.aload_n 0, 1) := by decide +kernel
theorem dX6_sample_62 : decode cX6_sample 62 = .ok (.getfield 12, 3) := by decide +kernel
theorem dX6_sample_65 : decode cX6_sample 65 = .ok (.getfield 72, 3) := by decide +kernel
theorem dX6_sample_68 : decode cX6_sample 68 = .ok (.iload_n 1, 1) := by decide +kernel
theorem dX6_sample_69 : decode cX6_sample 69 = .ok (.invokevirtual 76, 3) := by decide +kernel
theorem dX6_sample_72 : decode cX6_sample 72 = .ok (.ireturn, 1) := by decide +kernel
theorem dX6_sample_73 : decode cX6_sample 73 = .ok (.aload_n 0, 1) := by decide +kernel
theorem dX6_sample_74 : decode cX6_sample 74 = .ok (.getfield 12, 3) := by decide +kernel
theorem dX6_sample_77 : decode cX6_sample 77 = .ok (.getfield 72, 3) := by decide +kernel
theorem dX6_sample_80 : decode cX6_sample 80 = .ok (.iload_n 1, 1) := by decide +kernel
theorem dX6_sample_81 : decode cX6_sample 81 = .ok (.invokevirtual 82, 3) := by decide +kernel
theorem dX6_sample_84 : decode cX6_sample 84 = .ok (.ireturn, 1) := by decide +kernel
theorem dX6_sample_85 : decode cX6_sample 85 = .ok (.aload_n 0, 1) := by decide +kernel
theorem dX6_sample_86 : decode cX6_sample 86 = .ok (.getfield 12, 3) := by decide +kernel
theorem dX6_sample_89 : decode cX6_sample 89 = .ok (.getfield 72, 3) := by decide +kernel
theorem dX6_sample_92 : decode cX6_sample 92 = .ok (.iload_n 1, 1) := by decide +kernel
theorem dX6_sample_93 : decode cX6_sample 93 = .ok (.invokevirtual 89, 3) := by decide +kernel
theorem dX6_sample_96 : decode cX6_sample 96 = .ok (.ireturn, 1) := by decide +kernel
theorem dX6_sample_97 : decode cX6_sample 97 = .ok (.new 49, 3) := by decide +kernel
theorem dX6_sample_100 : decode cX6_sample 100 = .ok (.dup, 1) := by decide +kernel
theorem dX6_sample_101 : decode cX6_sample 101 = .ok (.ldc 118, 2) := by decide +kernel
theorem dX6_sample_103 : decode cX6_sample 103 = .ok (.invokespecial 53, 3) := by decide +kernel
theorem dX6_sample_106 : decode cX6_sample 106 = .ok (.athrow, 1) := by decide +kernel
set_option maxRecDepth 20000 in
theorem ggX6_signOf_X4_hasSample : GoodIn wsX6_signOf wsX4_hasSample := goodIn_r _ [11, 12, 29, 30, 31, 32, 33, 34] (by decide +kernel) (by decide +kernel)
set_option maxRecDepth 20000 in
theorem gX6_signOf_X4_hasSample : GoodIn wsX6_signOf (wsV RX6 106 RX4 yX4_hasSample wsX4_hasSample) := goodIn_app (goodIn_of _ (by decide +kernel)) ggX6_signOf_X4_hasSample
set_option maxRecDepth 20000 in
theorem ggX6_signOf_X0_signAt : GoodIn wsX6_signOf wsX0_signAt := goodIn_r _ [17, 18, 19, 20, 21, 22, 35, 36, 37, 38, 39] (by decide +kernel) (by decide +kernel)
set_option maxRecDepth 20000 in
theorem gX6_signOf_X0_signAt : GoodIn wsX6_signOf (wsV RX6 102 RX0 yX0_signAt wsX0_signAt) := goodIn_app (goodIn_of _ (by decide +kernel)) ggX6_signOf_X0_signAt
theorem dX6_signOf_0 : decode cX6_signOf 0 = .ok (.aload_n 0, 1) := by decide +kernel
theorem dX6_signOf_1 : decode cX6_signOf 1 = .ok (.getfield 12, 3) := by decide +kernel
theorem dX6_signOf_4 : decode cX6_signOf 4 = .ok (.iload_n 1, 1) := by decide +kernel
theorem dX6_signOf_5 : decode cX6_signOf 5 = .ok (.invokevirtual 106, 3) := by decide +kernel
theorem dX6_signOf_8 : decode cX6_signOf 8 = .ok (.ifCond .ne 13, 3) := by decide +kernel
theorem dX6_signOf_11 : decode cX6_signOf 11 = .ok (.new 110, 3) := by decide +kernel
theorem dX6_signOf_14 : decode cX6_signOf 14 = .ok (.dup, 1) := by decide +kernel
theorem dX6_signOf_15 : decode cX6_signOf 15 = .ok (.ldc 112, 2) := by decide +kernel
theorem dX6_signOf_17 : decode cX6_signOf 17 = .ok (.invokespecial 114, 3) := by decide +kernel
theorem dX6_signOf_20 : decode cX6_signOf 20 = .ok (.athrow, 1) := by decide +kernel
theorem dX6_signOf_21 : decode cX6_signOf 21 = .ok (.iload_n 2, 1) := by decide +kernel
theorem dX6_signOf_22 : decode cX6_signOf 22 = .ok (.ifCond .ge 13, 3) := by decide +kernel
theorem dX6_signOf_25 : decode cX6_signOf 25 = .ok (.new 49, 3) := by decide +kernel
theorem dX6_signOf_28 : decode cX6_signOf 28 = .ok (.dup, 1) := by decide +kernel
theorem dX6_signOf_29 : decode cX6_signOf 29 = .ok (.ldc 100, 2) := by decide +kernel
theorem dX6_signOf_31 : decode cX6_signOf 31 = .ok (.invokespecial 53, 3) := by decide +kernel
theorem dX6_signOf_34 : decode cX6_signOf 34 = .ok (.athrow, 1) := by decide +kernel
theorem dX6_signOf_35 : decode cX6_signOf 35 = .ok (.aload_n 0, 1) := by decide +kernel
theorem dX6_signOf_36 : decode cX6_signOf 36 = .ok (.getfield 12, 3) := by decide +kernel
theorem dX6_signOf_39 : decode cX6_signOf 39 = .ok (.getfield 72, 3) := by decide +kernel
theorem dX6_signOf_42 : decode cX6_signOf 42 = .ok (.iload_n 1, 1) := by decide +kernel
theorem dX6_signOf_43 : decode cX6_signOf 43 = .ok (.iload_n 2, 1) := by decide +kernel
theorem dX6_signOf_44 : decode cX6_signOf 44 = .ok (.invokevirtual 102, 3) := by decide +kernel
theorem dX6_signOf_47 : decode cX6_signOf 47 = .ok (.ireturn, 1) := by decide +kernel
set_option maxRecDepth 20000 in
theorem ggX6_practised_X6_isName : GoodIn wsX6_practised wsX6_isName := goodIn_r _ [7] (by decide +kernel) (by decide +kernel)
set_option maxRecDepth 20000 in
theorem gX6_practised_X6_isName : GoodIn wsX6_practised (va_wsS RX6 120 yX6_isName wsX6_isName) := goodIn_app (goodIn_of _ (by decide +kernel)) ggX6_practised_X6_isName
set_option maxRecDepth 20000 in
theorem ggX6_practised_X4_outcomeOf : GoodIn wsX6_practised wsX4_outcomeOf := goodIn_r _ [12, 13, 14, 6, 15, 22, 23, 24, 25, 26, 27] (by decide +kernel) (by decide +kernel)
set_option maxRecDepth 20000 in
theorem gX6_practised_X4_outcomeOf : GoodIn wsX6_practised (wsV RX6 127 RX4 yX4_outcomeOf wsX4_outcomeOf) := goodIn_app (goodIn_of _ (by decide +kernel)) ggX6_practised_X4_outcomeOf
theorem dX6_practised_0 : decode cX6_practised 0 = .ok (.iload_n 1, 1) := by decide +kernel
theorem dX6_practised_1 : decode cX6_practised 1 = .ok (.invokestatic 120, 3) := by decide +kernel
theorem dX6_practised_4 : decode cX6_practised 4 = .ok (.ifCond .ne 13, 3) := by decide +kernel
theorem dX6_practised_7 : decode cX6_practised 7 = .ok (.new 49, 3) := by decide +kernel
theorem dX6_practised_10 : decode cX6_practised 10 = .ok (.dup, 1) := by decide +kernel
theorem dX6_practised_11 : decode cX6_practised 11 = .ok (.ldc 123, 2) := by decide +kernel
theorem dX6_practised_13 : decode cX6_practised 13 = .ok (.invokespecial 53, 3) := by decide +kernel
theorem dX6_practised_16 : decode cX6_practised 16 = .ok (.athrow, 1) := by decide +kernel
theorem dX6_practised_17 : decode cX6_practised 17 = .ok (.iload_n 2, 1) := by decide +kernel
theorem dX6_practised_18 : decode cX6_practised 18 = .ok (.ifCond .lt 8, 3) := by decide +kernel
theorem dX6_practised_21 : decode cX6_practised 21 = .ok (.iload_n 2, 1) := by decide +kernel
theorem dX6_practised_22 : decode cX6_practised 22 = .ok (.iconst 3, 1) := by decide +kernel
theorem dX6_practised_23 : decode cX6_practised 23 = .ok (.if_icmp .lt 13, 3) := by decide +kernel
theorem dX6_practised_26 : decode cX6_practised 26 = .ok (.new 49, 3) := by decide +kernel
theorem dX6_practised_29 : decode cX6_practised 29 = .ok (.dup, 1) := by decide +kernel
theorem dX6_practised_30 : decode cX6_practised 30 = .ok (.ldc 125, 2) := by decide +kernel
theorem dX6_practised_32 : decode cX6_practised 32 = .ok (.invokespecial 53, 3) := by decide +kernel
theorem dX6_practised_35 : decode cX6_practised 35 = .ok (.athrow, 1) := by decide +kernel
theorem dX6_practised_36 : decode cX6_practised 36 = .ok (.aload_n 0, 1) := by decide +kernel
theorem dX6_practised_37 : decode cX6_practised 37 = .ok (.getfield 12, 3) := by decide +kernel
theorem dX6_practised_40 : decode cX6_practised 40 = .ok (.iload_n 1, 1) := by decide +kernel
theorem dX6_practised_41 : decode cX6_practised 41 = .ok (.iload_n 2, 1) := by decide +kernel
theorem dX6_practised_42 : decode cX6_practised 42 = .ok (.invokevirtual 127, 3) := by decide +kernel
theorem dX6_practised_45 : decode cX6_practised 45 = .ok (.ireturn, 1) := by decide +kernel
set_option maxRecDepth 20000 in
theorem ggX6_setting_X4_settingOf : GoodIn wsX6_setting wsX4_settingOf := goodIn_r _ [8, 9, 10, 11, 12, 19, 20, 21, 22, 23, 24] (by decide +kernel) (by decide +kernel)
set_option maxRecDepth 20000 in
theorem gX6_setting_X4_settingOf : GoodIn wsX6_setting (wsV RX6 130 RX4 yX4_settingOf wsX4_settingOf) := goodIn_app (goodIn_of _ (by decide +kernel)) ggX6_setting_X4_settingOf
theorem dX6_setting_0 : decode cX6_setting 0 = .ok (.iload_n 1, 1) := by decide +kernel
theorem dX6_setting_1 : decode cX6_setting 1 = .ok (.ifCond .lt 8, 3) := by decide +kernel
theorem dX6_setting_4 : decode cX6_setting 4 = .ok (.iload_n 1, 1) := by decide +kernel
theorem dX6_setting_5 : decode cX6_setting 5 = .ok (.iconst 3, 1) := by decide +kernel
theorem dX6_setting_6 : decode cX6_setting 6 = .ok (.if_icmp .lt 13, 3) := by decide +kernel
theorem dX6_setting_9 : decode cX6_setting 9 = .ok (.new 49, 3) := by decide +kernel
theorem dX6_setting_12 : decode cX6_setting 12 = .ok (.dup, 1) := by decide +kernel
theorem dX6_setting_13 : decode cX6_setting 13 = .ok (.ldc 125, 2) := by decide +kernel
theorem dX6_setting_15 : decode cX6_setting 15 = .ok (.invokespecial 53, 3) := by decide +kernel
theorem dX6_setting_18 : decode cX6_setting 18 = .ok (.athrow, 1) := by decide +kernel
theorem dX6_setting_19 : decode cX6_setting 19 = .ok (.aload_n 0, 1) := by decide +kernel
theorem dX6_setting_20 : decode cX6_setting 20 = .ok (.getfield 12, 3) := by decide +kernel
theorem dX6_setting_23 : decode cX6_setting 23 = .ok (.iload_n 1, 1) := by decide +kernel
theorem dX6_setting_24 : decode cX6_setting 24 = .ok (.invokevirtual 130, 3) := by decide +kernel
theorem dX6_setting_27 : decode cX6_setting 27 = .ok (.ireturn, 1) := by decide +kernel
set_option maxRecDepth 20000 in
theorem ggX6_point_X6_isOnGrid : GoodIn wsX6_point wsX6_isOnGrid := goodIn_r _ [11] (by decide +kernel) (by decide +kernel)
set_option maxRecDepth 20000 in
theorem gX6_point_X6_isOnGrid : GoodIn wsX6_point (va_wsS RX6 133 yX6_isOnGrid wsX6_isOnGrid) := goodIn_app (goodIn_of _ (by decide +kernel)) ggX6_point_X6_isOnGrid
set_option maxRecDepth 20000 in
theorem ggX6_point_X1_prepare : GoodIn wsX6_point wsX1_prepare := goodIn_r _ [16, 17, 18, 19, 20, 21, 22, 23, 24, 25, 26, 27, 28, 29, 30, 31, 32, 33, 34, 35, 36, 37, 38, 39, 40, 41, 42, 43, 44, 45, 46, 47, 48, 49, 50, 51, 52, 53, 54, 55, 56, 57, 58, 59, 10, 60, 61, 62, 63, 64, 65, 66, 67, 68, 148, 149, 150, 151, 142, 143, 144, 145, 146, 147, 152, 153, 154, 155, 156] (by decide +kernel) (by decide +kernel)
set_option maxRecDepth 20000 in
theorem gX6_point_X1_prepare : GoodIn wsX6_point (wsV RX6 138 RX1 yX1_prepare wsX1_prepare) := goodIn_app (goodIn_of _ (by decide +kernel)) ggX6_point_X1_prepare
set_option maxRecDepth 20000 in
theorem ggX6_point_X4_addPoint : GoodIn wsX6_point wsX4_addPoint := goodIn_r _ [72, 54, 36, 9, 10, 11, 73, 74, 75, 27, 76, 39, 77, 78, 79, 80, 81, 35, 82, 45, 83, 84, 85, 86, 44, 87, 88, 89, 90, 91, 92, 93, 94, 46, 95, 96, 97, 98, 47, 99, 100, 101, 102, 103, 104, 105, 106, 63, 107, 108, 109, 110, 111, 112, 113, 114, 115, 116, 117, 118, 119, 120, 121, 122, 123, 124, 48, 125, 126, 127, 128, 142, 143, 144, 145, 146, 147, 152, 153, 154, 155, 156] (by decide +kernel) (by decide +kernel)
set_option maxRecDepth 20000 in
theorem gX6_point_X4_addPoint : GoodIn wsX6_point (wsV RX6 142 RX4 yX4_addPoint wsX4_addPoint) := goodIn_app (goodIn_of _ (by decide +kernel)) ggX6_point_X4_addPoint
set_option maxRecDepth 20000 in
theorem ggX6_point_X1_commit : GoodIn wsX6_point wsX1_commit := goodIn_r _ [132, 18, 133, 134, 62, 63, 64, 148, 149, 150] (by decide +kernel) (by decide +kernel)
set_option maxRecDepth 20000 in
theorem gX6_point_X1_commit : GoodIn wsX6_point (wsV RX6 148 RX1 yX1_commit wsX1_commit) := goodIn_app (goodIn_of _ (by decide +kernel)) ggX6_point_X1_commit
set_option maxRecDepth 20000 in
theorem ggX6_point_X0_signsOf : GoodIn wsX6_point wsX0_signsOf := goodIn_r _ [98, 47, 77, 10, 78, 152, 153, 154, 155, 156] (by decide +kernel) (by decide +kernel)
set_option maxRecDepth 20000 in
theorem gX6_point_X0_signsOf : GoodIn wsX6_point (wsV RX6 89 RX0 yX0_signsOf wsX0_signsOf) := goodIn_app (goodIn_of _ (by decide +kernel)) ggX6_point_X0_signsOf
theorem dX6_point_0 : decode cX6_point 0 = .ok (.iload_n 1, 1) := by decide +kernel
theorem dX6_point_1 : decode cX6_point 1 = .ok (.invokestatic 133, 3) := by decide +kernel
theorem dX6_point_4 : decode cX6_point 4 = .ok (.ifCond .eq 10, 3) := by decide +kernel
theorem dX6_point_7 : decode cX6_point 7 = .ok (.iload_n 2, 1) := by decide +kernel
theorem dX6_point_8 : decode cX6_point 8 = .ok (.invokestatic 133, 3) := by decide +kernel
theorem dX6_point_11 : decode cX6_point 11 = .ok (.ifCond .ne 13, 3) := by decide +kernel
theorem dX6_point_14 : decode cX6_point 14 = .ok (.new 49, 3) := by decide +kernel
theorem dX6_point_17 : decode cX6_point 17 = .ok (.dup, 1) := by decide +kernel
theorem dX6_point_18 : decode cX6_point 18 = .ok (.ldc 136, 2) := by decide +kernel
theorem dX6_point_20 : decode cX6_point 20 = .ok (.invokespecial 53, 3) := by decide +kernel
theorem dX6_point_23 : decode cX6_point 23 = .ok (.athrow, 1) := by decide +kernel
theorem dX6_point_24 : decode cX6_point 24 = .ok (.aload_n 0, 1) := by decide +kernel
theorem dX6_point_25 : decode cX6_point 25 = .ok (.getfield 36, 3) := by decide +kernel
theorem dX6_point_28 : decode cX6_point 28 = .ok (.aload_n 0, 1) := by decide +kernel
theorem dX6_point_29 : decode cX6_point 29 = .ok (.getfield 12, 3) := by decide +kernel
theorem dX6_point_32 : decode cX6_point 32 = .ok (.invokevirtual 138, 3) := by decide +kernel
theorem dX6_point_35 : decode cX6_point 35 = .ok (.aload_n 0, 1) := by decide +kernel
theorem dX6_point_36 : decode cX6_point 36 = .ok (.getfield 12, 3) := by decide +kernel
theorem dX6_point_39 : decode cX6_point 39 = .ok (.iload_n 1, 1) := by decide +kernel
theorem dX6_point_40 : decode cX6_point 40 = .ok (.iload_n 2, 1) := by decide +kernel
theorem dX6_point_41 : decode cX6_point 41 = .ok (.invokevirtual 142, 3) := by decide +kernel
theorem dX6_point_44 : decode cX6_point 44 = .ok (.ifCond .ne 13, 3) := by decide +kernel
theorem dX6_point_47 : decode cX6_point 47 = .ok (.new 60, 3) := by decide +kernel
theorem dX6_point_50 : decode cX6_point 50 = .ok (.dup, 1) := by decide +kernel
theorem dX6_point_51 : decode cX6_point 51 = .ok (.ldc 146, 2) := by decide +kernel
theorem dX6_point_53 : decode cX6_point 53 = .ok (.invokespecial 64, 3) := by decide +kernel
theorem dX6_point_56 : decode cX6_point 56 = .ok (.athrow, 1) := by decide +kernel
theorem dX6_point_57 : decode cX6_point 57 = .ok (.aload_n 0, 1) := by decide +kernel
theorem dX6_point_58 : decode cX6_point 58 = .ok (.getfield 36, 3) := by decide +kernel
theorem dX6_point_61 : decode cX6_point 61 = .ok (.invokevirtual 148, 3) := by decide +kernel
theorem dX6_point_64 : decode cX6_point 64 = .ok (.aload_n 0, 1) := by decide +kernel
theorem dX6_point_65 : decode cX6_point 65 = .ok (.getfield 12, 3) := by decide +kernel
theorem dX6_point_68 : decode cX6_point 68 = .ok (.getfield 72, 3) := by decide +kernel
theorem dX6_point_71 : decode cX6_point 71 = .ok (.bipush 16, 2) := by decide +kernel
theorem dX6_point_73 : decode cX6_point 73 = .ok (.invokevirtual 89, 3) := by decide +kernel
theorem dX6_point_76 : decode cX6_point 76 = .ok (.ireturn, 1) := by decide +kernel
set_option maxRecDepth 20000 in
theorem ggX6_lift_X1_remember : GoodIn wsX6_lift wsX1_remember := goodIn_r _ [8, 9, 10, 11, 7, 12, 13, 14, 15, 16, 17, 18, 19, 20, 21, 22, 23, 24, 25, 26, 27, 28, 29, 30, 31, 32, 33, 34, 35, 36, 37, 38, 39, 40, 41, 42, 43, 44, 45, 46, 47, 48, 49, 50, 51, 52, 53, 54, 55, 56, 57, 58, 59, 60, 61, 62, 63, 64, 65, 66, 67, 68, 69, 70, 71, 94, 95, 96, 97, 88, 89, 90, 91, 92, 93, 98, 99, 100, 101, 102] (by decide +kernel) (by decide +kernel)
set_option maxRecDepth 20000 in
theorem gX6_lift_X1_remember : GoodIn wsX6_lift (wsV RX6 151 RX1 yX1_remember wsX1_remember) := goodIn_app (goodIn_of _ (by decide +kernel)) ggX6_lift_X1_remember
set_option maxRecDepth 20000 in
theorem ggX6_lift_X4_liftPen : GoodIn wsX6_lift wsX4_liftPen := goodIn_r _ [75, 50, 88, 89, 90, 91, 92, 93] (by decide +kernel) (by decide +kernel)
set_option maxRecDepth 20000 in
theorem gX6_lift_X4_liftPen : GoodIn wsX6_lift (wsV RX6 154 RX4 yX4_liftPen wsX4_liftPen) := goodIn_app (goodIn_of _ (by decide +kernel)) ggX6_lift_X4_liftPen
set_option maxRecDepth 20000 in
theorem ggX6_lift_X0_strokesOf : GoodIn wsX6_lift wsX0_strokesOf := goodIn_r _ [79, 40, 80, 56, 81, 98, 99, 100, 101, 102] (by decide +kernel) (by decide +kernel)
set_option maxRecDepth 20000 in
theorem gX6_lift_X0_strokesOf : GoodIn wsX6_lift (wsV RX6 76 RX0 yX0_strokesOf wsX0_strokesOf) := goodIn_app (goodIn_of _ (by decide +kernel)) ggX6_lift_X0_strokesOf
theorem dX6_lift_0 : decode cX6_lift 0 = .ok (.aload_n 0, 1) := by decide +kernel
theorem dX6_lift_1 : decode cX6_lift 1 = .ok (.getfield 36, 3) := by decide +kernel
theorem dX6_lift_4 : decode cX6_lift 4 = .ok (.aload_n 0, 1) := by decide +kernel
theorem dX6_lift_5 : decode cX6_lift 5 = .ok (.getfield 12, 3) := by decide +kernel
theorem dX6_lift_8 : decode cX6_lift 8 = .ok (.invokevirtual 151, 3) := by decide +kernel
theorem dX6_lift_11 : decode cX6_lift 11 = .ok (.aload_n 0, 1) := by decide +kernel
theorem dX6_lift_12 : decode cX6_lift 12 = .ok (.getfield 12, 3) := by decide +kernel
theorem dX6_lift_15 : decode cX6_lift 15 = .ok (.invokevirtual 154, 3) := by decide +kernel
theorem dX6_lift_18 : decode cX6_lift 18 = .ok (.aload_n 0, 1) := by decide +kernel
theorem dX6_lift_19 : decode cX6_lift 19 = .ok (.getfield 12, 3) := by decide +kernel
theorem dX6_lift_22 : decode cX6_lift 22 = .ok (.getfield 72, 3) := by decide +kernel
theorem dX6_lift_25 : decode cX6_lift 25 = .ok (.bipush 16, 2) := by decide +kernel
theorem dX6_lift_27 : decode cX6_lift 27 = .ok (.invokevirtual 76, 3) := by decide +kernel
theorem dX6_lift_30 : decode cX6_lift 30 = .ok (.ireturn, 1) := by decide +kernel
set_option maxRecDepth 20000 in
theorem ggX6_draw_X5_firstError : GoodIn wsX6_draw wsX5_firstError := goodIn_r _ [12, 13, 14, 15, 16, 17, 18, 19, 11, 20, 178, 179] (by decide +kernel) (by decide +kernel)
set_option maxRecDepth 20000 in
theorem gX6_draw_X5_firstError : GoodIn wsX6_draw (wsV RX6 68 RX5 yX5_firstError wsX5_firstError) := goodIn_app (goodIn_of _ (by decide +kernel)) ggX6_draw_X5_firstError
set_option maxRecDepth 20000 in
theorem ggX6_draw_X4_copyFrom : GoodIn wsX6_draw wsX4_copyFrom := goodIn_r _ [25, 26, 27, 28, 29, 30, 31, 32, 33, 34, 35, 36, 37, 38, 39, 40, 41, 42, 16, 43, 44, 45, 46, 47, 48, 49, 50, 51, 172, 173, 174, 175, 176, 177, 180, 181, 182, 183, 184] (by decide +kernel) (by decide +kernel)
set_option maxRecDepth 20000 in
theorem gX6_draw_X4_copyFrom : GoodIn wsX6_draw (wsV RX6 159 RX4 yX4_copyFrom wsX4_copyFrom) := goodIn_app (goodIn_of _ (by decide +kernel)) ggX6_draw_X4_copyFrom
set_option maxRecDepth 20000 in
theorem ggX6_draw_X4_clearHand : GoodIn wsX6_draw wsX4_clearHand := goodIn_r _ [55, 26, 31, 56, 57, 58, 35, 59, 37, 40, 60, 16, 61, 172, 173, 174, 175, 176, 177, 180, 181, 182, 183, 184] (by decide +kernel) (by decide +kernel)
set_option maxRecDepth 20000 in
theorem gX6_draw_X4_clearHand : GoodIn wsX6_draw (wsV RX6 162 RX4 yX4_clearHand wsX4_clearHand) := goodIn_app (goodIn_of _ (by decide +kernel)) ggX6_draw_X4_clearHand
set_option maxRecDepth 20000 in
theorem ggX6_draw_X5_drawOn : GoodIn wsX6_draw wsX5_drawOn := goodIn_r _ [65, 13, 14, 15, 16, 17, 66, 67, 68, 24, 69, 31, 26, 70, 71, 72, 73, 74, 75, 28, 76, 77, 78, 35, 79, 38, 80, 81, 82, 83, 37, 84, 85, 86, 87, 88, 89, 90, 91, 39, 92, 93, 94, 95, 40, 96, 97, 98, 99, 100, 101, 102, 103, 46, 104, 60, 61, 105, 106, 107, 108, 109, 110, 111, 112, 113, 114, 115, 116, 117, 118, 119, 41, 120, 121, 122, 123, 124, 125, 126, 127, 178, 179, 172, 173, 174, 175, 176, 177, 180, 181, 182, 183, 184] (by decide +kernel) (by decide +kernel)
set_option maxRecDepth 20000 in
theorem gX6_draw_X5_drawOn : GoodIn wsX6_draw (wsV RX6 165 RX5 yX5_drawOn wsX5_drawOn) := goodIn_app (goodIn_of _ (by decide +kernel)) ggX6_draw_X5_drawOn
set_option maxRecDepth 20000 in
theorem ggX6_draw_X1_remember : GoodIn wsX6_draw wsX1_remember := goodIn_r _ [132, 133, 134, 135, 131, 136, 137, 138, 139, 140, 141, 142, 143, 144, 145, 146, 24, 147, 148, 149, 150, 151, 152, 153, 35, 26, 154, 27, 28, 29, 155, 156, 157, 37, 38, 39, 40, 41, 158, 22, 23, 25, 30, 31, 32, 33, 34, 36, 42, 16, 43, 44, 45, 46, 47, 48, 49, 50, 51, 159, 160, 161, 162, 163, 164, 185, 186, 187, 188, 172, 173, 174, 175, 176, 177, 180, 181, 182, 183, 184] (by decide +kernel) (by decide +kernel)
set_option maxRecDepth 20000 in
theorem gX6_draw_X1_remember : GoodIn wsX6_draw (wsV RX6 151 RX1 yX1_remember wsX1_remember) := goodIn_app (goodIn_of _ (by decide +kernel)) ggX6_draw_X1_remember
set_option maxRecDepth 20000 in
theorem ggX6_draw_X0_signsOf : GoodIn wsX6_draw wsX0_signsOf := goodIn_r _ [95, 40, 15, 16, 17, 180, 181, 182, 183, 184] (by decide +kernel) (by decide +kernel)
set_option maxRecDepth 20000 in
theorem gX6_draw_X0_signsOf : GoodIn wsX6_draw (wsV RX6 89 RX0 yX0_signsOf wsX0_signsOf) := goodIn_app (goodIn_of _ (by decide +kernel)) ggX6_draw_X0_signsOf
theorem dX6_draw_0 : decode cX6_draw 0 = .ok (.aload_n 0, 1) := by decide +kernel
theorem dX6_draw_1 : decode cX6_draw 1 = .ok (.getfield 29, 3) := by decide +kernel
theorem dX6_draw_4 : decode cX6_draw 4 = .ok (.invokevirtual 68, 3) := by decide +kernel
theorem dX6_draw_7 : decode cX6_draw 7 = .ok (.iconst (-1), 1) := by decide +kernel
theorem dX6_draw_8 : decode cX6_draw 8 = .ok (.if_icmp .eq 13, 3) := by decide +kernel
theorem dX6_draw_11 : decode cX6_draw 11 = .ok (.new 60, 3) := by decide +kernel
theorem dX6_draw_14 : decode cX6_draw 14 = .ok (.dup, 1) := by decide +kernel
theorem dX6_draw_15 : decode cX6_draw 15 = .ok (.ldc 157, 2) := by decide +kernel
theorem dX6_draw_17 : decode cX6_draw 17 = .ok (.invokespecial 64, 3) := by decide +kernel
theorem dX6_draw_20 : decode cX6_draw 20 = .ok (.athrow, 1) := by decide +kernel
theorem dX6_draw_21 : decode cX6_draw 21 = .ok (.aload_n 0, 1) := by decide +kernel
theorem dX6_draw_22 : decode cX6_draw 22 = .ok (.getfield 16, 3) := by decide +kernel
theorem dX6_draw_25 : decode cX6_draw 25 = .ok (.aload_n 0, 1) := by decide +kernel
theorem dX6_draw_26 : decode cX6_draw 26 = .ok (.getfield 12, 3) := by decide +kernel
theorem dX6_draw_29 : decode cX6_draw 29 = .ok (.invokevirtual 159, 3) := by decide +kernel
theorem dX6_draw_32 : decode cX6_draw 32 = .ok (.aload_n 0, 1) := by decide +kernel
theorem dX6_draw_33 : decode cX6_draw 33 = .ok (.getfield 16, 3) := by decide +kernel
theorem dX6_draw_36 : decode cX6_draw 36 = .ok (.invokevirtual 162, 3) := by decide +kernel
theorem dX6_draw_39 : decode cX6_draw 39 = .ok (.aload_n 0, 1) := by decide +kernel
theorem dX6_draw_40 : decode cX6_draw 40 = .ok (.getfield 29, 3) := by decide +kernel
theorem dX6_draw_43 : decode cX6_draw 43 = .ok (.aload_n 0, 1) := by decide +kernel
theorem dX6_draw_44 : decode cX6_draw 44 = .ok (.getfield 16, 3) := by decide +kernel
theorem dX6_draw_47 : decode cX6_draw 47 = .ok (.invokevirtual 165, 3) := by decide +kernel
theorem dX6_draw_50 : decode cX6_draw 50 = .ok (.ifCond .ne 13, 3) := by decide +kernel
theorem dX6_draw_53 : decode cX6_draw 53 = .ok (.new 60, 3) := by decide +kernel
theorem dX6_draw_56 : decode cX6_draw 56 = .ok (.dup, 1) := by decide +kernel
theorem dX6_draw_57 : decode cX6_draw 57 = .ok (.ldc 169, 2) := by decide +kernel
theorem dX6_draw_59 : decode cX6_draw 59 = .ok (.invokespecial 64, 3) := by decide +kernel
theorem dX6_draw_62 : decode cX6_draw 62 = .ok (.athrow, 1) := by decide +kernel
theorem dX6_draw_63 : decode cX6_draw 63 = .ok (.aload_n 0, 1) := by decide +kernel
theorem dX6_draw_64 : decode cX6_draw 64 = .ok (.getfield 36, 3) := by decide +kernel
theorem dX6_draw_67 : decode cX6_draw 67 = .ok (.aload_n 0, 1) := by decide +kernel
theorem dX6_draw_68 : decode cX6_draw 68 = .ok (.getfield 12, 3) := by decide +kernel
theorem dX6_draw_71 : decode cX6_draw 71 = .ok (.invokevirtual 151, 3) := by decide +kernel
theorem dX6_draw_74 : decode cX6_draw 74 = .ok (.aload_n 0, 1) := by decide +kernel
theorem dX6_draw_75 : decode cX6_draw 75 = .ok (.getfield 12, 3) := by decide +kernel
theorem dX6_draw_78 : decode cX6_draw 78 = .ok (.aload_n 0, 1) := by decide +kernel
theorem dX6_draw_79 : decode cX6_draw 79 = .ok (.getfield 16, 3) := by decide +kernel
theorem dX6_draw_82 : decode cX6_draw 82 = .ok (.invokevirtual 159, 3) := by decide +kernel
theorem dX6_draw_85 : decode cX6_draw 85 = .ok (.aload_n 0, 1) := by decide +kernel
theorem dX6_draw_86 : decode cX6_draw 86 = .ok (.getfield 12, 3) := by decide +kernel
theorem dX6_draw_89 : decode cX6_draw 89 = .ok (.getfield 72, 3) := by decide +kernel
theorem dX6_draw_92 : decode cX6_draw 92 = .ok (.bipush 16, 2) := by decide +kernel
theorem dX6_draw_94 : decode cX6_draw 94 = .ok (.invokevirtual 89, 3) := by decide +kernel
theorem dX6_draw_97 : decode cX6_draw 97 = .ok (.ireturn, 1) := by decide +kernel
set_option maxRecDepth 20000 in
theorem ggX6_learn_X6_isName : GoodIn wsX6_learn wsX6_isName := goodIn_r _ [11] (by decide +kernel) (by decide +kernel)
set_option maxRecDepth 20000 in
theorem gX6_learn_X6_isName : GoodIn wsX6_learn (va_wsS RX6 120 yX6_isName wsX6_isName) := goodIn_app (goodIn_of _ (by decide +kernel)) ggX6_learn_X6_isName
set_option maxRecDepth 20000 in
theorem ggX6_learn_X1_prepare : GoodIn wsX6_learn wsX1_prepare := goodIn_r _ [16, 17, 18, 19, 20, 21, 22, 23, 24, 25, 26, 27, 28, 29, 30, 31, 32, 33, 34, 35, 36, 37, 38, 39, 40, 41, 42, 43, 44, 45, 46, 47, 48, 49, 50, 51, 52, 53, 54, 55, 56, 57, 58, 59, 10, 60, 61, 62, 63, 64, 65, 66, 67, 68, 133, 134, 135, 136, 127, 128, 129, 130, 131, 132, 137, 138, 139, 140, 141] (by decide +kernel) (by decide +kernel)
set_option maxRecDepth 20000 in
theorem gX6_learn_X1_prepare : GoodIn wsX6_learn (wsV RX6 138 RX1 yX1_prepare wsX1_prepare) := goodIn_app (goodIn_of _ (by decide +kernel)) ggX6_learn_X1_prepare
set_option maxRecDepth 20000 in
theorem ggX6_learn_X4_keepHand : GoodIn wsX6_learn wsX4_keepHand := goodIn_r _ [72, 36, 53, 38, 73, 74, 75, 35, 76, 44, 77, 10, 78, 79, 80, 81, 27, 82, 83, 84, 85, 86, 87, 88, 89, 90, 91, 92, 93, 94, 47, 95, 96, 97, 98, 48, 99, 100, 101, 102, 45, 46, 103, 104, 65, 66, 67, 68, 105, 106, 107, 108, 109, 110, 54, 111, 112, 113, 114, 127, 128, 129, 130, 131, 132, 137, 138, 139, 140, 141] (by decide +kernel) (by decide +kernel)
set_option maxRecDepth 20000 in
theorem gX6_learn_X4_keepHand : GoodIn wsX6_learn (wsV RX6 171 RX4 yX4_keepHand wsX4_keepHand) := goodIn_app (goodIn_of _ (by decide +kernel)) ggX6_learn_X4_keepHand
set_option maxRecDepth 20000 in
theorem ggX6_learn_X1_commit : GoodIn wsX6_learn wsX1_commit := goodIn_r _ [118, 18, 119, 120, 62, 63, 64, 133, 134, 135] (by decide +kernel) (by decide +kernel)
set_option maxRecDepth 20000 in
theorem gX6_learn_X1_commit : GoodIn wsX6_learn (wsV RX6 148 RX1 yX1_commit wsX1_commit) := goodIn_app (goodIn_of _ (by decide +kernel)) ggX6_learn_X1_commit
theorem dX6_learn_0 : decode cX6_learn 0 = .ok (.iload_n 1, 1) := by decide +kernel
theorem dX6_learn_1 : decode cX6_learn 1 = .ok (.invokestatic 120, 3) := by decide +kernel
theorem dX6_learn_4 : decode cX6_learn 4 = .ok (.ifCond .ne 13, 3) := by decide +kernel
theorem dX6_learn_7 : decode cX6_learn 7 = .ok (.new 49, 3) := by decide +kernel
theorem dX6_learn_10 : decode cX6_learn 10 = .ok (.dup, 1) := by decide +kernel
theorem dX6_learn_11 : decode cX6_learn 11 = .ok (.ldc 123, 2) := by decide +kernel
theorem dX6_learn_13 : decode cX6_learn 13 = .ok (.invokespecial 53, 3) := by decide +kernel
theorem dX6_learn_16 : decode cX6_learn 16 = .ok (.athrow, 1) := by decide +kernel
theorem dX6_learn_17 : decode cX6_learn 17 = .ok (.aload_n 0, 1) := by decide +kernel
theorem dX6_learn_18 : decode cX6_learn 18 = .ok (.getfield 36, 3) := by decide +kernel
theorem dX6_learn_21 : decode cX6_learn 21 = .ok (.aload_n 0, 1) := by decide +kernel
theorem dX6_learn_22 : decode cX6_learn 22 = .ok (.getfield 12, 3) := by decide +kernel
theorem dX6_learn_25 : decode cX6_learn 25 = .ok (.invokevirtual 138, 3) := by decide +kernel
theorem dX6_learn_28 : decode cX6_learn 28 = .ok (.aload_n 0, 1) := by decide +kernel
theorem dX6_learn_29 : decode cX6_learn 29 = .ok (.getfield 12, 3) := by decide +kernel
theorem dX6_learn_32 : decode cX6_learn 32 = .ok (.iload_n 1, 1) := by decide +kernel
theorem dX6_learn_33 : decode cX6_learn 33 = .ok (.invokevirtual 171, 3) := by decide +kernel
theorem dX6_learn_36 : decode cX6_learn 36 = .ok (.ifCond .ne 13, 3) := by decide +kernel
theorem dX6_learn_39 : decode cX6_learn 39 = .ok (.new 60, 3) := by decide +kernel
theorem dX6_learn_42 : decode cX6_learn 42 = .ok (.dup, 1) := by decide +kernel
theorem dX6_learn_43 : decode cX6_learn 43 = .ok (.ldc 174, 2) := by decide +kernel
theorem dX6_learn_45 : decode cX6_learn 45 = .ok (.invokespecial 64, 3) := by decide +kernel
theorem dX6_learn_48 : decode cX6_learn 48 = .ok (.athrow, 1) := by decide +kernel
theorem dX6_learn_49 : decode cX6_learn 49 = .ok (.aload_n 0, 1) := by decide +kernel
theorem dX6_learn_50 : decode cX6_learn 50 = .ok (.getfield 36, 3) := by decide +kernel
theorem dX6_learn_53 : decode cX6_learn 53 = .ok (.invokevirtual 148, 3) := by decide +kernel
theorem dX6_learn_56 : decode cX6_learn 56 = .ok (.aload_n 0, 1) := by decide +kernel
theorem dX6_learn_57 : decode cX6_learn 57 = .ok (.getfield 12, 3) := by decide +kernel
theorem dX6_learn_60 : decode cX6_learn 60 = .ok (.getfield 92, 3) := by decide +kernel
theorem dX6_learn_63 : decode cX6_learn 63 = .ok (.iconst 1, 1) := by decide +kernel
theorem dX6_learn_64 : decode cX6_learn 64 = .ok (.isub, 1) := by decide +kernel
theorem dX6_learn_65 : decode cX6_learn 65 = .ok (.ireturn, 1) := by decide +kernel
set_option maxRecDepth 20000 in
theorem ggX6_forget_X1_prepare : GoodIn wsX6_forget wsX1_prepare := goodIn_r _ [10, 11, 12, 13, 14, 15, 16, 17, 18, 19, 20, 21, 22, 23, 24, 25, 26, 27, 28, 29, 30, 31, 32, 33, 34, 35, 36, 37, 38, 39, 40, 41, 42, 43, 44, 45, 46, 47, 48, 49, 50, 51, 52, 53, 54, 55, 56, 57, 58, 59, 60, 61, 62, 63, 104, 105, 106, 107, 98, 99, 100, 101, 102, 103, 108, 109, 110, 111, 112] (by decide +kernel) (by decide +kernel)
set_option maxRecDepth 20000 in
theorem gX6_forget_X1_prepare : GoodIn wsX6_forget (wsV RX6 138 RX1 yX1_prepare wsX1_prepare) := goodIn_app (goodIn_of _ (by decide +kernel)) ggX6_forget_X1_prepare
set_option maxRecDepth 20000 in
theorem ggX6_forget_X4_dropSample : GoodIn wsX6_forget wsX4_dropSample := goodIn_r _ [67, 47, 30, 32, 68, 69, 70, 21, 71, 72, 73, 74, 29, 75, 38, 39, 40, 41, 42, 76, 54, 77, 60, 61, 62, 63, 78, 79, 80, 81, 82, 83, 84, 85, 98, 99, 100, 101, 102, 103, 108, 109, 110, 111, 112] (by decide +kernel) (by decide +kernel)
set_option maxRecDepth 20000 in
theorem gX6_forget_X4_dropSample : GoodIn wsX6_forget (wsV RX6 176 RX4 yX4_dropSample wsX4_dropSample) := goodIn_app (goodIn_of _ (by decide +kernel)) ggX6_forget_X4_dropSample
set_option maxRecDepth 20000 in
theorem ggX6_forget_X1_commit : GoodIn wsX6_forget wsX1_commit := goodIn_r _ [89, 12, 90, 91, 57, 58, 59, 104, 105, 106] (by decide +kernel) (by decide +kernel)
set_option maxRecDepth 20000 in
theorem gX6_forget_X1_commit : GoodIn wsX6_forget (wsV RX6 148 RX1 yX1_commit wsX1_commit) := goodIn_app (goodIn_of _ (by decide +kernel)) ggX6_forget_X1_commit
theorem dX6_forget_0 : decode cX6_forget 0 = .ok (.aload_n 0, 1) := by decide +kernel
theorem dX6_forget_1 : decode cX6_forget 1 = .ok (.getfield 36, 3) := by decide +kernel
theorem dX6_forget_4 : decode cX6_forget 4 = .ok (.aload_n 0, 1) := by decide +kernel
theorem dX6_forget_5 : decode cX6_forget 5 = .ok (.getfield 12, 3) := by decide +kernel
theorem dX6_forget_8 : decode cX6_forget 8 = .ok (.invokevirtual 138, 3) := by decide +kernel
theorem dX6_forget_11 : decode cX6_forget 11 = .ok (.aload_n 0, 1) := by decide +kernel
theorem dX6_forget_12 : decode cX6_forget 12 = .ok (.getfield 12, 3) := by decide +kernel
theorem dX6_forget_15 : decode cX6_forget 15 = .ok (.iload_n 1, 1) := by decide +kernel
theorem dX6_forget_16 : decode cX6_forget 16 = .ok (.invokevirtual 176, 3) := by decide +kernel
theorem dX6_forget_19 : decode cX6_forget 19 = .ok (.ifCond .ne 13, 3) := by decide +kernel
theorem dX6_forget_22 : decode cX6_forget 22 = .ok (.new 110, 3) := by decide +kernel
theorem dX6_forget_25 : decode cX6_forget 25 = .ok (.dup, 1) := by decide +kernel
theorem dX6_forget_26 : decode cX6_forget 26 = .ok (.ldc 112, 2) := by decide +kernel
theorem dX6_forget_28 : decode cX6_forget 28 = .ok (.invokespecial 114, 3) := by decide +kernel
theorem dX6_forget_31 : decode cX6_forget 31 = .ok (.athrow, 1) := by decide +kernel
theorem dX6_forget_32 : decode cX6_forget 32 = .ok (.aload_n 0, 1) := by decide +kernel
theorem dX6_forget_33 : decode cX6_forget 33 = .ok (.getfield 36, 3) := by decide +kernel
theorem dX6_forget_36 : decode cX6_forget 36 = .ok (.invokevirtual 148, 3) := by decide +kernel
theorem dX6_forget_39 : decode cX6_forget 39 = .ok (.aload_n 0, 1) := by decide +kernel
theorem dX6_forget_40 : decode cX6_forget 40 = .ok (.getfield 12, 3) := by decide +kernel
theorem dX6_forget_43 : decode cX6_forget 43 = .ok (.getfield 92, 3) := by decide +kernel
theorem dX6_forget_46 : decode cX6_forget 46 = .ok (.ireturn, 1) := by decide +kernel
set_option maxRecDepth 20000 in
theorem ggX6_practise_X6_isName : GoodIn wsX6_practise wsX6_isName := goodIn_r _ [10] (by decide +kernel) (by decide +kernel)
set_option maxRecDepth 20000 in
theorem gX6_practise_X6_isName : GoodIn wsX6_practise (va_wsS RX6 120 yX6_isName wsX6_isName) := goodIn_app (goodIn_of _ (by decide +kernel)) ggX6_practise_X6_isName
set_option maxRecDepth 20000 in
theorem ggX6_practise_X1_prepare : GoodIn wsX6_practise wsX1_prepare := goodIn_r _ [15, 16, 17, 18, 19, 20, 21, 22, 23, 24, 25, 26, 27, 28, 29, 30, 31, 32, 33, 34, 35, 36, 37, 38, 39, 40, 41, 42, 43, 44, 45, 46, 47, 48, 49, 50, 51, 52, 53, 54, 55, 56, 57, 58, 9, 59, 60, 61, 62, 63, 64, 65, 66, 67, 159, 160, 161, 162, 163, 164, 165, 166, 167, 168, 169, 170, 171, 172, 173] (by decide +kernel) (by decide +kernel)
set_option maxRecDepth 20000 in
theorem gX6_practise_X1_prepare : GoodIn wsX6_practise (wsV RX6 138 RX1 yX1_prepare wsX1_prepare) := goodIn_app (goodIn_of _ (by decide +kernel)) ggX6_practise_X1_prepare
set_option maxRecDepth 20000 in
theorem ggX6_practise_X6_practiseOn : GoodIn wsX6_practise wsX6_practiseOn := goodIn_r _ [71, 72, 73, 74, 75, 76, 77, 78, 34, 79, 43, 80, 9, 81, 82, 83, 84, 85, 86, 87, 88, 89, 90, 91, 92, 93, 94, 95, 96, 97, 98, 99, 61, 62, 63, 100, 101, 102, 103, 46, 104, 105, 106, 107, 108, 109, 47, 110, 111, 112, 113, 114, 115, 116, 117, 118, 119, 120, 121, 26, 122, 38, 123, 124, 125, 126, 127, 128, 129, 130, 37, 131, 132, 133, 134, 39, 135, 136, 137, 138, 139, 140, 141, 142, 35, 53, 143, 144, 145, 146, 163, 164, 165, 166, 167, 168, 153, 154, 155, 156, 157, 158, 174, 175, 176, 177, 178, 179, 169, 170, 171, 172, 173] (by decide +kernel) (by decide +kernel)
set_option maxRecDepth 20000 in
theorem gX6_practise_X6_practiseOn : GoodIn wsX6_practise (wsV RX6 179 RX6 yX6_practiseOn wsX6_practiseOn) := goodIn_app (goodIn_of _ (by decide +kernel)) ggX6_practise_X6_practiseOn
set_option maxRecDepth 20000 in
theorem ggX6_practise_X1_commit : GoodIn wsX6_practise wsX1_commit := goodIn_r _ [150, 17, 151, 152, 61, 62, 63, 159, 160, 161] (by decide +kernel) (by decide +kernel)
set_option maxRecDepth 20000 in
theorem gX6_practise_X1_commit : GoodIn wsX6_practise (wsV RX6 148 RX1 yX1_commit wsX1_commit) := goodIn_app (goodIn_of _ (by decide +kernel)) ggX6_practise_X1_commit
theorem dX6_practise_0 : decode cX6_practise 0 = .ok (.iload_n 1, 1) := by decide +kernel
theorem dX6_practise_1 : decode cX6_practise 1 = .ok (.invokestatic 120, 3) := by decide +kernel
theorem dX6_practise_4 : decode cX6_practise 4 = .ok (.ifCond .ne 13, 3) := by decide +kernel
theorem dX6_practise_7 : decode cX6_practise 7 = .ok (.new 49, 3) := by decide +kernel
theorem dX6_practise_10 : decode cX6_practise 10 = .ok (.dup, 1) := by decide +kernel
theorem dX6_practise_11 : decode cX6_practise 11 = .ok (.ldc 123, 2) := by decide +kernel
theorem dX6_practise_13 : decode cX6_practise 13 = .ok (.invokespecial 53, 3) := by decide +kernel
theorem dX6_practise_16 : decode cX6_practise 16 = .ok (.athrow, 1) := by decide +kernel
theorem dX6_practise_17 : decode cX6_practise 17 = .ok (.aload_n 0, 1) := by decide +kernel
theorem dX6_practise_18 : decode cX6_practise 18 = .ok (.getfield 36, 3) := by decide +kernel
theorem dX6_practise_21 : decode cX6_practise 21 = .ok (.aload_n 0, 1) := by decide +kernel
theorem dX6_practise_22 : decode cX6_practise 22 = .ok (.getfield 12, 3) := by decide +kernel
theorem dX6_practise_25 : decode cX6_practise 25 = .ok (.invokevirtual 138, 3) := by decide +kernel
theorem dX6_practise_28 : decode cX6_practise 28 = .ok (.aload_n 0, 1) := by decide +kernel
theorem dX6_practise_29 : decode cX6_practise 29 = .ok (.aload_n 0, 1) := by decide +kernel
theorem dX6_practise_30 : decode cX6_practise 30 = .ok (.getfield 12, 3) := by decide +kernel
theorem dX6_practise_33 : decode cX6_practise 33 = .ok (.iload_n 1, 1) := by decide +kernel
theorem dX6_practise_34 : decode cX6_practise 34 = .ok (.invokevirtual 179, 3) := by decide +kernel
theorem dX6_practise_37 : decode cX6_practise 37 = .ok (.istore_n 2, 1) := by decide +kernel
theorem dX6_practise_38 : decode cX6_practise 38 = .ok (.iload_n 2, 1) := by decide +kernel
theorem dX6_practise_39 : decode cX6_practise 39 = .ok (.iconst (-1), 1) := by decide +kernel
theorem dX6_practise_40 : decode cX6_practise 40 = .ok (.if_icmp .ne 13, 3) := by decide +kernel
theorem dX6_practise_43 : decode cX6_practise 43 = .ok (.new 60, 3) := by decide +kernel
theorem dX6_practise_46 : decode cX6_practise 46 = .ok (.dup, 1) := by decide +kernel
theorem dX6_practise_47 : decode cX6_practise 47 = .ok (.ldc 183, 2) := by decide +kernel
theorem dX6_practise_49 : decode cX6_practise 49 = .ok (.invokespecial 64, 3) := by decide +kernel
theorem dX6_practise_52 : decode cX6_practise 52 = .ok (.athrow, 1) := by decide +kernel
theorem dX6_practise_53 : decode cX6_practise 53 = .ok (.aload_n 0, 1) := by decide +kernel
theorem dX6_practise_54 : decode cX6_practise 54 = .ok (.getfield 36, 3) := by decide +kernel
theorem dX6_practise_57 : decode cX6_practise 57 = .ok (.invokevirtual 148, 3) := by decide +kernel
theorem dX6_practise_60 : decode cX6_practise 60 = .ok (.iload_n 2, 1) := by decide +kernel
theorem dX6_practise_61 : decode cX6_practise 61 = .ok (.ireturn, 1) := by decide +kernel
set_option maxRecDepth 20000 in
theorem ggX6_set_X6_isSetting : GoodIn wsX6_set wsX6_isSetting := goodIn_r _ [10] (by decide +kernel) (by decide +kernel)
set_option maxRecDepth 20000 in
theorem gX6_set_X6_isSetting : GoodIn wsX6_set (va_wsS RX6 185 yX6_isSetting wsX6_isSetting) := goodIn_app (goodIn_of _ (by decide +kernel)) ggX6_set_X6_isSetting
set_option maxRecDepth 20000 in
theorem ggX6_set_X4_settingOf : GoodIn wsX6_set wsX4_settingOf := goodIn_r _ [15, 16, 17, 9, 18, 143, 144, 145, 146, 147, 148] (by decide +kernel) (by decide +kernel)
set_option maxRecDepth 20000 in
theorem gX6_set_X4_settingOf : GoodIn wsX6_set (wsV RX6 130 RX4 yX4_settingOf wsX4_settingOf) := goodIn_app (goodIn_of _ (by decide +kernel)) ggX6_set_X4_settingOf
set_option maxRecDepth 20000 in
theorem ggX6_set_X1_prepare : GoodIn wsX6_set wsX1_prepare := goodIn_r _ [23, 24, 25, 26, 27, 28, 29, 30, 31, 32, 33, 14, 34, 35, 36, 37, 38, 39, 40, 41, 42, 43, 44, 16, 45, 46, 47, 48, 49, 50, 51, 52, 53, 54, 55, 56, 57, 58, 59, 60, 61, 62, 63, 64, 9, 65, 66, 67, 68, 69, 70, 71, 72, 73, 149, 150, 151, 152, 143, 144, 145, 146, 147, 148, 153, 154, 155, 156, 157] (by decide +kernel) (by decide +kernel)
set_option maxRecDepth 20000 in
theorem gX6_set_X1_prepare : GoodIn wsX6_set (wsV RX6 138 RX1 yX1_prepare wsX1_prepare) := goodIn_app (goodIn_of _ (by decide +kernel)) ggX6_set_X1_prepare
set_option maxRecDepth 20000 in
theorem ggX6_set_X4_changeSetting : GoodIn wsX6_set wsX4_changeSetting := goodIn_r _ [77, 16, 58, 42, 78, 79, 80, 14, 81, 82, 83, 84, 41, 85, 86, 87, 68, 88, 89, 90, 91, 92, 49, 17, 9, 18, 93, 94, 95, 96, 50, 97, 98, 99, 100, 51, 101, 102, 103, 104, 105, 106, 107, 108, 109, 110, 111, 112, 113, 114, 115, 52, 116, 117, 118, 119, 53, 120, 121, 122, 123, 124, 125, 126, 127, 128, 129, 130, 143, 144, 145, 146, 147, 148, 153, 154, 155, 156, 157] (by decide +kernel) (by decide +kernel)
set_option maxRecDepth 20000 in
theorem gX6_set_X4_changeSetting : GoodIn wsX6_set (wsV RX6 190 RX4 yX4_changeSetting wsX4_changeSetting) := goodIn_app (goodIn_of _ (by decide +kernel)) ggX6_set_X4_changeSetting
set_option maxRecDepth 20000 in
theorem ggX6_set_X1_commit : GoodIn wsX6_set wsX1_commit := goodIn_r _ [134, 25, 135, 136, 67, 68, 69, 149, 150, 151] (by decide +kernel) (by decide +kernel)
set_option maxRecDepth 20000 in
theorem gX6_set_X1_commit : GoodIn wsX6_set (wsV RX6 148 RX1 yX1_commit wsX1_commit) := goodIn_app (goodIn_of _ (by decide +kernel)) ggX6_set_X1_commit
theorem dX6_set_0 : decode cX6_set 0 = .ok (.iload_n 1, 1) := by decide +kernel
theorem dX6_set_1 : decode cX6_set 1 = .ok (.iload_n 2, 1) := by decide +kernel
theorem dX6_set_2 : decode cX6_set 2 = .ok (.invokestatic 185, 3) := by decide +kernel
theorem dX6_set_5 : decode cX6_set 5 = .ok (.ifCond .ne 13, 3) := by decide +kernel
theorem dX6_set_8 : decode cX6_set 8 = .ok (.new 49, 3) := by decide +kernel
theorem dX6_set_11 : decode cX6_set 11 = .ok (.dup, 1) := by decide +kernel
theorem dX6_set_12 : decode cX6_set 12 = .ok (.ldc 188, 2) := by decide +kernel
theorem dX6_set_14 : decode cX6_set 14 = .ok (.invokespecial 53, 3) := by decide +kernel
theorem dX6_set_17 : decode cX6_set 17 = .ok (.athrow, 1) := by decide +kernel
theorem dX6_set_18 : decode cX6_set 18 = .ok (.aload_n 0, 1) := by decide +kernel
theorem dX6_set_19 : decode cX6_set 19 = .ok (.getfield 12, 3) := by decide +kernel
theorem dX6_set_22 : decode cX6_set 22 = .ok (.iload_n 1, 1) := by decide +kernel
theorem dX6_set_23 : decode cX6_set 23 = .ok (.invokevirtual 130, 3) := by decide +kernel
theorem dX6_set_26 : decode cX6_set 26 = .ok (.istore_n 3, 1) := by decide +kernel
theorem dX6_set_27 : decode cX6_set 27 = .ok (.aload_n 0, 1) := by decide +kernel
theorem dX6_set_28 : decode cX6_set 28 = .ok (.getfield 36, 3) := by decide +kernel
theorem dX6_set_31 : decode cX6_set 31 = .ok (.aload_n 0, 1) := by decide +kernel
theorem dX6_set_32 : decode cX6_set 32 = .ok (.getfield 12, 3) := by decide +kernel
theorem dX6_set_35 : decode cX6_set 35 = .ok (.invokevirtual 138, 3) := by decide +kernel
theorem dX6_set_38 : decode cX6_set 38 = .ok (.aload_n 0, 1) := by decide +kernel
theorem dX6_set_39 : decode cX6_set 39 = .ok (.getfield 12, 3) := by decide +kernel
theorem dX6_set_42 : decode cX6_set 42 = .ok (.iload_n 1, 1) := by decide +kernel
theorem dX6_set_43 : decode cX6_set 43 = .ok (.iload_n 2, 1) := by decide +kernel
theorem dX6_set_44 : decode cX6_set 44 = .ok (.invokevirtual 190, 3) := by decide +kernel
theorem dX6_set_47 : decode cX6_set 47 = .ok (.ifCond .ne 13, 3) := by decide +kernel
theorem dX6_set_50 : decode cX6_set 50 = .ok (.new 60, 3) := by decide +kernel
theorem dX6_set_53 : decode cX6_set 53 = .ok (.dup, 1) := by decide +kernel
theorem dX6_set_54 : decode cX6_set 54 = .ok (.ldc 193, 2) := by decide +kernel
theorem dX6_set_56 : decode cX6_set 56 = .ok (.invokespecial 64, 3) := by decide +kernel
theorem dX6_set_59 : decode cX6_set 59 = .ok (.athrow, 1) := by decide +kernel
theorem dX6_set_60 : decode cX6_set 60 = .ok (.aload_n 0, 1) := by decide +kernel
theorem dX6_set_61 : decode cX6_set 61 = .ok (.getfield 36, 3) := by decide +kernel
theorem dX6_set_64 : decode cX6_set 64 = .ok (.invokevirtual 148, 3) := by decide +kernel
theorem dX6_set_67 : decode cX6_set 67 = .ok (.iload_n 3, 1) := by decide +kernel
theorem dX6_set_68 : decode cX6_set 68 = .ok (.ireturn, 1) := by decide +kernel
set_option maxRecDepth 20000 in
theorem ggX6_undo_X1_newestState : GoodIn wsX6_undo wsX1_newestState := goodIn_r _ [10, 11, 12, 13, 14, 15, 16, 17, 18, 19, 62, 63, 64, 65] (by decide +kernel) (by decide +kernel)
set_option maxRecDepth 20000 in
theorem gX6_undo_X1_newestState : GoodIn wsX6_undo (wsV RX6 195 RX1 yX1_newestState wsX1_newestState) := goodIn_app (goodIn_of _ (by decide +kernel)) ggX6_undo_X1_newestState
set_option maxRecDepth 20000 in
theorem ggX6_undo_X4_copyFrom : GoodIn wsX6_undo wsX4_copyFrom := goodIn_r _ [24, 25, 26, 27, 28, 29, 30, 31, 32, 33, 34, 35, 36, 37, 38, 39, 40, 41, 42, 43, 44, 45, 46, 47, 48, 49, 50, 51, 66, 67, 68, 69, 70, 71, 72, 73, 74, 75, 76] (by decide +kernel) (by decide +kernel)
set_option maxRecDepth 20000 in
theorem gX6_undo_X4_copyFrom : GoodIn wsX6_undo (wsV RX6 159 RX4 yX4_copyFrom wsX4_copyFrom) := goodIn_app (goodIn_of _ (by decide +kernel)) ggX6_undo_X4_copyFrom
set_option maxRecDepth 20000 in
theorem ggX6_undo_X1_dropNewest : GoodIn wsX6_undo wsX1_dropNewest := goodIn_r _ [55, 13, 11, 62, 63, 64] (by decide +kernel) (by decide +kernel)
