set_option maxRecDepth 20000 in
theorem ggX7_sample_X7_nameOf : GoodIn wsX7_sample wsX7_nameOf := goodIn_r _ [18, 19, 20, 6, 21] (by decide +kernel) (by decide +kernel)
set_option maxRecDepth 20000 in
theorem gX7_sample_X7_nameOf : GoodIn wsX7_sample (va_wsS RX7 146 yX7_nameOf wsX7_nameOf) := goodIn_app (goodIn_of _ (by decide +kernel)) ggX7_sample_X7_nameOf
set_option maxRecDepth 20000 in
theorem ggX7_sample_X7_at : GoodIn wsX7_sample wsX7_at := goodIn_r _ [21] (by decide +kernel) (by decide +kernel)
set_option maxRecDepth 20000 in
theorem gX7_sample_X7_at : GoodIn wsX7_sample (va_wsS RX7 79 yX7_at wsX7_at) := goodIn_app (goodIn_of _ (by decide +kernel)) ggX7_sample_X7_at
set_option maxRecDepth 20000 in
theorem ggX7_sample_X7_pointsOf : GoodIn wsX7_sample wsX7_pointsOf := goodIn_r _ [24] (by decide +kernel) (by decide +kernel)
set_option maxRecDepth 20000 in
theorem gX7_sample_X7_pointsOf : GoodIn wsX7_sample (va_wsS RX7 133 yX7_pointsOf wsX7_pointsOf) := goodIn_app (goodIn_of _ (by decide +kernel)) ggX7_sample_X7_pointsOf
set_option maxRecDepth 20000 in
theorem ggX7_sample_X7_signature : GoodIn wsX7_sample wsX7_signature := goodIn_r _ [27, 28, 29, 6, 30, 31, 32, 33, 34, 35, 36, 37, 38, 39] (by decide +kernel) (by decide +kernel)
set_option maxRecDepth 20000 in
theorem gX7_sample_X7_signature : GoodIn wsX7_sample (va_wsS RX7 75 yX7_signature wsX7_signature) := goodIn_app (goodIn_of _ (by decide +kernel)) ggX7_sample_X7_signature
theorem dX7_sample_0 : decode cX7_sample 0 = .ok (.aload_n 0, 1) := by decide +kernel
theorem dX7_sample_1 : decode cX7_sample 1 = .ok (.aload_n 0, 1) := by decide +kernel
theorem dX7_sample_2 : decode cX7_sample 2 = .ok (.getfield 13, 3) := by decide +kernel
theorem dX7_sample_5 : decode cX7_sample 5 = .ok (.iload_n 1, 1) := by decide +kernel
theorem dX7_sample_6 : decode cX7_sample 6 = .ok (.invokestatic 140, 3) := by decide +kernel
theorem dX7_sample_9 : decode cX7_sample 9 = .ok (.ifCond .ne 7, 3) := by decide +kernel
theorem dX7_sample_12 : decode cX7_sample 12 = .ok (.iconst 1, 1) := by decide +kernel
theorem dX7_sample_13 : decode cX7_sample 13 = .ok (.goto 20, 3) := by decide +kernel
theorem dX7_sample_16 : decode cX7_sample 16 = .ok (.iload_n 2, 1) := by decide +kernel
theorem dX7_sample_17 : decode cX7_sample 17 = .ok (.i2l, 1) := by decide +kernel
theorem dX7_sample_18 : decode cX7_sample 18 = .ok (.lconst 0, 1) := by decide +kernel
theorem dX7_sample_19 : decode cX7_sample 19 = .ok (.ldc2_w 144, 3) := by decide +kernel
theorem dX7_sample_22 : decode cX7_sample 22 = .ok (.invokestatic 45, 3) := by decide +kernel
theorem dX7_sample_25 : decode cX7_sample 25 = .ok (.ifCond .eq 7, 3) := by decide +kernel
theorem dX7_sample_28 : decode cX7_sample 28 = .ok (.iconst 0, 1) := by decide +kernel
theorem dX7_sample_29 : decode cX7_sample 29 = .ok (.goto 4, 3) := by decide +kernel
theorem dX7_sample_32 : decode cX7_sample 32 = .ok (.iconst 2, 1) := by decide +kernel
theorem dX7_sample_33 : decode cX7_sample 33 = .ok (.invokevirtual 102, 3) := by decide +kernel
theorem dX7_sample_36 : decode cX7_sample 36 = .ok (.ifCond .eq 5, 3) := by decide +kernel
theorem dX7_sample_39 : decode cX7_sample 39 = .ok (.iconst 0, 1) := by decide +kernel
theorem dX7_sample_40 : decode cX7_sample 40 = .ok (.ireturn, 1) := by decide +kernel
theorem dX7_sample_41 : decode cX7_sample 41 = .ok (.iload_n 2, 1) := by decide +kernel
theorem dX7_sample_42 : decode cX7_sample 42 = .ok (.ifCond .ne 14, 3) := by decide +kernel
theorem dX7_sample_45 : decode cX7_sample 45 = .ok (.aload_n 0, 1) := by decide +kernel
theorem dX7_sample_46 : decode cX7_sample 46 = .ok (.getfield 13, 3) := by decide +kernel
theorem dX7_sample_49 : decode cX7_sample 49 = .ok (.iload_n 1, 1) := by decide +kernel
theorem dX7_sample_50 : decode cX7_sample 50 = .ok (.invokestatic 146, 3) := by decide +kernel
theorem dX7_sample_53 : decode cX7_sample 53 = .ok (.goto 61, 3) := by decide +kernel
theorem dX7_sample_56 : decode cX7_sample 56 = .ok (.iload_n 2, 1) := by decide +kernel
theorem dX7_sample_57 : decode cX7_sample 57 = .ok (.iconst 1, 1) := by decide +kernel
theorem dX7_sample_58 : decode cX7_sample 58 = .ok (.if_icmp .ne 15, 3) := by decide +kernel
theorem dX7_sample_61 : decode cX7_sample 61 = .ok (.aload_n 0, 1) := by decide +kernel
theorem dX7_sample_62 : decode cX7_sample 62 = .ok (.getfield 13, 3) := by decide +kernel
theorem dX7_sample_65 : decode cX7_sample 65 = .ok (.iload_n 1, 1) := by decide +kernel
theorem dX7_sample_66 : decode cX7_sample 66 = .ok (.invokestatic 79, 3) := by decide +kernel
theorem dX7_sample_69 : decode cX7_sample 69 = .ok (.iaload, 1) := by decide +kernel
theorem dX7_sample_70 : decode cX7_sample 70 = .ok (.goto 44, 3) := by decide +kernel
theorem dX7_sample_73 : decode cX7_sample 73 = .ok (.iload_n 2, 1) := by decide +kernel
theorem dX7_sample_74 : decode cX7_sample 74 = .ok (.iconst 2, 1) := by decide +kernel
theorem dX7_sample_75 : decode cX7_sample 75 = .ok (.if_icmp .ne 17, 3) := by decide +kernel
theorem dX7_sample_78 : decode cX7_sample 78 = .ok (.aload_n 0, 1) := by decide +kernel
theorem dX7_sample_79 : decode cX7_sample 79 = .ok (.getfield 13, 3) := by decide +kernel
theorem dX7_sample_82 : decode cX7_sample 82 = .ok (.iload_n 1, 1) := by decide +kernel
theorem dX7_sample_83 : decode cX7_sample 83 = .ok (.invokestatic 79, 3) := by decide +kernel
theorem dX7_sample_86 : decode cX7_sample 86 = .ok (.invokestatic 133, 3) := by decide +kernel
theorem dX7_sample_89 : decode cX7_sample 89 = .ok (.goto 25, 3) := by decide +kernel
theorem dX7_sample_92 : decode cX7_sample 92 = .ok (.aload_n 0, 1) := by decide +kernel
theorem dX7_sample_93 : decode cX7_sample 93 = .ok (.getfield 13, 3) := by decide +kernel
theorem dX7_sample_96 : decode cX7_sample 96 = .ok (.iload_n 1, 1) := by decide +kernel
theorem dX7_sample_97 : decode cX7_sample 97 = .ok (.invokestatic 79, 3) := by decide +kernel
theorem dX7_sample_100 : decode cX7_sample 100 = .ok (.aload_n 0, 1) := by decide +kernel
theorem dX7_sample_101 : decode cX7_sample 101 = .ok (.getfield 13, 3) := by decide +kernel
theorem dX7_sample_104 : decode cX7_sample 104 = .ok (.bipush 77, 2) := by decide +kernel
theorem dX7_sample_106 : decode cX7_sample 106 = .ok (.iaload, 1) := by decide +kernel
theorem dX7_sample_107 : decode cX7_sample 107 = .ok (.aload_n 0, 1) := by decide +kernel
theorem dX7_sample_108 : decode cX7_sample 108 = .ok (.getfield 32, 3) := by decide +kernel
theorem dX7_sample_111 : decode cX7_sample 111 = .ok (.invokestatic 75, 3) := by decide +kernel
theorem dX7_sample_114 : decode cX7_sample 114 = .ok (.ireturn, 1) := by decide +kernel
set_option maxRecDepth 20000 in
theorem ggX7_signOf_X7_isSample : GoodIn wsX7_signOf wsX7_isSample := goodIn_r _ [6, 7, 8, 5, 9] (by decide +kernel) (by decide +kernel)
set_option maxRecDepth 20000 in
theorem gX7_signOf_X7_isSample : GoodIn wsX7_signOf (va_wsS RX7 140 yX7_isSample wsX7_isSample) := goodIn_app (goodIn_of _ (by decide +kernel)) ggX7_signOf_X7_isSample
set_option maxRecDepth 20000 in
theorem ggX7_signOf_X7_refused : GoodIn wsX7_signOf wsX7_refused := goodIn_r _ [13, 14, 33, 34, 35, 36, 37, 38, 39, 40, 41, 42, 43, 44, 45, 46, 47, 48, 49, 50, 51] (by decide +kernel) (by decide +kernel)
set_option maxRecDepth 20000 in
theorem gX7_signOf_X7_refused : GoodIn wsX7_signOf (wsV RX7 102 RX7 yX7_refused wsX7_refused) := goodIn_app (goodIn_of _ (by decide +kernel)) ggX7_signOf_X7_refused
set_option maxRecDepth 20000 in
theorem ggX7_signOf_X7_at : GoodIn wsX7_signOf wsX7_at := goodIn_r _ [17] (by decide +kernel) (by decide +kernel)
set_option maxRecDepth 20000 in
theorem gX7_signOf_X7_at : GoodIn wsX7_signOf (va_wsS RX7 79 yX7_at wsX7_at) := goodIn_app (goodIn_of _ (by decide +kernel)) ggX7_signOf_X7_at
set_option maxRecDepth 20000 in
theorem ggX7_signOf_X7_signature : GoodIn wsX7_signOf wsX7_signature := goodIn_r _ [20, 21, 22, 5, 23, 24, 25, 26, 27, 28, 29, 30, 31, 32] (by decide +kernel) (by decide +kernel)
set_option maxRecDepth 20000 in
theorem gX7_signOf_X7_signature : GoodIn wsX7_signOf (va_wsS RX7 75 yX7_signature wsX7_signature) := goodIn_app (goodIn_of _ (by decide +kernel)) ggX7_signOf_X7_signature
theorem dX7_signOf_0 : decode cX7_signOf 0 = .ok (.aload_n 0, 1) := by decide +kernel
theorem dX7_signOf_1 : decode cX7_signOf 1 = .ok (.aload_n 0, 1) := by decide +kernel
theorem dX7_signOf_2 : decode cX7_signOf 2 = .ok (.getfield 13, 3) := by decide +kernel
theorem dX7_signOf_5 : decode cX7_signOf 5 = .ok (.iload_n 1, 1) := by decide +kernel
theorem dX7_signOf_6 : decode cX7_signOf 6 = .ok (.invokestatic 140, 3) := by decide +kernel
theorem dX7_signOf_9 : decode cX7_signOf 9 = .ok (.ifCond .ne 7, 3) := by decide +kernel
theorem dX7_signOf_12 : decode cX7_signOf 12 = .ok (.iconst 1, 1) := by decide +kernel
theorem dX7_signOf_13 : decode cX7_signOf 13 = .ok (.goto 12, 3) := by decide +kernel
theorem dX7_signOf_16 : decode cX7_signOf 16 = .ok (.iload_n 2, 1) := by decide +kernel
theorem dX7_signOf_17 : decode cX7_signOf 17 = .ok (.ifCond .ge 7, 3) := by decide +kernel
theorem dX7_signOf_20 : decode cX7_signOf 20 = .ok (.iconst 2, 1) := by decide +kernel
theorem dX7_signOf_21 : decode cX7_signOf 21 = .ok (.goto 4, 3) := by decide +kernel
theorem dX7_signOf_24 : decode cX7_signOf 24 = .ok (.iconst 0, 1) := by decide +kernel
theorem dX7_signOf_25 : decode cX7_signOf 25 = .ok (.invokevirtual 102, 3) := by decide +kernel
theorem dX7_signOf_28 : decode cX7_signOf 28 = .ok (.ifCond .eq 5, 3) := by decide +kernel
theorem dX7_signOf_31 : decode cX7_signOf 31 = .ok (.iconst 0, 1) := by decide +kernel
theorem dX7_signOf_32 : decode cX7_signOf 32 = .ok (.ireturn, 1) := by decide +kernel
theorem dX7_signOf_33 : decode cX7_signOf 33 = .ok (.aload_n 0, 1) := by decide +kernel
theorem dX7_signOf_34 : decode cX7_signOf 34 = .ok (.getfield 13, 3) := by decide +kernel
theorem dX7_signOf_37 : decode cX7_signOf 37 = .ok (.iload_n 1, 1) := by decide +kernel
theorem dX7_signOf_38 : decode cX7_signOf 38 = .ok (.invokestatic 79, 3) := by decide +kernel
theorem dX7_signOf_41 : decode cX7_signOf 41 = .ok (.aload_n 0, 1) := by decide +kernel
theorem dX7_signOf_42 : decode cX7_signOf 42 = .ok (.getfield 13, 3) := by decide +kernel
theorem dX7_signOf_45 : decode cX7_signOf 45 = .ok (.bipush 77, 2) := by decide +kernel
theorem dX7_signOf_47 : decode cX7_signOf 47 = .ok (.iaload, 1) := by decide +kernel
theorem dX7_signOf_48 : decode cX7_signOf 48 = .ok (.aload_n 0, 1) := by decide +kernel
theorem dX7_signOf_49 : decode cX7_signOf 49 = .ok (.getfield 32, 3) := by decide +kernel
theorem dX7_signOf_52 : decode cX7_signOf 52 = .ok (.invokestatic 75, 3) := by decide +kernel
theorem dX7_signOf_55 : decode cX7_signOf 55 = .ok (.istore_n 3, 1) := by decide +kernel
theorem dX7_signOf_56 : decode cX7_signOf 56 = .ok (.iload_n 2, 1) := by decide +kernel
theorem dX7_signOf_57 : decode cX7_signOf 57 = .ok (.iload_n 3, 1) := by decide +kernel
theorem dX7_signOf_58 : decode cX7_signOf 58 = .ok (.if_icmp .ge 12, 3) := by decide +kernel
theorem dX7_signOf_61 : decode cX7_signOf 61 = .ok (.aload_n 0, 1) := by decide +kernel
theorem dX7_signOf_62 : decode cX7_signOf 62 = .ok (.getfield 32, 3) := by decide +kernel
theorem dX7_signOf_65 : decode cX7_signOf 65 = .ok (.iload_n 2, 1) := by decide +kernel
theorem dX7_signOf_66 : decode cX7_signOf 66 = .ok (.iaload, 1) := by decide +kernel
theorem dX7_signOf_67 : decode cX7_signOf 67 = .ok (.goto 4, 3) := by decide +kernel
theorem dX7_signOf_70 : decode cX7_signOf 70 = .ok (.iconst (-1), 1) := by decide +kernel
theorem dX7_signOf_71 : decode cX7_signOf 71 = .ok (.ireturn, 1) := by decide +kernel
set_option maxRecDepth 20000 in
theorem ggX7_isName_X7_in : GoodIn wsX7_isName wsX7_in := goodIn_r _ [5] (by decide +kernel) (by decide +kernel)
set_option maxRecDepth 20000 in
theorem gX7_isName_X7_in : GoodIn wsX7_isName (va_wsS RX7 45 yX7_in wsX7_in) := goodIn_app (goodIn_of _ (by decide +kernel)) ggX7_isName_X7_in
theorem dX7_isName_0 : decode cX7_isName 0 = .ok (.iload_n 0, 1) := by decide +kernel
theorem dX7_isName_1 : decode cX7_isName 1 = .ok (.i2l, 1) := by decide +kernel
theorem dX7_isName_2 : decode cX7_isName 2 = .ok (.lconst 0, 1) := by decide +kernel
theorem dX7_isName_3 : decode cX7_isName 3 = .ok (.ldc2_w 149, 3) := by decide +kernel
theorem dX7_isName_6 : decode cX7_isName 6 = .ok (.invokestatic 45, 3) := by decide +kernel
theorem dX7_isName_9 : decode cX7_isName 9 = .ok (.ireturn, 1) := by decide +kernel
set_option maxRecDepth 20000 in
theorem ggX7_practised_X7_isName : GoodIn wsX7_practised wsX7_isName := goodIn_r _ [6, 7, 8, 9, 5, 10] (by decide +kernel) (by decide +kernel)
set_option maxRecDepth 20000 in
theorem gX7_practised_X7_isName : GoodIn wsX7_practised (va_wsS RX7 151 yX7_isName wsX7_isName) := goodIn_app (goodIn_of _ (by decide +kernel)) ggX7_practised_X7_isName
set_option maxRecDepth 20000 in
theorem ggX7_practised_X7_in : GoodIn wsX7_practised wsX7_in := goodIn_r _ [10] (by decide +kernel) (by decide +kernel)
set_option maxRecDepth 20000 in
theorem gX7_practised_X7_in : GoodIn wsX7_practised (va_wsS RX7 45 yX7_in wsX7_in) := goodIn_app (goodIn_of _ (by decide +kernel)) ggX7_practised_X7_in
set_option maxRecDepth 20000 in
theorem ggX7_practised_X7_refused : GoodIn wsX7_practised wsX7_refused := goodIn_r _ [14, 15, 16, 17, 18, 19, 20, 21, 22, 23, 24, 25, 26, 27, 28, 29, 30, 31, 32, 33, 34] (by decide +kernel) (by decide +kernel)
set_option maxRecDepth 20000 in
theorem gX7_practised_X7_refused : GoodIn wsX7_practised (wsV RX7 102 RX7 yX7_refused wsX7_refused) := goodIn_app (goodIn_of _ (by decide +kernel)) ggX7_practised_X7_refused
theorem dX7_practised_0 : decode cX7_practised 0 = .ok (.aload_n 0, 1) := by decide +kernel
theorem dX7_practised_1 : decode cX7_practised 1 = .ok (.iload_n 1, 1) := by decide +kernel
theorem dX7_practised_2 : decode cX7_practised 2 = .ok (.invokestatic 151, 3) := by decide +kernel
theorem dX7_practised_5 : decode cX7_practised 5 = .ok (.ifCond .eq 19, 3) := by decide +kernel
theorem dX7_practised_8 : decode cX7_practised 8 = .ok (.iload_n 2, 1) := by decide +kernel
theorem dX7_practised_9 : decode cX7_practised 9 = .ok (.i2l, 1) := by decide +kernel
theorem dX7_practised_10 : decode cX7_practised 10 = .ok (.lconst 0, 1) := by decide +kernel
theorem dX7_practised_11 : decode cX7_practised 11 = .ok (.ldc2_w 154, 3) := by decide +kernel
theorem dX7_practised_14 : decode cX7_practised 14 = .ok (.invokestatic 45, 3) := by decide +kernel
theorem dX7_practised_17 : decode cX7_practised 17 = .ok (.ifCond .eq 7, 3) := by decide +kernel
theorem dX7_practised_20 : decode cX7_practised 20 = .ok (.iconst 0, 1) := by decide +kernel
theorem dX7_practised_21 : decode cX7_practised 21 = .ok (.goto 4, 3) := by decide +kernel
theorem dX7_practised_24 : decode cX7_practised 24 = .ok (.iconst 1, 1) := by decide +kernel
theorem dX7_practised_25 : decode cX7_practised 25 = .ok (.invokevirtual 102, 3) := by decide +kernel
theorem dX7_practised_28 : decode cX7_practised 28 = .ok (.ifCond .eq 5, 3) := by decide +kernel
theorem dX7_practised_31 : decode cX7_practised 31 = .ok (.iconst 0, 1) := by decide +kernel
theorem dX7_practised_32 : decode cX7_practised 32 = .ok (.ireturn, 1) := by decide +kernel
theorem dX7_practised_33 : decode cX7_practised 33 = .ok (.aload_n 0, 1) := by decide +kernel
theorem dX7_practised_34 : decode cX7_practised 34 = .ok (.getfield 13, 3) := by decide +kernel
theorem dX7_practised_37 : decode cX7_practised 37 = .ok (.bipush 80, 2) := by decide +kernel
theorem dX7_practised_39 : decode cX7_practised 39 = .ok (.bipush 10, 2) := by decide +kernel
theorem dX7_practised_41 : decode cX7_practised 41 = .ok (.iload_n 2, 1) := by decide +kernel
theorem dX7_practised_42 : decode cX7_practised 42 = .ok (.imul, 1) := by decide +kernel
theorem dX7_practised_43 : decode cX7_practised 43 = .ok (.iadd, 1) := by decide +kernel
theorem dX7_practised_44 : decode cX7_practised 44 = .ok (.iload_n 1, 1) := by decide +kernel
theorem dX7_practised_45 : decode cX7_practised 45 = .ok (.iadd, 1) := by decide +kernel
theorem dX7_practised_46 : decode cX7_practised 46 = .ok (.iaload, 1) := by decide +kernel
theorem dX7_practised_47 : decode cX7_practised 47 = .ok (.ireturn, 1) := by decide +kernel
set_option maxRecDepth 20000 in
theorem ggX7_setting_X7_in : GoodIn wsX7_setting wsX7_in := goodIn_r _ [6] (by decide +kernel) (by decide +kernel)
set_option maxRecDepth 20000 in
theorem gX7_setting_X7_in : GoodIn wsX7_setting (va_wsS RX7 45 yX7_in wsX7_in) := goodIn_app (goodIn_of _ (by decide +kernel)) ggX7_setting_X7_in
set_option maxRecDepth 20000 in
theorem ggX7_setting_X7_refused : GoodIn wsX7_setting wsX7_refused := goodIn_r _ [10, 11, 12, 13, 14, 15, 16, 17, 18, 19, 20, 21, 22, 23, 24, 25, 26, 27, 28, 29, 30] (by decide +kernel) (by decide +kernel)
set_option maxRecDepth 20000 in
theorem gX7_setting_X7_refused : GoodIn wsX7_setting (wsV RX7 102 RX7 yX7_refused wsX7_refused) := goodIn_app (goodIn_of _ (by decide +kernel)) ggX7_setting_X7_refused
theorem dX7_setting_0 : decode cX7_setting 0 = .ok (.aload_n 0, 1) := by decide +kernel
theorem dX7_setting_1 : decode cX7_setting 1 = .ok (.iload_n 1, 1) := by decide +kernel
theorem dX7_setting_2 : decode cX7_setting 2 = .ok (.i2l, 1) := by decide +kernel
theorem dX7_setting_3 : decode cX7_setting 3 = .ok (.lconst 0, 1) := by decide +kernel
theorem dX7_setting_4 : decode cX7_setting 4 = .ok (.ldc2_w 154, 3) := by decide +kernel
theorem dX7_setting_7 : decode cX7_setting 7 = .ok (.invokestatic 45, 3) := by decide +kernel
theorem dX7_setting_10 : decode cX7_setting 10 = .ok (.ifCond .eq 7, 3) := by decide +kernel
theorem dX7_setting_13 : decode cX7_setting 13 = .ok (.iconst 0, 1) := by decide +kernel
theorem dX7_setting_14 : decode cX7_setting 14 = .ok (.goto 4, 3) := by decide +kernel
theorem dX7_setting_17 : decode cX7_setting 17 = .ok (.iconst 1, 1) := by decide +kernel
theorem dX7_setting_18 : decode cX7_setting 18 = .ok (.invokevirtual 102, 3) := by decide +kernel
theorem dX7_setting_21 : decode cX7_setting 21 = .ok (.ifCond .eq 5, 3) := by decide +kernel
theorem dX7_setting_24 : decode cX7_setting 24 = .ok (.iconst 0, 1) := by decide +kernel
theorem dX7_setting_25 : decode cX7_setting 25 = .ok (.ireturn, 1) := by decide +kernel
theorem dX7_setting_26 : decode cX7_setting 26 = .ok (.aload_n 0, 1) := by decide +kernel
theorem dX7_setting_27 : decode cX7_setting 27 = .ok (.getfield 13, 3) := by decide +kernel
theorem dX7_setting_30 : decode cX7_setting 30 = .ok (.bipush 77, 2) := by decide +kernel
theorem dX7_setting_32 : decode cX7_setting 32 = .ok (.iload_n 1, 1) := by decide +kernel
theorem dX7_setting_33 : decode cX7_setting 33 = .ok (.iadd, 1) := by decide +kernel
theorem dX7_setting_34 : decode cX7_setting 34 = .ok (.iaload, 1) := by decide +kernel
theorem dX7_setting_35 : decode cX7_setting 35 = .ok (.ireturn, 1) := by decide +kernel
set_option maxRecDepth 20000 in
theorem ggX7_remember_X7_copyState : GoodIn wsX7_remember wsX7_copyState := goodIn_r _ [7] (by decide +kernel) (by decide +kernel)
set_option maxRecDepth 20000 in
theorem gX7_remember_X7_copyState : GoodIn wsX7_remember (va_wsS RX7 159 yX7_copyState wsX7_copyState) := goodIn_app (goodIn_of _ (by decide +kernel)) ggX7_remember_X7_copyState
theorem dX7_remember_0 : decode cX7_remember 0 = .ok (.aload_n 0, 1) := by decide +kernel
theorem dX7_remember_1 : decode cX7_remember 1 = .ok (.getfield 156, 3) := by decide +kernel
theorem dX7_remember_4 : decode cX7_remember 4 = .ok (.bipush 14, 2) := by decide +kernel
theorem dX7_remember_6 : decode cX7_remember 6 = .ok (.if_icmp .ne 44, 3) := by decide +kernel
theorem dX7_remember_9 : decode cX7_remember 9 = .ok (.iconst 0, 1) := by decide +kernel
theorem dX7_remember_10 : decode cX7_remember 10 = .ok (.istore_n 1, 1) := by decide +kernel
theorem dX7_remember_11 : decode cX7_remember 11 = .ok (.iload_n 1, 1) := by decide +kernel
theorem dX7_remember_12 : decode cX7_remember 12 = .ok (.sipush 17459, 3) := by decide +kernel
theorem dX7_remember_15 : decode cX7_remember 15 = .ok (.if_icmp .ge 25, 3) := by decide +kernel
theorem dX7_remember_18 : decode cX7_remember 18 = .ok (.aload_n 0, 1) := by decide +kernel
theorem dX7_remember_19 : decode cX7_remember 19 = .ok (.getfield 19, 3) := by decide +kernel
theorem dX7_remember_22 : decode cX7_remember 22 = .ok (.iload_n 1, 1) := by decide +kernel
theorem dX7_remember_23 : decode cX7_remember 23 = .ok (.aload_n 0, 1) := by decide +kernel
theorem dX7_remember_24 : decode cX7_remember 24 = .ok (.getfield 19, 3) := by decide +kernel
theorem dX7_remember_27 : decode cX7_remember 27 = .ok (.iload_n 1, 1) := by decide +kernel
theorem dX7_remember_28 : decode cX7_remember 28 = .ok (.sipush 1343, 3) := by decide +kernel
theorem dX7_remember_31 : decode cX7_remember 31 = .ok (.iadd, 1) := by decide +kernel
theorem dX7_remember_32 : decode cX7_remember 32 = .ok (.iaload, 1) := by decide +kernel
theorem dX7_remember_33 : decode cX7_remember 33 = .ok (.iastore, 1) := by decide +kernel
theorem dX7_remember_34 : decode cX7_remember 34 = .ok (.iinc 1 1, 3) := by decide +kernel
theorem dX7_remember_37 : decode cX7_remember 37 = .ok (.goto (-26), 3) := by decide +kernel
theorem dX7_remember_40 : decode cX7_remember 40 = .ok (.aload_n 0, 1) := by decide +kernel
theorem dX7_remember_41 : decode cX7_remember 41 = .ok (.dup, 1) := by decide +kernel
theorem dX7_remember_42 : decode cX7_remember 42 = .ok (.getfield 156, 3) := by decide +kernel
theorem dX7_remember_45 : decode cX7_remember 45 = .ok (.iconst 1, 1) := by decide +kernel
theorem dX7_remember_46 : decode cX7_remember 46 = .ok (.isub, 1) := by decide +kernel
theorem dX7_remember_47 : decode cX7_remember 47 = .ok (.putfield 156, 3) := by decide +kernel
theorem dX7_remember_50 : decode cX7_remember 50 = .ok (.aload_n 0, 1) := by decide +kernel
theorem dX7_remember_51 : decode cX7_remember 51 = .ok (.getfield 13, 3) := by decide +kernel
theorem dX7_remember_54 : decode cX7_remember 54 = .ok (.iconst 0, 1) := by decide +kernel
theorem dX7_remember_55 : decode cX7_remember 55 = .ok (.aload_n 0, 1) := by decide +kernel
theorem dX7_remember_56 : decode cX7_remember 56 = .ok (.getfield 19, 3) := by decide +kernel
theorem dX7_remember_59 : decode cX7_remember 59 = .ok (.sipush 1343, 3) := by decide +kernel
theorem dX7_remember_62 : decode cX7_remember 62 = .ok (.aload_n 0, 1) := by decide +kernel
theorem dX7_remember_63 : decode cX7_remember 63 = .ok (.getfield 156, 3) := by decide +kernel
theorem dX7_remember_66 : decode cX7_remember 66 = .ok (.imul, 1) := by decide +kernel
theorem dX7_remember_67 : decode cX7_remember 67 = .ok (.invokestatic 159, 3) := by decide +kernel
theorem dX7_remember_70 : decode cX7_remember 70 = .ok (.aload_n 0, 1) := by decide +kernel
theorem dX7_remember_71 : decode cX7_remember 71 = .ok (.dup, 1) := by decide +kernel
theorem dX7_remember_72 : decode cX7_remember 72 = .ok (.getfield 156, 3) := by decide +kernel
theorem dX7_remember_75 : decode cX7_remember 75 = .ok (.iconst 1, 1) := by decide +kernel
theorem dX7_remember_76 : decode cX7_remember 76 = .ok (.iadd, 1) := by decide +kernel
theorem dX7_remember_77 : decode cX7_remember 77 = .ok (.putfield 156, 3) := by decide +kernel
theorem dX7_remember_80 : decode cX7_remember 80 = .ok (.return_, 1) := by decide +kernel
set_option maxRecDepth 20000 in
theorem ggX7_isPoint_X7_in : GoodIn wsX7_isPoint wsX7_in := goodIn_r _ [5] (by decide +kernel) (by decide +kernel)
set_option maxRecDepth 20000 in
theorem gX7_isPoint_X7_in : GoodIn wsX7_isPoint (va_wsS RX7 45 yX7_in wsX7_in) := goodIn_app (goodIn_of _ (by decide +kernel)) ggX7_isPoint_X7_in
theorem dX7_isPoint_0 : decode cX7_isPoint 0 = .ok (.iload_n 0, 1) := by decide +kernel
theorem dX7_isPoint_1 : decode cX7_isPoint 1 = .ok (.i2l, 1) := by decide +kernel
theorem dX7_isPoint_2 : decode cX7_isPoint 2 = .ok (.lconst 0, 1) := by decide +kernel
theorem dX7_isPoint_3 : decode cX7_isPoint 3 = .ok (.ldc2_w 163, 3) := by decide +kernel
theorem dX7_isPoint_6 : decode cX7_isPoint 6 = .ok (.invokestatic 45, 3) := by decide +kernel
theorem dX7_isPoint_9 : decode cX7_isPoint 9 = .ok (.ifCond .eq 19, 3) := by decide +kernel
theorem dX7_isPoint_12 : decode cX7_isPoint 12 = .ok (.iload_n 1, 1) := by decide +kernel
theorem dX7_isPoint_13 : decode cX7_isPoint 13 = .ok (.i2l, 1) := by decide +kernel
theorem dX7_isPoint_14 : decode cX7_isPoint 14 = .ok (.lconst 0, 1) := by decide +kernel
theorem dX7_isPoint_15 : decode cX7_isPoint 15 = .ok (.ldc2_w 163, 3) := by decide +kernel
theorem dX7_isPoint_18 : decode cX7_isPoint 18 = .ok (.invokestatic 45, 3) := by decide +kernel
theorem dX7_isPoint_21 : decode cX7_isPoint 21 = .ok (.ifCond .eq 7, 3) := by decide +kernel
theorem dX7_isPoint_24 : decode cX7_isPoint 24 = .ok (.iconst 1, 1) := by decide +kernel
theorem dX7_isPoint_25 : decode cX7_isPoint 25 = .ok (.goto 4, 3) := by decide +kernel
theorem dX7_isPoint_28 : decode cX7_isPoint 28 = .ok (.iconst 0, 1) := by decide +kernel
theorem dX7_isPoint_29 : decode cX7_isPoint 29 = .ok (.ireturn, 1) := by decide +kernel
set_option maxRecDepth 20000 in
theorem ggX7_layPoint_X7_signature : GoodIn wsX7_layPoint wsX7_signature := goodIn_r _ [5, 6, 7, 4, 8, 9, 10, 11, 12, 13, 14, 15, 16, 17] (by decide +kernel) (by decide +kernel)
set_option maxRecDepth 20000 in
theorem gX7_layPoint_X7_signature : GoodIn wsX7_layPoint (va_wsS RX7 75 yX7_signature wsX7_signature) := goodIn_app (goodIn_of _ (by decide +kernel)) ggX7_layPoint_X7_signature
theorem dX7_layPoint_0 : decode cX7_layPoint 0 = .ok (.aload_n 1, 1) := by decide +kernel
theorem dX7_layPoint_1 : decode cX7_layPoint 1 = .ok (.bipush 76, 2) := by decide +kernel
theorem dX7_layPoint_3 : decode cX7_layPoint 3 = .ok (.iaload, 1) := by decide +kernel
theorem dX7_layPoint_4 : decode cX7_layPoint 4 = .ok (.ifCond .ne 7, 3) := by decide +kernel
theorem dX7_layPoint_7 : decode cX7_layPoint 7 = .ok (.iconst 1, 1) := by decide +kernel
theorem dX7_layPoint_8 : decode cX7_layPoint 8 = .ok (.goto 4, 3) := by decide +kernel
theorem dX7_layPoint_11 : decode cX7_layPoint 11 = .ok (.iconst 0, 1) := by decide +kernel
theorem dX7_layPoint_12 : decode cX7_layPoint 12 = .ok (.istore 4, 2) := by decide +kernel
theorem dX7_layPoint_14 : decode cX7_layPoint 14 = .ok (.iload 4, 2) := by decide +kernel
theorem dX7_layPoint_16 : decode cX7_layPoint 16 = .ok (.ifCond .eq 13, 3) := by decide +kernel
theorem dX7_layPoint_19 : decode cX7_layPoint 19 = .ok (.aload_n 1, 1) := by decide +kernel
theorem dX7_layPoint_20 : decode cX7_layPoint 20 = .ok (.iconst 0, 1) := by decide +kernel
theorem dX7_layPoint_21 : decode cX7_layPoint 21 = .ok (.iaload, 1) := by decide +kernel
theorem dX7_layPoint_22 : decode cX7_layPoint 22 = .ok (.iconst 3, 1) := by decide +kernel
theorem dX7_layPoint_23 : decode cX7_layPoint 23 = .ok (.if_icmp .ne 22, 3) := by decide +kernel
theorem dX7_layPoint_26 : decode cX7_layPoint 26 = .ok (.goto 17, 3) := by decide +kernel
theorem dX7_layPoint_29 : decode cX7_layPoint 29 = .ok (.aload_n 1, 1) := by decide +kernel
theorem dX7_layPoint_30 : decode cX7_layPoint 30 = .ok (.iconst 1, 1) := by decide +kernel
theorem dX7_layPoint_31 : decode cX7_layPoint 31 = .ok (.aload_n 1, 1) := by decide +kernel
theorem dX7_layPoint_32 : decode cX7_layPoint 32 = .ok (.iconst 0, 1) := by decide +kernel
theorem dX7_layPoint_33 : decode cX7_layPoint 33 = .ok (.iaload, 1) := by decide +kernel
theorem dX7_layPoint_34 : decode cX7_layPoint 34 = .ok (.iadd, 1) := by decide +kernel
theorem dX7_layPoint_35 : decode cX7_layPoint 35 = .ok (.iconst 1, 1) := by decide +kernel
theorem dX7_layPoint_36 : decode cX7_layPoint 36 = .ok (.isub, 1) := by decide +kernel
theorem dX7_layPoint_37 : decode cX7_layPoint 37 = .ok (.iaload, 1) := by decide +kernel
theorem dX7_layPoint_38 : decode cX7_layPoint 38 = .ok (.bipush 12, 2) := by decide +kernel
theorem dX7_layPoint_40 : decode cX7_layPoint 40 = .ok (.if_icmp .ne 5, 3) := by decide +kernel
theorem dX7_layPoint_43 : decode cX7_layPoint 43 = .ok (.iconst 0, 1) := by decide +kernel
theorem dX7_layPoint_44 : decode cX7_layPoint 44 = .ok (.ireturn, 1) := by decide +kernel
theorem dX7_layPoint_45 : decode cX7_layPoint 45 = .ok (.aload_n 1, 1) := by decide +kernel
theorem dX7_layPoint_46 : decode cX7_layPoint 46 = .ok (.iconst 0, 1) := by decide +kernel
theorem dX7_layPoint_47 : decode cX7_layPoint 47 = .ok (.dup2, 1) := by decide +kernel
theorem dX7_layPoint_48 : decode cX7_layPoint 48 = .ok (.iaload, 1) := by decide +kernel
theorem dX7_layPoint_49 : decode cX7_layPoint 49 = .ok (.iload 4, 2) := by decide +kernel
theorem dX7_layPoint_51 : decode cX7_layPoint 51 = .ok (.ifCond .eq 7, 3) := by decide +kernel
theorem dX7_layPoint_54 : decode cX7_layPoint 54 = .ok (.iconst 1, 1) := by decide +kernel
theorem dX7_layPoint_55 : decode cX7_layPoint 55 = .ok (.goto 4, 3) := by decide +kernel
theorem dX7_layPoint_58 : decode cX7_layPoint 58 = .ok (.iconst 0, 1) := by decide +kernel
theorem dX7_layPoint_59 : decode cX7_layPoint 59 = .ok (.iadd, 1) := by decide +kernel
theorem dX7_layPoint_60 : decode cX7_layPoint 60 = .ok (.iastore, 1) := by decide +kernel
theorem dX7_layPoint_61 : decode cX7_layPoint 61 = .ok (.aload_n 1, 1) := by decide +kernel
theorem dX7_layPoint_62 : decode cX7_layPoint 62 = .ok (.iconst 0, 1) := by decide +kernel
theorem dX7_layPoint_63 : decode cX7_layPoint 63 = .ok (.iaload, 1) := by decide +kernel
theorem dX7_layPoint_64 : decode cX7_layPoint 64 = .ok (.iconst 1, 1) := by decide +kernel
theorem dX7_layPoint_65 : decode cX7_layPoint 65 = .ok (.isub, 1) := by decide +kernel
theorem dX7_layPoint_66 : decode cX7_layPoint 66 = .ok (.istore 5, 2) := by decide +kernel
theorem dX7_layPoint_68 : decode cX7_layPoint 68 = .ok (.iconst 4, 1) := by decide +kernel
theorem dX7_layPoint_69 : decode cX7_layPoint 69 = .ok (.bipush 24, 2) := by decide +kernel
theorem dX7_layPoint_71 : decode cX7_layPoint 71 = .ok (.iload 5, 2) := by decide +kernel
theorem dX7_layPoint_73 : decode cX7_layPoint 73 = .ok (.imul, 1) := by decide +kernel
theorem dX7_layPoint_74 : decode cX7_layPoint 74 = .ok (.iadd, 1) := by decide +kernel
theorem dX7_layPoint_75 : decode cX7_layPoint 75 = .ok (.iconst 2, 1) := by decide +kernel
theorem dX7_layPoint_76 : decode cX7_layPoint 76 = .ok (.aload_n 1, 1) := by decide +kernel
theorem dX7_layPoint_77 : decode cX7_layPoint 77 = .ok (.iconst 1, 1) := by decide +kernel
theorem dX7_layPoint_78 : decode cX7_layPoint 78 = .ok (.iload 5, 2) := by decide +kernel
theorem dX7_layPoint_80 : decode cX7_layPoint 80 = .ok (.iadd, 1) := by decide +kernel
theorem dX7_layPoint_81 : decode cX7_layPoint 81 = .ok (.iaload, 1) := by decide +kernel
theorem dX7_layPoint_82 : decode cX7_layPoint 82 = .ok (.imul, 1) := by decide +kernel
theorem dX7_layPoint_83 : decode cX7_layPoint 83 = .ok (.iadd, 1) := by decide +kernel
theorem dX7_layPoint_84 : decode cX7_layPoint 84 = .ok (.istore 6, 2) := by decide +kernel
theorem dX7_layPoint_86 : decode cX7_layPoint 86 = .ok (.aload_n 1, 1) := by decide +kernel
theorem dX7_layPoint_87 : decode cX7_layPoint 87 = .ok (.iload 6, 2) := by decide +kernel
theorem dX7_layPoint_89 : decode cX7_layPoint 89 = .ok (.iload_n 2, 1) := by decide +kernel
theorem dX7_layPoint_90 : decode cX7_layPoint 90 = .ok (.iastore, 1) := by decide +kernel
theorem dX7_layPoint_91 : decode cX7_layPoint 91 = .ok (.aload_n 1, 1) := by decide +kernel
theorem dX7_layPoint_92 : decode cX7_layPoint 92 = .ok (.iload 6, 2) := by decide +kernel
theorem dX7_layPoint_94 : decode cX7_layPoint 94 = .ok (.iconst 1, 1) := by decide +kernel
theorem dX7_layPoint_95 : decode cX7_layPoint 95 = .ok (.iadd, 1) := by decide +kernel
theorem dX7_layPoint_96 : decode cX7_layPoint 96 = .ok (.iload_n 3, 1) := by decide +kernel
theorem dX7_layPoint_97 : decode cX7_layPoint 97 = .ok (.iastore, 1) := by decide +kernel
theorem dX7_layPoint_98 : decode cX7_layPoint 98 = .ok (.aload_n 1, 1) := by decide +kernel
theorem dX7_layPoint_99 : decode cX7_layPoint 99 = .ok (.iconst 1, 1) := by decide +kernel
theorem dX7_layPoint_100 : decode cX7_layPoint 100 = .ok (.iload 5, 2) := by decide +kernel
theorem dX7_layPoint_102 : decode cX7_layPoint 102 = .ok (.iadd, 1) := by decide +kernel
theorem dX7_layPoint_103 : decode cX7_layPoint 103 = .ok (.dup2, 1) := by decide +kernel
theorem dX7_layPoint_104 : decode cX7_layPoint 104 = .ok (.iaload, 1) := by decide +kernel
theorem dX7_layPoint_105 : decode cX7_layPoint 105 = .ok (.iconst 1, 1) := by decide +kernel
theorem dX7_layPoint_106 : decode cX7_layPoint 106 = .ok (.iadd, 1) := by decide +kernel
theorem dX7_layPoint_107 : decode cX7_layPoint 107 = .ok (.iastore, 1) := by decide +kernel
theorem dX7_layPoint_108 : decode cX7_layPoint 108 = .ok (.aload_n 1, 1) := by decide +kernel
theorem dX7_layPoint_109 : decode cX7_layPoint 109 = .ok (.bipush 76, 2) := by decide +kernel
theorem dX7_layPoint_111 : decode cX7_layPoint 111 = .ok (.iconst 1, 1) := by decide +kernel
theorem dX7_layPoint_112 : decode cX7_layPoint 112 = .ok (.iastore, 1) := by decide +kernel
theorem dX7_layPoint_113 : decode cX7_layPoint 113 = .ok (.aload_n 1, 1) := by decide +kernel
theorem dX7_layPoint_114 : decode cX7_layPoint 114 = .ok (.iconst 0, 1) := by decide +kernel
theorem dX7_layPoint_115 : decode cX7_layPoint 115 = .ok (.aload_n 1, 1) := by decide +kernel
theorem dX7_layPoint_116 : decode cX7_layPoint 116 = .ok (.bipush 77, 2) := by decide +kernel
theorem dX7_layPoint_118 : decode cX7_layPoint 118 = .ok (.iaload, 1) := by decide +kernel
theorem dX7_layPoint_119 : decode cX7_layPoint 119 = .ok (.aload_n 0, 1) := by decide +kernel
theorem dX7_layPoint_120 : decode cX7_layPoint 120 = .ok (.getfield 32, 3) := by decide +kernel
theorem dX7_layPoint_123 : decode cX7_layPoint 123 = .ok (.invokestatic 75, 3) := by decide +kernel
theorem dX7_layPoint_126 : decode cX7_layPoint 126 = .ok (.bipush 40, 2) := by decide +kernel
theorem dX7_layPoint_128 : decode cX7_layPoint 128 = .ok (.if_icmp .gt 5, 3) := by decide +kernel
theorem dX7_layPoint_131 : decode cX7_layPoint 131 = .ok (.iconst 1, 1) := by decide +kernel
theorem dX7_layPoint_132 : decode cX7_layPoint 132 = .ok (.ireturn, 1) := by decide +kernel
theorem dX7_layPoint_133 : decode cX7_layPoint 133 = .ok (.aload_n 1, 1) := by decide +kernel
theorem dX7_layPoint_134 : decode cX7_layPoint 134 = .ok (.iconst 1, 1) := by decide +kernel
theorem dX7_layPoint_135 : decode cX7_layPoint 135 = .ok (.iload 5, 2) := by decide +kernel
theorem dX7_layPoint_137 : decode cX7_layPoint 137 = .ok (.iadd, 1) := by decide +kernel
theorem dX7_layPoint_138 : decode cX7_layPoint 138 = .ok (.dup2, 1) := by decide +kernel
theorem dX7_layPoint_139 : decode cX7_layPoint 139 = .ok (.iaload, 1) := by decide +kernel
theorem dX7_layPoint_140 : decode cX7_layPoint 140 = .ok (.iconst 1, 1) := by decide +kernel
theorem dX7_layPoint_141 : decode cX7_layPoint 141 = .ok (.isub, 1) := by decide +kernel
theorem dX7_layPoint_142 : decode cX7_layPoint 142 = .ok (.iastore, 1) := by decide +kernel
theorem dX7_layPoint_143 : decode cX7_layPoint 143 = .ok (.aload_n 1, 1) := by decide +kernel
theorem dX7_layPoint_144 : decode cX7_layPoint 144 = .ok (.iload 6, 2) := by decide +kernel
theorem dX7_layPoint_146 : decode cX7_layPoint 146 = .ok (.iconst 0, 1) := by decide +kernel
theorem dX7_layPoint_147 : decode cX7_layPoint 147 = .ok (.iastore, 1) := by decide +kernel
theorem dX7_layPoint_148 : decode cX7_layPoint 148 = .ok (.aload_n 1, 1) := by decide +kernel
theorem dX7_layPoint_149 : decode cX7_layPoint 149 = .ok (.iload 6, 2) := by decide +kernel
theorem dX7_layPoint_151 : decode cX7_layPoint 151 = .ok (.iconst 1, 1) := by decide +kernel
theorem dX7_layPoint_152 : decode cX7_layPoint 152 = .ok (.iadd, 1) := by decide +kernel
theorem dX7_layPoint_153 : decode cX7_layPoint 153 = .ok (.iconst 0, 1) := by decide +kernel
theorem dX7_layPoint_154 : decode cX7_layPoint 154 = .ok (.iastore, 1) := by decide +kernel
theorem dX7_layPoint_155 : decode cX7_layPoint 155 = .ok (.aload_n 1, 1) := by decide +kernel
theorem dX7_layPoint_156 : decode cX7_layPoint 156 = .ok (.iconst 0, 1) := by decide +kernel
theorem dX7_layPoint_157 : decode cX7_layPoint 157 = .ok (.dup2, 1) := by decide +kernel
theorem dX7_layPoint_158 : decode cX7_layPoint 158 = .ok (.iaload, 1) := by decide +kernel
theorem dX7_layPoint_159 : decode cX7_layPoint 159 = .ok (.iload 4, 2) := by decide +kernel
theorem dX7_layPoint_161 : decode cX7_layPoint 161 = .ok (.ifCond .eq 7, 3) := by decide +kernel
theorem dX7_layPoint_164 : decode cX7_layPoint 164 = .ok (.iconst 1, 1) := by decide +kernel
theorem dX7_layPoint_165 : decode cX7_layPoint 165 = .ok (.goto 4, 3) := by decide +kernel
theorem dX7_layPoint_168 : decode cX7_layPoint 168 = .ok (.iconst 0, 1) := by decide +kernel
theorem dX7_layPoint_169 : decode cX7_layPoint 169 = .ok (.isub, 1) := by decide +kernel
theorem dX7_layPoint_170 : decode cX7_layPoint 170 = .ok (.iastore, 1) := by decide +kernel
theorem dX7_layPoint_171 : decode cX7_layPoint 171 = .ok (.aload_n 1, 1) := by decide +kernel
theorem dX7_layPoint_172 : decode cX7_layPoint 172 = .ok (.bipush 76, 2) := by decide +kernel
theorem dX7_layPoint_174 : decode cX7_layPoint 174 = .ok (.iload 4, 2) := by decide +kernel
theorem dX7_layPoint_176 : decode cX7_layPoint 176 = .ok (.ifCond .eq 7, 3) := by decide +kernel
theorem dX7_layPoint_179 : decode cX7_layPoint 179 = .ok (.iconst 0, 1) := by decide +kernel
theorem dX7_layPoint_180 : decode cX7_layPoint 180 = .ok (.goto 4, 3) := by decide +kernel
theorem dX7_layPoint_183 : decode cX7_layPoint 183 = .ok (.iconst 1, 1) := by decide +kernel
theorem dX7_layPoint_184 : decode cX7_layPoint 184 = .ok (.iastore, 1) := by decide +kernel
theorem dX7_layPoint_185 : decode cX7_layPoint 185 = .ok (.iconst 0, 1) := by decide +kernel
theorem dX7_layPoint_186 : decode cX7_layPoint 186 = .ok (.ireturn, 1) := by decide +kernel
set_option maxRecDepth 20000 in
theorem ggX7_point_X7_isPoint : GoodIn wsX7_point wsX7_isPoint := goodIn_r _ [7, 8, 9, 10, 6, 11] (by decide +kernel) (by decide +kernel)
set_option maxRecDepth 20000 in
theorem gX7_point_X7_isPoint : GoodIn wsX7_point (va_wsS RX7 165 yX7_isPoint wsX7_isPoint) := goodIn_app (goodIn_of _ (by decide +kernel)) ggX7_point_X7_isPoint
set_option maxRecDepth 20000 in
theorem ggX7_point_X7_refused : GoodIn wsX7_point wsX7_refused := goodIn_r _ [15, 16, 45, 46, 47, 48, 49, 50, 51, 52, 53, 54, 55, 56, 57, 58, 59, 60, 61, 62, 63] (by decide +kernel) (by decide +kernel)
set_option maxRecDepth 20000 in
theorem gX7_point_X7_refused : GoodIn wsX7_point (wsV RX7 102 RX7 yX7_refused wsX7_refused) := goodIn_app (goodIn_of _ (by decide +kernel)) ggX7_point_X7_refused
set_option maxRecDepth 20000 in
theorem ggX7_point_X7_copyState : GoodIn wsX7_point wsX7_copyState := goodIn_r _ [19] (by decide +kernel) (by decide +kernel)
set_option maxRecDepth 20000 in
theorem gX7_point_X7_copyState : GoodIn wsX7_point (va_wsS RX7 159 yX7_copyState wsX7_copyState) := goodIn_app (goodIn_of _ (by decide +kernel)) ggX7_point_X7_copyState
set_option maxRecDepth 20000 in
theorem ggX7_point_X7_layPoint_p0 : GoodIn wsX7_point [.code yX7_layPoint cX7_layPoint 7 (some .boolean)] := goodIn_r _ [23] (by decide +kernel) (by decide +kernel)
theorem ggX7_point_X7_layPoint_p1 : GoodIn wsX7_point [.fieldLink RX7 32 "RuledStrokesModel" "one" "[I", .methodLink RX7 75 yX7_signature, .static yX7_signature, .initialized RX7, .code yX7_signature cX7_signature 8 (some .int), .methodLink RX7 57 yX7_next, .static yX7_next, .code yX7_next cX7_next 3 (some .int), .methodLink RX7 61 yX7_cross, .static yX7_cross, .code yX7_cross cX7_cross 13 (some .int), .methodLink RX7 49 yX7_size, .static yX7_size, .code yX7_size cX7_size 1 (some .int), .methodLink RX7 53 yX7_ahead, .static yX7_ahead, .code yX7_ahead cX7_ahead 4 (some .int)] := goodIn_r _ [3, 24, 25, 6, 26, 27, 28, 29, 30, 31, 32, 33, 34, 35, 36, 37, 38] (by decide +kernel) (by decide +kernel)
theorem ggX7_point_X7_layPoint_p2 : GoodIn wsX7_point wsX70 := goodIn_r _ [45, 46, 47, 48, 49, 50, 51, 52, 53, 54, 55, 56, 57, 58, 59, 60, 61, 62, 63] (by decide +kernel) (by decide +kernel)
theorem ggX7_point_X7_layPoint : GoodIn wsX7_point wsX7_layPoint := (goodIn_c2 ggX7_point_X7_layPoint_p0 (goodIn_app ggX7_point_X7_layPoint_p1 ggX7_point_X7_layPoint_p2))
set_option maxRecDepth 20000 in
theorem gX7_point_X7_layPoint : GoodIn wsX7_point (wsV RX7 169 RX7 yX7_layPoint wsX7_layPoint) := goodIn_app (goodIn_of _ (by decide +kernel)) ggX7_point_X7_layPoint
set_option maxRecDepth 20000 in
theorem ggX7_point_X7_remember : GoodIn wsX7_point wsX7_remember := goodIn_r _ [42, 43, 44, 1, 17, 18, 6, 19, 45, 46, 47, 48, 49, 50, 51, 52, 53, 54, 55, 56, 57, 58, 59, 60, 61, 62, 63] (by decide +kernel) (by decide +kernel)
set_option maxRecDepth 20000 in
theorem gX7_point_X7_remember : GoodIn wsX7_point (wsV RX7 173 RX7 yX7_remember wsX7_remember) := goodIn_app (goodIn_of _ (by decide +kernel)) ggX7_point_X7_remember
set_option maxRecDepth 20000 in
theorem ggX7_point_X7_signature : GoodIn wsX7_point wsX7_signature := goodIn_r _ [26, 27, 28, 6, 29, 30, 31, 32, 33, 34, 35, 36, 37, 38] (by decide +kernel) (by decide +kernel)
set_option maxRecDepth 20000 in
theorem gX7_point_X7_signature : GoodIn wsX7_point (va_wsS RX7 75 yX7_signature wsX7_signature) := goodIn_app (goodIn_of _ (by decide +kernel)) ggX7_point_X7_signature
theorem dX7_point_0 : decode cX7_point 0 = .ok (.aload_n 0, 1) := by decide +kernel
theorem dX7_point_1 : decode cX7_point 1 = .ok (.iload_n 1, 1) := by decide +kernel
theorem dX7_point_2 : decode cX7_point 2 = .ok (.iload_n 2, 1) := by decide +kernel
theorem dX7_point_3 : decode cX7_point 3 = .ok (.invokestatic 165, 3) := by decide +kernel
theorem dX7_point_6 : decode cX7_point 6 = .ok (.ifCond .eq 7, 3) := by decide +kernel
theorem dX7_point_9 : decode cX7_point 9 = .ok (.iconst 0, 1) := by decide +kernel
theorem dX7_point_10 : decode cX7_point 10 = .ok (.goto 4, 3) := by decide +kernel
theorem dX7_point_13 : decode cX7_point 13 = .ok (.iconst 1, 1) := by decide +kernel
theorem dX7_point_14 : decode cX7_point 14 = .ok (.invokevirtual 102, 3) := by decide +kernel
theorem dX7_point_17 : decode cX7_point 17 = .ok (.ifCond .eq 5, 3) := by decide +kernel
theorem dX7_point_20 : decode cX7_point 20 = .ok (.iconst 0, 1) := by decide +kernel
theorem dX7_point_21 : decode cX7_point 21 = .ok (.ireturn, 1) := by decide +kernel
theorem dX7_point_22 : decode cX7_point 22 = .ok (.aload_n 0, 1) := by decide +kernel
theorem dX7_point_23 : decode cX7_point 23 = .ok (.getfield 13, 3) := by decide +kernel
theorem dX7_point_26 : decode cX7_point 26 = .ok (.iconst 0, 1) := by decide +kernel
theorem dX7_point_27 : decode cX7_point 27 = .ok (.aload_n 0, 1) := by decide +kernel
theorem dX7_point_28 : decode cX7_point 28 = .ok (.getfield 16, 3) := by decide +kernel
theorem dX7_point_31 : decode cX7_point 31 = .ok (.iconst 0, 1) := by decide +kernel
theorem dX7_point_32 : decode cX7_point 32 = .ok (.invokestatic 159, 3) := by decide +kernel
theorem dX7_point_35 : decode cX7_point 35 = .ok (.aload_n 0, 1) := by decide +kernel
theorem dX7_point_36 : decode cX7_point 36 = .ok (.aload_n 0, 1) := by decide +kernel
theorem dX7_point_37 : decode cX7_point 37 = .ok (.aload_n 0, 1) := by decide +kernel
theorem dX7_point_38 : decode cX7_point 38 = .ok (.getfield 16, 3) := by decide +kernel
theorem dX7_point_41 : decode cX7_point 41 = .ok (.iload_n 1, 1) := by decide +kernel
theorem dX7_point_42 : decode cX7_point 42 = .ok (.iload_n 2, 1) := by decide +kernel
theorem dX7_point_43 : decode cX7_point 43 = .ok (.invokevirtual 169, 3) := by decide +kernel
theorem dX7_point_46 : decode cX7_point 46 = .ok (.ifCond .eq 7, 3) := by decide +kernel
theorem dX7_point_49 : decode cX7_point 49 = .ok (.iconst 0, 1) := by decide +kernel
theorem dX7_point_50 : decode cX7_point 50 = .ok (.goto 4, 3) := by decide +kernel
theorem dX7_point_53 : decode cX7_point 53 = .ok (.iconst 2, 1) := by decide +kernel
theorem dX7_point_54 : decode cX7_point 54 = .ok (.invokevirtual 102, 3) := by decide +kernel
theorem dX7_point_57 : decode cX7_point 57 = .ok (.ifCond .eq 5, 3) := by decide +kernel
theorem dX7_point_60 : decode cX7_point 60 = .ok (.iconst 0, 1) := by decide +kernel
theorem dX7_point_61 : decode cX7_point 61 = .ok (.ireturn, 1) := by decide +kernel
theorem dX7_point_62 : decode cX7_point 62 = .ok (.aload_n 0, 1) := by decide +kernel
theorem dX7_point_63 : decode cX7_point 63 = .ok (.invokevirtual 173, 3) := by decide +kernel
theorem dX7_point_66 : decode cX7_point 66 = .ok (.aload_n 0, 1) := by decide +kernel
theorem dX7_point_67 : decode cX7_point 67 = .ok (.getfield 16, 3) := by decide +kernel
theorem dX7_point_70 : decode cX7_point 70 = .ok (.iconst 0, 1) := by decide +kernel
theorem dX7_point_71 : decode cX7_point 71 = .ok (.aload_n 0, 1) := by decide +kernel
theorem dX7_point_72 : decode cX7_point 72 = .ok (.getfield 13, 3) := by decide +kernel
theorem dX7_point_75 : decode cX7_point 75 = .ok (.iconst 0, 1) := by decide +kernel
theorem dX7_point_76 : decode cX7_point 76 = .ok (.invokestatic 159, 3) := by decide +kernel
theorem dX7_point_79 : decode cX7_point 79 = .ok (.aload_n 0, 1) := by decide +kernel
theorem dX7_point_80 : decode cX7_point 80 = .ok (.getfield 13, 3) := by decide +kernel
theorem dX7_point_83 : decode cX7_point 83 = .ok (.iconst 0, 1) := by decide +kernel
theorem dX7_point_84 : decode cX7_point 84 = .ok (.aload_n 0, 1) := by decide +kernel
theorem dX7_point_85 : decode cX7_point 85 = .ok (.getfield 13, 3) := by decide +kernel
theorem dX7_point_88 : decode cX7_point 88 = .ok (.bipush 77, 2) := by decide +kernel
theorem dX7_point_90 : decode cX7_point 90 = .ok (.iaload, 1) := by decide +kernel
theorem dX7_point_91 : decode cX7_point 91 = .ok (.aload_n 0, 1) := by decide +kernel
theorem dX7_point_92 : decode cX7_point 92 = .ok (.getfield 32, 3) := by decide +kernel
theorem dX7_point_95 : decode cX7_point 95 = .ok (.invokestatic 75, 3) := by decide +kernel
theorem dX7_point_98 : decode cX7_point 98 = .ok (.ireturn, 1) := by decide +kernel
set_option maxRecDepth 20000 in
theorem ggX7_lift_X7_remember : GoodIn wsX7_lift wsX7_remember := goodIn_r _ [7, 8, 9, 2, 10, 11, 6, 12, 13, 14, 15, 16, 17, 18, 19, 20, 21, 22, 23, 24, 25, 26, 27, 28, 29, 30, 31] (by decide +kernel) (by decide +kernel)
set_option maxRecDepth 20000 in
theorem gX7_lift_X7_remember : GoodIn wsX7_lift (wsV RX7 173 RX7 yX7_remember wsX7_remember) := goodIn_app (goodIn_of _ (by decide +kernel)) ggX7_lift_X7_remember
theorem dX7_lift_0 : decode cX7_lift 0 = .ok (.aload_n 0, 1) := by decide +kernel
theorem dX7_lift_1 : decode cX7_lift 1 = .ok (.iconst 0, 1) := by decide +kernel
theorem dX7_lift_2 : decode cX7_lift 2 = .ok (.putfield 41, 3) := by decide +kernel
theorem dX7_lift_5 : decode cX7_lift 5 = .ok (.aload_n 0, 1) := by decide +kernel
theorem dX7_lift_6 : decode cX7_lift 6 = .ok (.invokevirtual 173, 3) := by decide +kernel
theorem dX7_lift_9 : decode cX7_lift 9 = .ok (.aload_n 0, 1) := by decide +kernel
theorem dX7_lift_10 : decode cX7_lift 10 = .ok (.getfield 13, 3) := by decide +kernel
theorem dX7_lift_13 : decode cX7_lift 13 = .ok (.bipush 76, 2) := by decide +kernel
theorem dX7_lift_15 : decode cX7_lift 15 = .ok (.iconst 0, 1) := by decide +kernel
theorem dX7_lift_16 : decode cX7_lift 16 = .ok (.iastore, 1) := by decide +kernel
theorem dX7_lift_17 : decode cX7_lift 17 = .ok (.aload_n 0, 1) := by decide +kernel
theorem dX7_lift_18 : decode cX7_lift 18 = .ok (.getfield 13, 3) := by decide +kernel
theorem dX7_lift_21 : decode cX7_lift 21 = .ok (.iconst 0, 1) := by decide +kernel
theorem dX7_lift_22 : decode cX7_lift 22 = .ok (.iaload, 1) := by decide +kernel
theorem dX7_lift_23 : decode cX7_lift 23 = .ok (.ireturn, 1) := by decide +kernel
set_option maxRecDepth 20000 in
theorem ggX7_draw_X7_readText_p0 : GoodIn wsX7_draw [.code yX7_readText cX7_readText 4 (some .int)] := goodIn_r _ [8] (by decide +kernel) (by decide +kernel)
theorem ggX7_draw_X7_readText_p1 : GoodIn wsX7_draw wsX7_readText_r1 := goodIn_r _ [1, 9, 10, 11, 12, 7, 13, 14, 15, 16, 17, 18, 19, 20, 21, 22, 23, 24, 25, 26, 27, 28, 29, 30] (by decide +kernel) (by decide +kernel)
theorem ggX7_draw_X7_readText_p2 : GoodIn wsX7_draw wsX7_readText_r2 := goodIn_r _ [31] (by decide +kernel) (by decide +kernel)
theorem ggX7_draw_X7_readText_p3 : GoodIn wsX7_draw wsX70 := goodIn_r _ [61, 62, 63, 64, 65, 66, 67, 68, 69, 70, 71, 72, 73, 74, 75, 76, 77, 78, 79] (by decide +kernel) (by decide +kernel)
theorem ggX7_draw_X7_readText : GoodIn wsX7_draw wsX7_readText := (goodIn_c2 ggX7_draw_X7_readText_p0 (goodIn_app (goodIn_app ggX7_draw_X7_readText_p1 ggX7_draw_X7_readText_p2) ggX7_draw_X7_readText_p3))
set_option maxRecDepth 20000 in
theorem gX7_draw_X7_readText : GoodIn wsX7_draw (wsV RX7 128 RX7 yX7_readText wsX7_readText) := goodIn_app (goodIn_of _ (by decide +kernel)) ggX7_draw_X7_readText
set_option maxRecDepth 20000 in
theorem ggX7_draw_X7_signature : GoodIn wsX7_draw wsX7_signature := goodIn_r _ [34, 35, 36, 7, 37, 38, 39, 40, 41, 42, 43, 44, 45, 46] (by decide +kernel) (by decide +kernel)
set_option maxRecDepth 20000 in
theorem gX7_draw_X7_signature : GoodIn wsX7_draw (va_wsS RX7 75 yX7_signature wsX7_signature) := goodIn_app (goodIn_of _ (by decide +kernel)) ggX7_draw_X7_signature
set_option maxRecDepth 20000 in
theorem ggX7_draw_X7_refused : GoodIn wsX7_draw wsX7_refused := goodIn_r _ [50, 51, 61, 62, 63, 64, 65, 66, 67, 68, 69, 70, 71, 72, 73, 74, 75, 76, 77, 78, 79] (by decide +kernel) (by decide +kernel)
set_option maxRecDepth 20000 in
theorem gX7_draw_X7_refused : GoodIn wsX7_draw (wsV RX7 102 RX7 yX7_refused wsX7_refused) := goodIn_app (goodIn_of _ (by decide +kernel)) ggX7_draw_X7_refused
set_option maxRecDepth 20000 in
theorem ggX7_draw_X7_remember : GoodIn wsX7_draw wsX7_remember := goodIn_r _ [55, 56, 57, 2, 58, 59, 7, 60, 61, 62, 63, 64, 65, 66, 67, 68, 69, 70, 71, 72, 73, 74, 75, 76, 77, 78, 79] (by decide +kernel) (by decide +kernel)
set_option maxRecDepth 20000 in
theorem gX7_draw_X7_remember : GoodIn wsX7_draw (wsV RX7 173 RX7 yX7_remember wsX7_remember) := goodIn_app (goodIn_of _ (by decide +kernel)) ggX7_draw_X7_remember
theorem dX7_draw_0 : decode cX7_draw 0 = .ok (.aload_n 0, 1) := by decide +kernel
theorem dX7_draw_1 : decode cX7_draw 1 = .ok (.aload_n 0, 1) := by decide +kernel
theorem dX7_draw_2 : decode cX7_draw 2 = .ok (.invokevirtual 128, 3) := by decide +kernel
theorem dX7_draw_5 : decode cX7_draw 5 = .ok (.iconst (-1), 1) := by decide +kernel
theorem dX7_draw_6 : decode cX7_draw 6 = .ok (.if_icmp .ne 31, 3) := by decide +kernel
theorem dX7_draw_9 : decode cX7_draw 9 = .ok (.aload_n 0, 1) := by decide +kernel
theorem dX7_draw_10 : decode cX7_draw 10 = .ok (.getfield 29, 3) := by decide +kernel
theorem dX7_draw_13 : decode cX7_draw 13 = .ok (.iconst 0, 1) := by decide +kernel
theorem dX7_draw_14 : decode cX7_draw 14 = .ok (.aload_n 0, 1) := by decide +kernel
theorem dX7_draw_15 : decode cX7_draw 15 = .ok (.getfield 13, 3) := by decide +kernel
theorem dX7_draw_18 : decode cX7_draw 18 = .ok (.bipush 77, 2) := by decide +kernel
theorem dX7_draw_20 : decode cX7_draw 20 = .ok (.iaload, 1) := by decide +kernel
theorem dX7_draw_21 : decode cX7_draw 21 = .ok (.aload_n 0, 1) := by decide +kernel
theorem dX7_draw_22 : decode cX7_draw 22 = .ok (.getfield 32, 3) := by decide +kernel
theorem dX7_draw_25 : decode cX7_draw 25 = .ok (.invokestatic 75, 3) := by decide +kernel
theorem dX7_draw_28 : decode cX7_draw 28 = .ok (.bipush 40, 2) := by decide +kernel
theorem dX7_draw_30 : decode cX7_draw 30 = .ok (.if_icmp .gt 7, 3) := by decide +kernel
theorem dX7_draw_33 : decode cX7_draw 33 = .ok (.iconst 0, 1) := by decide +kernel
theorem dX7_draw_34 : decode cX7_draw 34 = .ok (.goto 4, 3) := by decide +kernel
theorem dX7_draw_37 : decode cX7_draw 37 = .ok (.iconst 1, 1) := by decide +kernel
theorem dX7_draw_38 : decode cX7_draw 38 = .ok (.invokevirtual 102, 3) := by decide +kernel
theorem dX7_draw_41 : decode cX7_draw 41 = .ok (.ifCond .eq 5, 3) := by decide +kernel
theorem dX7_draw_44 : decode cX7_draw 44 = .ok (.iconst 0, 1) := by decide +kernel
theorem dX7_draw_45 : decode cX7_draw 45 = .ok (.ireturn, 1) := by decide +kernel
theorem dX7_draw_46 : decode cX7_draw 46 = .ok (.aload_n 0, 1) := by decide +kernel
theorem dX7_draw_47 : decode cX7_draw 47 = .ok (.invokevirtual 173, 3) := by decide +kernel
theorem dX7_draw_50 : decode cX7_draw 50 = .ok (.iconst 0, 1) := by decide +kernel
theorem dX7_draw_51 : decode cX7_draw 51 = .ok (.istore_n 1, 1) := by decide +kernel
theorem dX7_draw_52 : decode cX7_draw 52 = .ok (.iload_n 1, 1) := by decide +kernel
theorem dX7_draw_53 : decode cX7_draw 53 = .ok (.bipush 76, 2) := by decide +kernel
theorem dX7_draw_55 : decode cX7_draw 55 = .ok (.if_icmp .ge 21, 3) := by decide +kernel
theorem dX7_draw_58 : decode cX7_draw 58 = .ok (.aload_n 0, 1) := by decide +kernel
theorem dX7_draw_59 : decode cX7_draw 59 = .ok (.getfield 13, 3) := by decide +kernel
theorem dX7_draw_62 : decode cX7_draw 62 = .ok (.iload_n 1, 1) := by decide +kernel
theorem dX7_draw_63 : decode cX7_draw 63 = .ok (.aload_n 0, 1) := by decide +kernel
theorem dX7_draw_64 : decode cX7_draw 64 = .ok (.getfield 29, 3) := by decide +kernel
theorem dX7_draw_67 : decode cX7_draw 67 = .ok (.iload_n 1, 1) := by decide +kernel
theorem dX7_draw_68 : decode cX7_draw 68 = .ok (.iaload, 1) := by decide +kernel
theorem dX7_draw_69 : decode cX7_draw 69 = .ok (.iastore, 1) := by decide +kernel
theorem dX7_draw_70 : decode cX7_draw 70 = .ok (.iinc 1 1, 3) := by decide +kernel
theorem dX7_draw_73 : decode cX7_draw 73 = .ok (.goto (-21), 3) := by decide +kernel
theorem dX7_draw_76 : decode cX7_draw 76 = .ok (.aload_n 0, 1) := by decide +kernel
theorem dX7_draw_77 : decode cX7_draw 77 = .ok (.getfield 13, 3) := by decide +kernel
theorem dX7_draw_80 : decode cX7_draw 80 = .ok (.bipush 76, 2) := by decide +kernel
theorem dX7_draw_82 : decode cX7_draw 82 = .ok (.iconst 0, 1) := by decide +kernel
theorem dX7_draw_83 : decode cX7_draw 83 = .ok (.iastore, 1) := by decide +kernel
theorem dX7_draw_84 : decode cX7_draw 84 = .ok (.aload_n 0, 1) := by decide +kernel
theorem dX7_draw_85 : decode cX7_draw 85 = .ok (.getfield 13, 3) := by decide +kernel
theorem dX7_draw_88 : decode cX7_draw 88 = .ok (.iconst 0, 1) := by decide +kernel
theorem dX7_draw_89 : decode cX7_draw 89 = .ok (.aload_n 0, 1) := by decide +kernel
theorem dX7_draw_90 : decode cX7_draw 90 = .ok (.getfield 13, 3) := by decide +kernel
theorem dX7_draw_93 : decode cX7_draw 93 = .ok (.bipush 77, 2) := by decide +kernel
theorem dX7_draw_95 : decode cX7_draw 95 = .ok (.iaload, 1) := by decide +kernel
theorem dX7_draw_96 : decode cX7_draw 96 = .ok (.aload_n 0, 1) := by decide +kernel
theorem dX7_draw_97 : decode cX7_draw 97 = .ok (.getfield 32, 3) := by decide +kernel
theorem dX7_draw_100 : decode cX7_draw 100 = .ok (.invokestatic 75, 3) := by decide +kernel
theorem dX7_draw_103 : decode cX7_draw 103 = .ok (.ireturn, 1) := by decide +kernel
set_option maxRecDepth 20000 in
theorem ggX7_canLearn_X7_nameOf : GoodIn wsX7_canLearn wsX7_nameOf := goodIn_r _ [4, 5, 6, 3, 7] (by decide +kernel) (by decide +kernel)
set_option maxRecDepth 20000 in
theorem gX7_canLearn_X7_nameOf : GoodIn wsX7_canLearn (va_wsS RX7 146 yX7_nameOf wsX7_nameOf) := goodIn_app (goodIn_of _ (by decide +kernel)) ggX7_canLearn_X7_nameOf
set_option maxRecDepth 20000 in
theorem ggX7_canLearn_X7_distanceTo_p0 : GoodIn wsX7_canLearn [.code yX7_distanceTo cX7_distanceTo 7 (some .int)] := goodIn_r _ [11] (by decide +kernel) (by decide +kernel)
theorem ggX7_canLearn_X7_distanceTo_p1 : GoodIn wsX7_canLearn wsX7_distanceTo_r1 := goodIn_r _ [12, 13, 14, 15, 3, 16, 17, 18, 19, 20, 21, 22, 23, 24, 25, 26, 27, 28, 5, 6, 7, 29, 30, 31] (by decide +kernel) (by decide +kernel)
theorem ggX7_canLearn_X7_distanceTo_p2 : GoodIn wsX7_canLearn wsX7_distanceTo_r2 := goodIn_r _ [32, 33, 34, 35, 36, 37, 38, 39, 40, 41, 42] (by decide +kernel) (by decide +kernel)
theorem ggX7_canLearn_X7_distanceTo_p3 : GoodIn wsX7_canLearn wsX70 := goodIn_r _ [43, 44, 45, 46, 47, 48, 49, 50, 51, 52, 53, 54, 55, 56, 57, 58, 59, 60, 61] (by decide +kernel) (by decide +kernel)
theorem ggX7_canLearn_X7_distanceTo : GoodIn wsX7_canLearn wsX7_distanceTo := (goodIn_c2 ggX7_canLearn_X7_distanceTo_p0 (goodIn_app (goodIn_app ggX7_canLearn_X7_distanceTo_p1 ggX7_canLearn_X7_distanceTo_p2) ggX7_canLearn_X7_distanceTo_p3))
set_option maxRecDepth 20000 in
theorem gX7_canLearn_X7_distanceTo : GoodIn wsX7_canLearn (wsV RX7 91 RX7 yX7_distanceTo wsX7_distanceTo) := goodIn_app (goodIn_of _ (by decide +kernel)) ggX7_canLearn_X7_distanceTo
theorem dX7_canLearn_0 : decode cX7_canLearn 0 = .ok (.aload_n 1, 1) := by decide +kernel
theorem dX7_canLearn_1 : decode cX7_canLearn 1 = .ok (.iconst 0, 1) := by decide +kernel
theorem dX7_canLearn_2 : decode cX7_canLearn 2 = .ok (.iaload, 1) := by decide +kernel
theorem dX7_canLearn_3 : decode cX7_canLearn 3 = .ok (.ifCond .eq 12, 3) := by decide +kernel
theorem dX7_canLearn_6 : decode cX7_canLearn 6 = .ok (.aload_n 1, 1) := by decide +kernel
theorem dX7_canLearn_7 : decode cX7_canLearn 7 = .ok (.bipush 110, 2) := by decide +kernel
theorem dX7_canLearn_9 : decode cX7_canLearn 9 = .ok (.iaload, 1) := by decide +kernel
theorem dX7_canLearn_10 : decode cX7_canLearn 10 = .ok (.bipush 16, 2) := by decide +kernel
theorem dX7_canLearn_12 : decode cX7_canLearn 12 = .ok (.if_icmp .ne 5, 3) := by decide +kernel
theorem dX7_canLearn_15 : decode cX7_canLearn 15 = .ok (.iconst 0, 1) := by decide +kernel
theorem dX7_canLearn_16 : decode cX7_canLearn 16 = .ok (.ireturn, 1) := by decide +kernel
theorem dX7_canLearn_17 : decode cX7_canLearn 17 = .ok (.iconst 0, 1) := by decide +kernel
theorem dX7_canLearn_18 : decode cX7_canLearn 18 = .ok (.istore_n 3, 1) := by decide +kernel
theorem dX7_canLearn_19 : decode cX7_canLearn 19 = .ok (.iload_n 3, 1) := by decide +kernel
theorem dX7_canLearn_20 : decode cX7_canLearn 20 = .ok (.aload_n 1, 1) := by decide +kernel
theorem dX7_canLearn_21 : decode cX7_canLearn 21 = .ok (.bipush 110, 2) := by decide +kernel
theorem dX7_canLearn_23 : decode cX7_canLearn 23 = .ok (.iaload, 1) := by decide +kernel
theorem dX7_canLearn_24 : decode cX7_canLearn 24 = .ok (.if_icmp .ge 35, 3) := by decide +kernel
theorem dX7_canLearn_27 : decode cX7_canLearn 27 = .ok (.aload_n 1, 1) := by decide +kernel
theorem dX7_canLearn_28 : decode cX7_canLearn 28 = .ok (.iload_n 3, 1) := by decide +kernel
theorem dX7_canLearn_29 : decode cX7_canLearn 29 = .ok (.invokestatic 146, 3) := by decide +kernel
theorem dX7_canLearn_32 : decode cX7_canLearn 32 = .ok (.iload_n 2, 1) := by decide +kernel
theorem dX7_canLearn_33 : decode cX7_canLearn 33 = .ok (.if_icmp .eq 20, 3) := by decide +kernel
theorem dX7_canLearn_36 : decode cX7_canLearn 36 = .ok (.aload_n 0, 1) := by decide +kernel
theorem dX7_canLearn_37 : decode cX7_canLearn 37 = .ok (.aload_n 1, 1) := by decide +kernel
theorem dX7_canLearn_38 : decode cX7_canLearn 38 = .ok (.iconst 0, 1) := by decide +kernel
theorem dX7_canLearn_39 : decode cX7_canLearn 39 = .ok (.aload_n 1, 1) := by decide +kernel
theorem dX7_canLearn_40 : decode cX7_canLearn 40 = .ok (.iload_n 3, 1) := by decide +kernel
theorem dX7_canLearn_41 : decode cX7_canLearn 41 = .ok (.aload_n 1, 1) := by decide +kernel
theorem dX7_canLearn_42 : decode cX7_canLearn 42 = .ok (.bipush 77, 2) := by decide +kernel
theorem dX7_canLearn_44 : decode cX7_canLearn 44 = .ok (.iaload, 1) := by decide +kernel
theorem dX7_canLearn_45 : decode cX7_canLearn 45 = .ok (.invokevirtual 91, 3) := by decide +kernel
theorem dX7_canLearn_48 : decode cX7_canLearn 48 = .ok (.ifCond .ne 5, 3) := by decide +kernel
theorem dX7_canLearn_51 : decode cX7_canLearn 51 = .ok (.iconst 0, 1) := by decide +kernel
theorem dX7_canLearn_52 : decode cX7_canLearn 52 = .ok (.ireturn, 1) := by decide +kernel
theorem dX7_canLearn_53 : decode cX7_canLearn 53 = .ok (.iinc 3 1, 3) := by decide +kernel
theorem dX7_canLearn_56 : decode cX7_canLearn 56 = .ok (.goto (-37), 3) := by decide +kernel
theorem dX7_canLearn_59 : decode cX7_canLearn 59 = .ok (.iconst 1, 1) := by decide +kernel
theorem dX7_canLearn_60 : decode cX7_canLearn 60 = .ok (.ireturn, 1) := by decide +kernel
set_option maxRecDepth 20000 in
theorem ggX7_learnOn_X7_at : GoodIn wsX7_learnOn wsX7_at := goodIn_r _ [4] (by decide +kernel) (by decide +kernel)
set_option maxRecDepth 20000 in
theorem gX7_learnOn_X7_at : GoodIn wsX7_learnOn (va_wsS RX7 79 yX7_at wsX7_at) := goodIn_app (goodIn_of _ (by decide +kernel)) ggX7_learnOn_X7_at
set_option maxRecDepth 20000 in
theorem ggX7_learnOn_X7_clearFigure : GoodIn wsX7_learnOn wsX7_clearFigure := goodIn_r _ [7] (by decide +kernel) (by decide +kernel)
set_option maxRecDepth 20000 in
theorem gX7_learnOn_X7_clearFigure : GoodIn wsX7_learnOn (va_wsS RX7 120 yX7_clearFigure wsX7_clearFigure) := goodIn_app (goodIn_of _ (by decide +kernel)) ggX7_learnOn_X7_clearFigure
theorem dX7_learnOn_0 : decode cX7_learnOn 0 = .ok (.aload_n 0, 1) := by decide +kernel
theorem dX7_learnOn_1 : decode cX7_learnOn 1 = .ok (.bipush 110, 2) := by decide +kernel
theorem dX7_learnOn_3 : decode cX7_learnOn 3 = .ok (.iaload, 1) := by decide +kernel
theorem dX7_learnOn_4 : decode cX7_learnOn 4 = .ok (.istore_n 2, 1) := by decide +kernel
theorem dX7_learnOn_5 : decode cX7_learnOn 5 = .ok (.iconst 0, 1) := by decide +kernel
theorem dX7_learnOn_6 : decode cX7_learnOn 6 = .ok (.istore_n 3, 1) := by decide +kernel
theorem dX7_learnOn_7 : decode cX7_learnOn 7 = .ok (.iload_n 3, 1) := by decide +kernel
theorem dX7_learnOn_8 : decode cX7_learnOn 8 = .ok (.bipush 76, 2) := by decide +kernel
theorem dX7_learnOn_10 : decode cX7_learnOn 10 = .ok (.if_icmp .ge 20, 3) := by decide +kernel
theorem dX7_learnOn_13 : decode cX7_learnOn 13 = .ok (.aload_n 0, 1) := by decide +kernel
theorem dX7_learnOn_14 : decode cX7_learnOn 14 = .ok (.iload_n 2, 1) := by decide +kernel
theorem dX7_learnOn_15 : decode cX7_learnOn 15 = .ok (.invokestatic 79, 3) := by decide +kernel
theorem dX7_learnOn_18 : decode cX7_learnOn 18 = .ok (.iload_n 3, 1) := by decide +kernel
theorem dX7_learnOn_19 : decode cX7_learnOn 19 = .ok (.iadd, 1) := by decide +kernel
theorem dX7_learnOn_20 : decode cX7_learnOn 20 = .ok (.aload_n 0, 1) := by decide +kernel
theorem dX7_learnOn_21 : decode cX7_learnOn 21 = .ok (.iload_n 3, 1) := by decide +kernel
theorem dX7_learnOn_22 : decode cX7_learnOn 22 = .ok (.iaload, 1) := by decide +kernel
theorem dX7_learnOn_23 : decode cX7_learnOn 23 = .ok (.iastore, 1) := by decide +kernel
theorem dX7_learnOn_24 : decode cX7_learnOn 24 = .ok (.iinc 3 1, 3) := by decide +kernel
theorem dX7_learnOn_27 : decode cX7_learnOn 27 = .ok (.goto (-20), 3) := by decide +kernel
theorem dX7_learnOn_30 : decode cX7_learnOn 30 = .ok (.aload_n 0, 1) := by decide +kernel
theorem dX7_learnOn_31 : decode cX7_learnOn 31 = .ok (.iload_n 2, 1) := by decide +kernel
theorem dX7_learnOn_32 : decode cX7_learnOn 32 = .ok (.invokestatic 79, 3) := by decide +kernel
theorem dX7_learnOn_35 : decode cX7_learnOn 35 = .ok (.bipush 76, 2) := by decide +kernel
theorem dX7_learnOn_37 : decode cX7_learnOn 37 = .ok (.iadd, 1) := by decide +kernel
theorem dX7_learnOn_38 : decode cX7_learnOn 38 = .ok (.iload_n 1, 1) := by decide +kernel
theorem dX7_learnOn_39 : decode cX7_learnOn 39 = .ok (.iastore, 1) := by decide +kernel
theorem dX7_learnOn_40 : decode cX7_learnOn 40 = .ok (.aload_n 0, 1) := by decide +kernel
theorem dX7_learnOn_41 : decode cX7_learnOn 41 = .ok (.bipush 110, 2) := by decide +kernel
theorem dX7_learnOn_43 : decode cX7_learnOn 43 = .ok (.dup2, 1) := by decide +kernel
theorem dX7_learnOn_44 : decode cX7_learnOn 44 = .ok (.iaload, 1) := by decide +kernel
theorem dX7_learnOn_45 : decode cX7_learnOn 45 = .ok (.iconst 1, 1) := by decide +kernel
theorem dX7_learnOn_46 : decode cX7_learnOn 46 = .ok (.iadd, 1) := by decide +kernel
theorem dX7_learnOn_47 : decode cX7_learnOn 47 = .ok (.iastore, 1) := by decide +kernel
theorem dX7_learnOn_48 : decode cX7_learnOn 48 = .ok (.aload_n 0, 1) := by decide +kernel
theorem dX7_learnOn_49 : decode cX7_learnOn 49 = .ok (.iconst 0, 1) := by decide +kernel
theorem dX7_learnOn_50 : decode cX7_learnOn 50 = .ok (.invokestatic 120, 3) := by decide +kernel
theorem dX7_learnOn_53 : decode cX7_learnOn 53 = .ok (.aload_n 0, 1) := by decide +kernel
theorem dX7_learnOn_54 : decode cX7_learnOn 54 = .ok (.bipush 76, 2) := by decide +kernel
theorem dX7_learnOn_56 : decode cX7_learnOn 56 = .ok (.iconst 0, 1) := by decide +kernel
theorem dX7_learnOn_57 : decode cX7_learnOn 57 = .ok (.iastore, 1) := by decide +kernel
theorem dX7_learnOn_58 : decode cX7_learnOn 58 = .ok (.iload_n 2, 1) := by decide +kernel
theorem dX7_learnOn_59 : decode cX7_learnOn 59 = .ok (.ireturn, 1) := by decide +kernel
set_option maxRecDepth 20000 in
theorem ggX7_learn_X7_isName : GoodIn wsX7_learn wsX7_isName := goodIn_r _ [5, 6, 7, 8, 4, 9] (by decide +kernel) (by decide +kernel)
set_option maxRecDepth 20000 in
theorem gX7_learn_X7_isName : GoodIn wsX7_learn (va_wsS RX7 151 yX7_isName wsX7_isName) := goodIn_app (goodIn_of _ (by decide +kernel)) ggX7_learn_X7_isName
set_option maxRecDepth 20000 in
theorem ggX7_learn_X7_canLearn_p0 : GoodIn wsX7_learn [.code yX7_canLearn cX7_canLearn 4 (some .boolean)] := goodIn_r _ [13] (by decide +kernel) (by decide +kernel)
theorem ggX7_learn_X7_canLearn_p1 : GoodIn wsX7_learn wsX7_canLearn_r1 := goodIn_r _ [14, 15, 4, 16, 17, 18, 19, 20, 21, 22, 23, 24, 25, 26, 27, 28, 29, 30, 31, 32, 33, 34, 35, 36] (by decide +kernel) (by decide +kernel)
theorem ggX7_learn_X7_canLearn_p2 : GoodIn wsX7_learn wsX7_canLearn_r2 := goodIn_r _ [37, 38, 39, 40, 41, 42, 43, 44, 45, 46, 47, 48, 49, 50, 51, 52, 53, 54] (by decide +kernel) (by decide +kernel)
theorem ggX7_learn_X7_canLearn_p3 : GoodIn wsX7_learn wsX70 := goodIn_r _ [75, 76, 77, 78, 79, 80, 81, 82, 83, 84, 85, 86, 87, 88, 89, 90, 91, 92, 93] (by decide +kernel) (by decide +kernel)
theorem ggX7_learn_X7_canLearn : GoodIn wsX7_learn wsX7_canLearn := (goodIn_c2 ggX7_learn_X7_canLearn_p0 (goodIn_app (goodIn_app ggX7_learn_X7_canLearn_p1 ggX7_learn_X7_canLearn_p2) ggX7_learn_X7_canLearn_p3))
set_option maxRecDepth 20000 in
theorem gX7_learn_X7_canLearn : GoodIn wsX7_learn (wsV RX7 176 RX7 yX7_canLearn wsX7_canLearn) := goodIn_app (goodIn_of _ (by decide +kernel)) ggX7_learn_X7_canLearn
set_option maxRecDepth 20000 in
theorem ggX7_learn_X7_refused : GoodIn wsX7_learn wsX7_refused := goodIn_r _ [58, 59, 75, 76, 77, 78, 79, 80, 81, 82, 83, 84, 85, 86, 87, 88, 89, 90, 91, 92, 93] (by decide +kernel) (by decide +kernel)
set_option maxRecDepth 20000 in
theorem gX7_learn_X7_refused : GoodIn wsX7_learn (wsV RX7 102 RX7 yX7_refused wsX7_refused) := goodIn_app (goodIn_of _ (by decide +kernel)) ggX7_learn_X7_refused
set_option maxRecDepth 20000 in
theorem ggX7_learn_X7_remember : GoodIn wsX7_learn wsX7_remember := goodIn_r _ [63, 64, 65, 1, 66, 67, 4, 68, 75, 76, 77, 78, 79, 80, 81, 82, 83, 84, 85, 86, 87, 88, 89, 90, 91, 92, 93] (by decide +kernel) (by decide +kernel)
set_option maxRecDepth 20000 in
theorem gX7_learn_X7_remember : GoodIn wsX7_learn (wsV RX7 173 RX7 yX7_remember wsX7_remember) := goodIn_app (goodIn_of _ (by decide +kernel)) ggX7_learn_X7_remember
set_option maxRecDepth 20000 in
theorem ggX7_learn_X7_learnOn : GoodIn wsX7_learn wsX7_learnOn := goodIn_r _ [71, 17, 18, 4, 19, 72, 73, 74] (by decide +kernel) (by decide +kernel)
set_option maxRecDepth 20000 in
theorem gX7_learn_X7_learnOn : GoodIn wsX7_learn (va_wsS RX7 179 yX7_learnOn wsX7_learnOn) := goodIn_app (goodIn_of _ (by decide +kernel)) ggX7_learn_X7_learnOn
theorem dX7_learn_0 : decode cX7_learn 0 = .ok (.aload_n 0, 1) := by decide +kernel
theorem dX7_learn_1 : decode cX7_learn 1 = .ok (.iload_n 1, 1) := by decide +kernel
theorem dX7_learn_2 : decode cX7_learn 2 = .ok (.invokestatic 151, 3) := by decide +kernel
theorem dX7_learn_5 : decode cX7_learn 5 = .ok (.ifCond .ne 7, 3) := by decide +kernel
theorem dX7_learn_8 : decode cX7_learn 8 = .ok (.iconst 1, 1) := by decide +kernel
theorem dX7_learn_9 : decode cX7_learn 9 = .ok (.goto 20, 3) := by decide +kernel
theorem dX7_learn_12 : decode cX7_learn 12 = .ok (.aload_n 0, 1) := by decide +kernel
theorem dX7_learn_13 : decode cX7_learn 13 = .ok (.aload_n 0, 1) := by decide +kernel
theorem dX7_learn_14 : decode cX7_learn 14 = .ok (.getfield 13, 3) := by decide +kernel
theorem dX7_learn_17 : decode cX7_learn 17 = .ok (.iload_n 1, 1) := by decide +kernel
theorem dX7_learn_18 : decode cX7_learn 18 = .ok (.invokevirtual 176, 3) := by decide +kernel
theorem dX7_learn_21 : decode cX7_learn 21 = .ok (.ifCond .eq 7, 3) := by decide +kernel
theorem dX7_learn_24 : decode cX7_learn 24 = .ok (.iconst 0, 1) := by decide +kernel
theorem dX7_learn_25 : decode cX7_learn 25 = .ok (.goto 4, 3) := by decide +kernel
theorem dX7_learn_28 : decode cX7_learn 28 = .ok (.iconst 2, 1) := by decide +kernel
theorem dX7_learn_29 : decode cX7_learn 29 = .ok (.invokevirtual 102, 3) := by decide +kernel
theorem dX7_learn_32 : decode cX7_learn 32 = .ok (.ifCond .eq 5, 3) := by decide +kernel
theorem dX7_learn_35 : decode cX7_learn 35 = .ok (.iconst 0, 1) := by decide +kernel
theorem dX7_learn_36 : decode cX7_learn 36 = .ok (.ireturn, 1) := by decide +kernel
theorem dX7_learn_37 : decode cX7_learn 37 = .ok (.aload_n 0, 1) := by decide +kernel
theorem dX7_learn_38 : decode cX7_learn 38 = .ok (.invokevirtual 173, 3) := by decide +kernel
theorem dX7_learn_41 : decode cX7_learn 41 = .ok (.aload_n 0, 1) := by decide +kernel
theorem dX7_learn_42 : decode cX7_learn 42 = .ok (.getfield 13, 3) := by decide +kernel
theorem dX7_learn_45 : decode cX7_learn 45 = .ok (.iload_n 1, 1) := by decide +kernel
theorem dX7_learn_46 : decode cX7_learn 46 = .ok (.invokestatic 179, 3) := by decide +kernel
theorem dX7_learn_49 : decode cX7_learn 49 = .ok (.ireturn, 1) := by decide +kernel
set_option maxRecDepth 20000 in
theorem ggX7_forgetOn_X7_at : GoodIn wsX7_forgetOn wsX7_at := goodIn_r _ [4] (by decide +kernel) (by decide +kernel)
set_option maxRecDepth 20000 in
theorem gX7_forgetOn_X7_at : GoodIn wsX7_forgetOn (va_wsS RX7 79 yX7_at wsX7_at) := goodIn_app (goodIn_of _ (by decide +kernel)) ggX7_forgetOn_X7_at
theorem dX7_forgetOn_0 : decode cX7_forgetOn 0 = .ok (.aload_n 0, 1) := by decide +kernel
theorem dX7_forgetOn_1 : decode cX7_forgetOn 1 = .ok (.bipush 110, 2) := by decide +kernel
theorem dX7_forgetOn_3 : decode cX7_forgetOn 3 = .ok (.dup2, 1) := by decide +kernel
theorem dX7_forgetOn_4 : decode cX7_forgetOn 4 = .ok (.iaload, 1) := by decide +kernel
theorem dX7_forgetOn_5 : decode cX7_forgetOn 5 = .ok (.iconst 1, 1) := by decide +kernel
theorem dX7_forgetOn_6 : decode cX7_forgetOn 6 = .ok (.isub, 1) := by decide +kernel
theorem dX7_forgetOn_7 : decode cX7_forgetOn 7 = .ok (.iastore, 1) := by decide +kernel
theorem dX7_forgetOn_8 : decode cX7_forgetOn 8 = .ok (.iload_n 1, 1) := by decide +kernel
theorem dX7_forgetOn_9 : decode cX7_forgetOn 9 = .ok (.invokestatic 79, 3) := by decide +kernel
theorem dX7_forgetOn_12 : decode cX7_forgetOn 12 = .ok (.istore_n 2, 1) := by decide +kernel
theorem dX7_forgetOn_13 : decode cX7_forgetOn 13 = .ok (.iload_n 2, 1) := by decide +kernel
theorem dX7_forgetOn_14 : decode cX7_forgetOn 14 = .ok (.aload_n 0, 1) := by decide +kernel
theorem dX7_forgetOn_15 : decode cX7_forgetOn 15 = .ok (.bipush 110, 2) := by decide +kernel
theorem dX7_forgetOn_17 : decode cX7_forgetOn 17 = .ok (.iaload, 1) := by decide +kernel
theorem dX7_forgetOn_18 : decode cX7_forgetOn 18 = .ok (.invokestatic 79, 3) := by decide +kernel
theorem dX7_forgetOn_21 : decode cX7_forgetOn 21 = .ok (.if_icmp .ge 18, 3) := by decide +kernel
theorem dX7_forgetOn_24 : decode cX7_forgetOn 24 = .ok (.aload_n 0, 1) := by decide +kernel
theorem dX7_forgetOn_25 : decode cX7_forgetOn 25 = .ok (.iload_n 2, 1) := by decide +kernel
theorem dX7_forgetOn_26 : decode cX7_forgetOn 26 = .ok (.aload_n 0, 1) := by decide +kernel
theorem dX7_forgetOn_27 : decode cX7_forgetOn 27 = .ok (.iload_n 2, 1) := by decide +kernel
theorem dX7_forgetOn_28 : decode cX7_forgetOn 28 = .ok (.bipush 77, 2) := by decide +kernel
theorem dX7_forgetOn_30 : decode cX7_forgetOn 30 = .ok (.iadd, 1) := by decide +kernel
theorem dX7_forgetOn_31 : decode cX7_forgetOn 31 = .ok (.iaload, 1) := by decide +kernel
theorem dX7_forgetOn_32 : decode cX7_forgetOn 32 = .ok (.iastore, 1) := by decide +kernel
theorem dX7_forgetOn_33 : decode cX7_forgetOn 33 = .ok (.iinc 2 1, 3) := by decide +kernel
theorem dX7_forgetOn_36 : decode cX7_forgetOn 36 = .ok (.goto (-23), 3) := by decide +kernel
theorem dX7_forgetOn_39 : decode cX7_forgetOn 39 = .ok (.aload_n 0, 1) := by decide +kernel
theorem dX7_forgetOn_40 : decode cX7_forgetOn 40 = .ok (.bipush 110, 2) := by decide +kernel
theorem dX7_forgetOn_42 : decode cX7_forgetOn 42 = .ok (.iaload, 1) := by decide +kernel
theorem dX7_forgetOn_43 : decode cX7_forgetOn 43 = .ok (.ireturn, 1) := by decide +kernel
set_option maxRecDepth 20000 in
theorem ggX7_forget_X7_isSample : GoodIn wsX7_forget wsX7_isSample := goodIn_r _ [5, 6, 7, 4, 8] (by decide +kernel) (by decide +kernel)
set_option maxRecDepth 20000 in
theorem gX7_forget_X7_isSample : GoodIn wsX7_forget (va_wsS RX7 140 yX7_isSample wsX7_isSample) := goodIn_app (goodIn_of _ (by decide +kernel)) ggX7_forget_X7_isSample
set_option maxRecDepth 20000 in
theorem ggX7_forget_X7_refused : GoodIn wsX7_forget wsX7_refused := goodIn_r _ [12, 13, 29, 30, 31, 32, 33, 34, 35, 36, 37, 38, 39, 40, 41, 42, 43, 44, 45, 46, 47] (by decide +kernel) (by decide +kernel)
set_option maxRecDepth 20000 in
theorem gX7_forget_X7_refused : GoodIn wsX7_forget (wsV RX7 102 RX7 yX7_refused wsX7_refused) := goodIn_app (goodIn_of _ (by decide +kernel)) ggX7_forget_X7_refused
set_option maxRecDepth 20000 in
theorem ggX7_forget_X7_remember : GoodIn wsX7_forget wsX7_remember := goodIn_r _ [17, 18, 19, 1, 20, 21, 4, 22, 29, 30, 31, 32, 33, 34, 35, 36, 37, 38, 39, 40, 41, 42, 43, 44, 45, 46, 47] (by decide +kernel) (by decide +kernel)
set_option maxRecDepth 20000 in
theorem gX7_forget_X7_remember : GoodIn wsX7_forget (wsV RX7 173 RX7 yX7_remember wsX7_remember) := goodIn_app (goodIn_of _ (by decide +kernel)) ggX7_forget_X7_remember
set_option maxRecDepth 20000 in
theorem ggX7_forget_X7_forgetOn : GoodIn wsX7_forget wsX7_forgetOn := goodIn_r _ [25, 26, 27, 4, 28] (by decide +kernel) (by decide +kernel)
set_option maxRecDepth 20000 in
theorem gX7_forget_X7_forgetOn : GoodIn wsX7_forget (va_wsS RX7 182 yX7_forgetOn wsX7_forgetOn) := goodIn_app (goodIn_of _ (by decide +kernel)) ggX7_forget_X7_forgetOn
theorem dX7_forget_0 : decode cX7_forget 0 = .ok (.aload_n 0, 1) := by decide +kernel
theorem dX7_forget_1 : decode cX7_forget 1 = .ok (.aload_n 0, 1) := by decide +kernel
theorem dX7_forget_2 : decode cX7_forget 2 = .ok (.getfield 13, 3) := by decide +kernel
theorem dX7_forget_5 : decode cX7_forget 5 = .ok (.iload_n 1, 1) := by decide +kernel
theorem dX7_forget_6 : decode cX7_forget 6 = .ok (.invokestatic 140, 3) := by decide +kernel
theorem dX7_forget_9 : decode cX7_forget 9 = .ok (.ifCond .eq 7, 3) := by decide +kernel
theorem dX7_forget_12 : decode cX7_forget 12 = .ok (.iconst 0, 1) := by decide +kernel
theorem dX7_forget_13 : decode cX7_forget 13 = .ok (.goto 4, 3) := by decide +kernel
theorem dX7_forget_16 : decode cX7_forget 16 = .ok (.iconst 1, 1) := by decide +kernel
theorem dX7_forget_17 : decode cX7_forget 17 = .ok (.invokevirtual 102, 3) := by decide +kernel
theorem dX7_forget_20 : decode cX7_forget 20 = .ok (.ifCond .eq 5, 3) := by decide +kernel
theorem dX7_forget_23 : decode cX7_forget 23 = .ok (.iconst 0, 1) := by decide +kernel
theorem dX7_forget_24 : decode cX7_forget 24 = .ok (.ireturn, 1) := by decide +kernel
theorem dX7_forget_25 : decode cX7_forget 25 = .ok (.aload_n 0, 1) := by decide +kernel
theorem dX7_forget_26 : decode cX7_forget 26 = .ok (.invokevirtual 173, 3) := by decide +kernel
theorem dX7_forget_29 : decode cX7_forget 29 = .ok (.aload_n 0, 1) := by decide +kernel
theorem dX7_forget_30 : decode cX7_forget 30 = .ok (.getfield 13, 3) := by decide +kernel
theorem dX7_forget_33 : decode cX7_forget 33 = .ok (.iload_n 1, 1) := by decide +kernel
theorem dX7_forget_34 : decode cX7_forget 34 = .ok (.invokestatic 182, 3) := by decide +kernel
theorem dX7_forget_37 : decode cX7_forget 37 = .ok (.ireturn, 1) := by decide +kernel
set_option maxRecDepth 20000 in
theorem ggX7_practiseOn_X7_readFigure_p0 : GoodIn wsX7_practiseOn [.code yX7_readFigure cX7_readFigure 9 none] := goodIn_r _ [7] (by decide +kernel) (by decide +kernel)
theorem ggX7_practiseOn_X7_readFigure_p1 : GoodIn wsX7_practiseOn wsX7_readFigure_r1 := goodIn_r _ [2, 8, 1, 9, 10, 11, 6, 12, 13, 14, 15, 16, 17, 18, 19, 20, 21, 22, 23, 24, 25, 26, 27, 28] (by decide +kernel) (by decide +kernel)
theorem ggX7_practiseOn_X7_readFigure_p2 : GoodIn wsX7_practiseOn wsX7_readFigure_r2 := goodIn_r _ [29, 30, 31, 32, 33, 34, 35, 36, 37, 38, 39, 40, 41, 42, 43, 44, 45, 46] (by decide +kernel) (by decide +kernel)
theorem ggX7_practiseOn_X7_readFigure_p3 : GoodIn wsX7_practiseOn wsX70 := goodIn_r _ [53, 54, 55, 56, 57, 58, 59, 60, 61, 62, 63, 64, 65, 66, 67, 68, 69, 70, 71] (by decide +kernel) (by decide +kernel)
theorem ggX7_practiseOn_X7_readFigure : GoodIn wsX7_practiseOn wsX7_readFigure := (goodIn_c2 ggX7_practiseOn_X7_readFigure_p0 (goodIn_app (goodIn_app ggX7_practiseOn_X7_readFigure_p1 ggX7_practiseOn_X7_readFigure_p2) ggX7_practiseOn_X7_readFigure_p3))
set_option maxRecDepth 20000 in
theorem gX7_practiseOn_X7_readFigure : GoodIn wsX7_practiseOn (wsV RX7 185 RX7 yX7_readFigure wsX7_readFigure) := goodIn_app (goodIn_of _ (by decide +kernel)) ggX7_practiseOn_X7_readFigure
set_option maxRecDepth 20000 in
theorem ggX7_practiseOn_X7_nameOf : GoodIn wsX7_practiseOn wsX7_nameOf := goodIn_r _ [49, 30, 31, 6, 32] (by decide +kernel) (by decide +kernel)
set_option maxRecDepth 20000 in
theorem gX7_practiseOn_X7_nameOf : GoodIn wsX7_practiseOn (va_wsS RX7 146 yX7_nameOf wsX7_nameOf) := goodIn_app (goodIn_of _ (by decide +kernel)) ggX7_practiseOn_X7_nameOf
set_option maxRecDepth 20000 in
theorem ggX7_practiseOn_X7_clearFigure : GoodIn wsX7_practiseOn wsX7_clearFigure := goodIn_r _ [52] (by decide +kernel) (by decide +kernel)
set_option maxRecDepth 20000 in
theorem gX7_practiseOn_X7_clearFigure : GoodIn wsX7_practiseOn (va_wsS RX7 120 yX7_clearFigure wsX7_clearFigure) := goodIn_app (goodIn_of _ (by decide +kernel)) ggX7_practiseOn_X7_clearFigure
theorem dX7_practiseOn_0 : decode cX7_practiseOn 0 = .ok (.aload_n 0, 1) := by decide +kernel
theorem dX7_practiseOn_1 : decode cX7_practiseOn 1 = .ok (.aload_n 1, 1) := by decide +kernel
theorem dX7_practiseOn_2 : decode cX7_practiseOn 2 = .ok (.iconst 0, 1) := by decide +kernel
theorem dX7_practiseOn_3 : decode cX7_practiseOn 3 = .ok (.aload_n 1, 1) := by decide +kernel
theorem dX7_practiseOn_4 : decode cX7_practiseOn 4 = .ok (.iconst (-1), 1) := by decide +kernel
theorem dX7_practiseOn_5 : decode cX7_practiseOn 5 = .ok (.invokevirtual 185, 3) := by decide +kernel
theorem dX7_practiseOn_8 : decode cX7_practiseOn 8 = .ok (.aload_n 0, 1) := by decide +kernel
theorem dX7_practiseOn_9 : decode cX7_practiseOn 9 = .ok (.getfield 95, 3) := by decide +kernel
theorem dX7_practiseOn_12 : decode cX7_practiseOn 12 = .ok (.ifCond .le 7, 3) := by decide +kernel
theorem dX7_practiseOn_15 : decode cX7_practiseOn 15 = .ok (.iconst 1, 1) := by decide +kernel
theorem dX7_practiseOn_16 : decode cX7_practiseOn 16 = .ok (.goto 20, 3) := by decide +kernel
theorem dX7_practiseOn_19 : decode cX7_practiseOn 19 = .ok (.aload_n 1, 1) := by decide +kernel
theorem dX7_practiseOn_20 : decode cX7_practiseOn 20 = .ok (.aload_n 0, 1) := by decide +kernel
theorem dX7_practiseOn_21 : decode cX7_practiseOn 21 = .ok (.getfield 85, 3) := by decide +kernel
theorem dX7_practiseOn_24 : decode cX7_practiseOn 24 = .ok (.invokestatic 146, 3) := by decide +kernel
theorem dX7_practiseOn_27 : decode cX7_practiseOn 27 = .ok (.iload_n 2, 1) := by decide +kernel
theorem dX7_practiseOn_28 : decode cX7_practiseOn 28 = .ok (.if_icmp .ne 7, 3) := by decide +kernel
theorem dX7_practiseOn_31 : decode cX7_practiseOn 31 = .ok (.iconst 0, 1) := by decide +kernel
theorem dX7_practiseOn_32 : decode cX7_practiseOn 32 = .ok (.goto 4, 3) := by decide +kernel
theorem dX7_practiseOn_35 : decode cX7_practiseOn 35 = .ok (.iconst 2, 1) := by decide +kernel
theorem dX7_practiseOn_36 : decode cX7_practiseOn 36 = .ok (.istore_n 3, 1) := by decide +kernel
theorem dX7_practiseOn_37 : decode cX7_practiseOn 37 = .ok (.aload_n 1, 1) := by decide +kernel
theorem dX7_practiseOn_38 : decode cX7_practiseOn 38 = .ok (.bipush 80, 2) := by decide +kernel
theorem dX7_practiseOn_40 : decode cX7_practiseOn 40 = .ok (.bipush 10, 2) := by decide +kernel
theorem dX7_practiseOn_42 : decode cX7_practiseOn 42 = .ok (.iload_n 3, 1) := by decide +kernel
theorem dX7_practiseOn_43 : decode cX7_practiseOn 43 = .ok (.imul, 1) := by decide +kernel
theorem dX7_practiseOn_44 : decode cX7_practiseOn 44 = .ok (.iadd, 1) := by decide +kernel
theorem dX7_practiseOn_45 : decode cX7_practiseOn 45 = .ok (.iload_n 2, 1) := by decide +kernel
theorem dX7_practiseOn_46 : decode cX7_practiseOn 46 = .ok (.iadd, 1) := by decide +kernel
theorem dX7_practiseOn_47 : decode cX7_practiseOn 47 = .ok (.dup2, 1) := by decide +kernel
theorem dX7_practiseOn_48 : decode cX7_practiseOn 48 = .ok (.iaload, 1) := by decide +kernel
theorem dX7_practiseOn_49 : decode cX7_practiseOn 49 = .ok (.iconst 1, 1) := by decide +kernel
theorem dX7_practiseOn_50 : decode cX7_practiseOn 50 = .ok (.iadd, 1) := by decide +kernel
theorem dX7_practiseOn_51 : decode cX7_practiseOn 51 = .ok (.iastore, 1) := by decide +kernel
theorem dX7_practiseOn_52 : decode cX7_practiseOn 52 = .ok (.aload_n 1, 1) := by decide +kernel
theorem dX7_practiseOn_53 : decode cX7_practiseOn 53 = .ok (.iconst 0, 1) := by decide +kernel
theorem dX7_practiseOn_54 : decode cX7_practiseOn 54 = .ok (.invokestatic 120, 3) := by decide +kernel
theorem dX7_practiseOn_57 : decode cX7_practiseOn 57 = .ok (.aload_n 1, 1) := by decide +kernel
theorem dX7_practiseOn_58 : decode cX7_practiseOn 58 = .ok (.bipush 76, 2) := by decide +kernel
theorem dX7_practiseOn_60 : decode cX7_practiseOn 60 = .ok (.iconst 0, 1) := by decide +kernel
theorem dX7_practiseOn_61 : decode cX7_practiseOn 61 = .ok (.iastore, 1) := by decide +kernel
theorem dX7_practiseOn_62 : decode cX7_practiseOn 62 = .ok (.iload_n 3, 1) := by decide +kernel
theorem dX7_practiseOn_63 : decode cX7_practiseOn 63 = .ok (.ireturn, 1) := by decide +kernel
set_option maxRecDepth 20000 in
theorem ggX7_practise_X7_isName : GoodIn wsX7_practise wsX7_isName := goodIn_r _ [5, 6, 7, 8, 4, 9] (by decide +kernel) (by decide +kernel)
set_option maxRecDepth 20000 in
theorem gX7_practise_X7_isName : GoodIn wsX7_practise (va_wsS RX7 151 yX7_isName wsX7_isName) := goodIn_app (goodIn_of _ (by decide +kernel)) ggX7_practise_X7_isName
set_option maxRecDepth 20000 in
theorem ggX7_practise_X7_refused : GoodIn wsX7_practise wsX7_refused := goodIn_r _ [13, 14, 79, 80, 81, 82, 83, 84, 85, 86, 87, 88, 89, 90, 91, 92, 93, 94, 95, 96, 97] (by decide +kernel) (by decide +kernel)
set_option maxRecDepth 20000 in
theorem gX7_practise_X7_refused : GoodIn wsX7_practise (wsV RX7 102 RX7 yX7_refused wsX7_refused) := goodIn_app (goodIn_of _ (by decide +kernel)) ggX7_practise_X7_refused
set_option maxRecDepth 20000 in
theorem ggX7_practise_X7_remember : GoodIn wsX7_practise wsX7_remember := goodIn_r _ [18, 19, 20, 1, 21, 22, 4, 23, 79, 80, 81, 82, 83, 84, 85, 86, 87, 88, 89, 90, 91, 92, 93, 94, 95, 96, 97] (by decide +kernel) (by decide +kernel)
set_option maxRecDepth 20000 in
theorem gX7_practise_X7_remember : GoodIn wsX7_practise (wsV RX7 173 RX7 yX7_remember wsX7_remember) := goodIn_app (goodIn_of _ (by decide +kernel)) ggX7_practise_X7_remember
set_option maxRecDepth 20000 in
theorem ggX7_practise_X7_practiseOn_p0 : GoodIn wsX7_practise [.code yX7_practiseOn cX7_practiseOn 4 (some .int)] := goodIn_r _ [27] (by decide +kernel) (by decide +kernel)
theorem ggX7_practise_X7_practiseOn_p1 : GoodIn wsX7_practise wsX7_practiseOn_r1 := goodIn_r _ [28, 29, 30, 31, 32, 4, 33, 34, 35, 36, 37, 38, 39, 40, 41, 42, 43, 44, 45, 46, 47, 48, 49, 50] (by decide +kernel) (by decide +kernel)
theorem ggX7_practise_X7_practiseOn_p2 : GoodIn wsX7_practise wsX7_practiseOn_r2 := goodIn_r _ [51, 52, 53, 54, 55, 56, 57, 58, 59, 60, 61, 62, 63, 64, 65, 66, 67, 68, 69, 70, 71, 72, 73, 74] (by decide +kernel) (by decide +kernel)
theorem ggX7_practise_X7_practiseOn_p3 : GoodIn wsX7_practise wsX7_practiseOn_r3 := goodIn_r _ [75, 76, 77, 78] (by decide +kernel) (by decide +kernel)
theorem ggX7_practise_X7_practiseOn_p4 : GoodIn wsX7_practise wsX70 := goodIn_r _ [79, 80, 81, 82, 83, 84, 85, 86, 87, 88, 89, 90, 91, 92, 93, 94, 95, 96, 97] (by decide +kernel) (by decide +kernel)
theorem ggX7_practise_X7_practiseOn : GoodIn wsX7_practise wsX7_practiseOn := (goodIn_c2 ggX7_practise_X7_practiseOn_p0 (goodIn_app (goodIn_app ggX7_practise_X7_practiseOn_p1 (goodIn_app ggX7_practise_X7_practiseOn_p2 ggX7_practise_X7_practiseOn_p3)) ggX7_practise_X7_practiseOn_p4))
set_option maxRecDepth 20000 in
theorem gX7_practise_X7_practiseOn : GoodIn wsX7_practise (wsV RX7 188 RX7 yX7_practiseOn wsX7_practiseOn) := goodIn_app (goodIn_of _ (by decide +kernel)) ggX7_practise_X7_practiseOn
theorem dX7_practise_0 : decode cX7_practise 0 = .ok (.aload_n 0, 1) := by decide +kernel
theorem dX7_practise_1 : decode cX7_practise 1 = .ok (.iload_n 1, 1) := by decide +kernel
theorem dX7_practise_2 : decode cX7_practise 2 = .ok (.invokestatic 151, 3) := by decide +kernel
theorem dX7_practise_5 : decode cX7_practise 5 = .ok (.ifCond .ne 7, 3) := by decide +kernel
theorem dX7_practise_8 : decode cX7_practise 8 = .ok (.iconst 1, 1) := by decide +kernel
theorem dX7_practise_9 : decode cX7_practise 9 = .ok (.goto 17, 3) := by decide +kernel
theorem dX7_practise_12 : decode cX7_practise 12 = .ok (.aload_n 0, 1) := by decide +kernel
theorem dX7_practise_13 : decode cX7_practise 13 = .ok (.getfield 13, 3) := by decide +kernel
theorem dX7_practise_16 : decode cX7_practise 16 = .ok (.iconst 0, 1) := by decide +kernel
theorem dX7_practise_17 : decode cX7_practise 17 = .ok (.iaload, 1) := by decide +kernel
theorem dX7_practise_18 : decode cX7_practise 18 = .ok (.ifCond .ne 7, 3) := by decide +kernel
theorem dX7_practise_21 : decode cX7_practise 21 = .ok (.iconst 2, 1) := by decide +kernel
theorem dX7_practise_22 : decode cX7_practise 22 = .ok (.goto 4, 3) := by decide +kernel
theorem dX7_practise_25 : decode cX7_practise 25 = .ok (.iconst 0, 1) := by decide +kernel
theorem dX7_practise_26 : decode cX7_practise 26 = .ok (.invokevirtual 102, 3) := by decide +kernel
theorem dX7_practise_29 : decode cX7_practise 29 = .ok (.ifCond .eq 5, 3) := by decide +kernel
theorem dX7_practise_32 : decode cX7_practise 32 = .ok (.iconst 0, 1) := by decide +kernel
theorem dX7_practise_33 : decode cX7_practise 33 = .ok (.ireturn, 1) := by decide +kernel
theorem dX7_practise_34 : decode cX7_practise 34 = .ok (.aload_n 0, 1) := by decide +kernel
theorem dX7_practise_35 : decode cX7_practise 35 = .ok (.invokevirtual 173, 3) := by decide +kernel
theorem dX7_practise_38 : decode cX7_practise 38 = .ok (.aload_n 0, 1) := by decide +kernel
theorem dX7_practise_39 : decode cX7_practise 39 = .ok (.aload_n 0, 1) := by decide +kernel
theorem dX7_practise_40 : decode cX7_practise 40 = .ok (.getfield 13, 3) := by decide +kernel
theorem dX7_practise_43 : decode cX7_practise 43 = .ok (.iload_n 1, 1) := by decide +kernel
theorem dX7_practise_44 : decode cX7_practise 44 = .ok (.invokevirtual 188, 3) := by decide +kernel
theorem dX7_practise_47 : decode cX7_practise 47 = .ok (.ireturn, 1) := by decide +kernel
set_option maxRecDepth 20000 in
theorem ggX7_isSetting_X7_in : GoodIn wsX7_isSetting wsX7_in := goodIn_r _ [7] (by decide +kernel) (by decide +kernel)
set_option maxRecDepth 20000 in
theorem gX7_isSetting_X7_in : GoodIn wsX7_isSetting (va_wsS RX7 45 yX7_in wsX7_in) := goodIn_app (goodIn_of _ (by decide +kernel)) ggX7_isSetting_X7_in
theorem dX7_isSetting_0 : decode cX7_isSetting 0 = .ok (.iload_n 0, 1) := by decide +kernel
theorem dX7_isSetting_1 : decode cX7_isSetting 1 = .ok (.ifCond .ne 17, 3) := by decide +kernel
theorem dX7_isSetting_4 : decode cX7_isSetting 4 = .ok (.iload_n 1, 1) := by decide +kernel
theorem dX7_isSetting_5 : decode cX7_isSetting 5 = .ok (.i2l, 1) := by decide +kernel
theorem dX7_isSetting_6 : decode cX7_isSetting 6 = .ok (.ldc2_w 191, 3) := by decide +kernel
theorem dX7_isSetting_9 : decode cX7_isSetting 9 = .ok (.ldc2_w 193, 3) := by decide +kernel
theorem dX7_isSetting_12 : decode cX7_isSetting 12 = .ok (.invokestatic 45, 3) := by decide +kernel
theorem dX7_isSetting_15 : decode cX7_isSetting 15 = .ok (.ifCond .ne 37, 3) := by decide +kernel
theorem dX7_isSetting_18 : decode cX7_isSetting 18 = .ok (.iload_n 0, 1) := by decide +kernel
theorem dX7_isSetting_19 : decode cX7_isSetting 19 = .ok (.iconst 1, 1) := by decide +kernel
theorem dX7_isSetting_20 : decode cX7_isSetting 20 = .ok (.if_icmp .ne 15, 3) := by decide +kernel
theorem dX7_isSetting_23 : decode cX7_isSetting 23 = .ok (.iload_n 1, 1) := by decide +kernel
theorem dX7_isSetting_24 : decode cX7_isSetting 24 = .ok (.i2l, 1) := by decide +kernel
theorem dX7_isSetting_25 : decode cX7_isSetting 25 = .ok (.lconst 0, 1) := by decide +kernel
theorem dX7_isSetting_26 : decode cX7_isSetting 26 = .ok (.ldc2_w 195, 3) := by decide +kernel
theorem dX7_isSetting_29 : decode cX7_isSetting 29 = .ok (.invokestatic 45, 3) := by decide +kernel
theorem dX7_isSetting_32 : decode cX7_isSetting 32 = .ok (.ifCond .ne 20, 3) := by decide +kernel
theorem dX7_isSetting_35 : decode cX7_isSetting 35 = .ok (.iload_n 0, 1) := by decide +kernel
theorem dX7_isSetting_36 : decode cX7_isSetting 36 = .ok (.iconst 2, 1) := by decide +kernel
theorem dX7_isSetting_37 : decode cX7_isSetting 37 = .ok (.if_icmp .ne 19, 3) := by decide +kernel
theorem dX7_isSetting_40 : decode cX7_isSetting 40 = .ok (.iload_n 1, 1) := by decide +kernel
theorem dX7_isSetting_41 : decode cX7_isSetting 41 = .ok (.i2l, 1) := by decide +kernel
theorem dX7_isSetting_42 : decode cX7_isSetting 42 = .ok (.lconst 1, 1) := by decide +kernel
theorem dX7_isSetting_43 : decode cX7_isSetting 43 = .ok (.ldc2_w 193, 3) := by decide +kernel
theorem dX7_isSetting_46 : decode cX7_isSetting 46 = .ok (.invokestatic 45, 3) := by decide +kernel
theorem dX7_isSetting_49 : decode cX7_isSetting 49 = .ok (.ifCond .eq 7, 3) := by decide +kernel
theorem dX7_isSetting_52 : decode cX7_isSetting 52 = .ok (.iconst 1, 1) := by decide +kernel
theorem dX7_isSetting_53 : decode cX7_isSetting 53 = .ok (.goto 4, 3) := by decide +kernel
theorem dX7_isSetting_56 : decode cX7_isSetting 56 = .ok (.iconst 0, 1) := by decide +kernel
theorem dX7_isSetting_57 : decode cX7_isSetting 57 = .ok (.ireturn, 1) := by decide +kernel
set_option maxRecDepth 20000 in
theorem ggX7_samplesFit_X7_at : GoodIn wsX7_samplesFit wsX7_at := goodIn_r _ [5] (by decide +kernel) (by decide +kernel)
set_option maxRecDepth 20000 in
theorem gX7_samplesFit_X7_at : GoodIn wsX7_samplesFit (va_wsS RX7 79 yX7_at wsX7_at) := goodIn_app (goodIn_of _ (by decide +kernel)) ggX7_samplesFit_X7_at
set_option maxRecDepth 20000 in
theorem ggX7_samplesFit_X7_signature : GoodIn wsX7_samplesFit wsX7_signature := goodIn_r _ [8, 9, 10, 4, 11, 12, 13, 14, 15, 16, 17, 18, 19, 20] (by decide +kernel) (by decide +kernel)
set_option maxRecDepth 20000 in
theorem gX7_samplesFit_X7_signature : GoodIn wsX7_samplesFit (va_wsS RX7 75 yX7_signature wsX7_signature) := goodIn_app (goodIn_of _ (by decide +kernel)) ggX7_samplesFit_X7_signature
theorem dX7_samplesFit_0 : decode cX7_samplesFit 0 = .ok (.iconst 1, 1) := by decide +kernel
theorem dX7_samplesFit_1 : decode cX7_samplesFit 1 = .ok (.istore_n 3, 1) := by decide +kernel
theorem dX7_samplesFit_2 : decode cX7_samplesFit 2 = .ok (.iconst 0, 1) := by decide +kernel
theorem dX7_samplesFit_3 : decode cX7_samplesFit 3 = .ok (.istore 4, 2) := by decide +kernel
theorem dX7_samplesFit_5 : decode cX7_samplesFit 5 = .ok (.iload 4, 2) := by decide +kernel
theorem dX7_samplesFit_7 : decode cX7_samplesFit 7 = .ok (.aload_n 1, 1) := by decide +kernel
theorem dX7_samplesFit_8 : decode cX7_samplesFit 8 = .ok (.bipush 110, 2) := by decide +kernel
theorem dX7_samplesFit_10 : decode cX7_samplesFit 10 = .ok (.iaload, 1) := by decide +kernel
theorem dX7_samplesFit_11 : decode cX7_samplesFit 11 = .ok (.if_icmp .ge 38, 3) := by decide +kernel
theorem dX7_samplesFit_14 : decode cX7_samplesFit 14 = .ok (.iload_n 3, 1) := by decide +kernel
theorem dX7_samplesFit_15 : decode cX7_samplesFit 15 = .ok (.ifCond .eq 34, 3) := by decide +kernel
theorem dX7_samplesFit_18 : decode cX7_samplesFit 18 = .ok (.aload_n 1, 1) := by decide +kernel
theorem dX7_samplesFit_19 : decode cX7_samplesFit 19 = .ok (.iload 4, 2) := by decide +kernel
theorem dX7_samplesFit_21 : decode cX7_samplesFit 21 = .ok (.invokestatic 79, 3) := by decide +kernel
theorem dX7_samplesFit_24 : decode cX7_samplesFit 24 = .ok (.iload_n 2, 1) := by decide +kernel
theorem dX7_samplesFit_25 : decode cX7_samplesFit 25 = .ok (.aload_n 0, 1) := by decide +kernel
theorem dX7_samplesFit_26 : decode cX7_samplesFit 26 = .ok (.getfield 32, 3) := by decide +kernel
theorem dX7_samplesFit_29 : decode cX7_samplesFit 29 = .ok (.invokestatic 75, 3) := by decide +kernel
theorem dX7_samplesFit_32 : decode cX7_samplesFit 32 = .ok (.bipush 40, 2) := by decide +kernel
theorem dX7_samplesFit_34 : decode cX7_samplesFit 34 = .ok (.if_icmp .gt 7, 3) := by decide +kernel
theorem dX7_samplesFit_37 : decode cX7_samplesFit 37 = .ok (.iconst 1, 1) := by decide +kernel
theorem dX7_samplesFit_38 : decode cX7_samplesFit 38 = .ok (.goto 4, 3) := by decide +kernel
theorem dX7_samplesFit_41 : decode cX7_samplesFit 41 = .ok (.iconst 0, 1) := by decide +kernel
theorem dX7_samplesFit_42 : decode cX7_samplesFit 42 = .ok (.istore_n 3, 1) := by decide +kernel
theorem dX7_samplesFit_43 : decode cX7_samplesFit 43 = .ok (.iinc 4 1, 3) := by decide +kernel
theorem dX7_samplesFit_46 : decode cX7_samplesFit 46 = .ok (.goto (-41), 3) := by decide +kernel
theorem dX7_samplesFit_49 : decode cX7_samplesFit 49 = .ok (.iload_n 3, 1) := by decide +kernel
theorem dX7_samplesFit_50 : decode cX7_samplesFit 50 = .ok (.ireturn, 1) := by decide +kernel
set_option maxRecDepth 20000 in
theorem ggX7_canSet_X7_signature : GoodIn wsX7_canSet wsX7_signature := goodIn_r _ [5, 6, 7, 4, 8, 9, 10, 11, 12, 13, 14, 15, 16, 17] (by decide +kernel) (by decide +kernel)
set_option maxRecDepth 20000 in
theorem gX7_canSet_X7_signature : GoodIn wsX7_canSet (va_wsS RX7 75 yX7_signature wsX7_signature) := goodIn_app (goodIn_of _ (by decide +kernel)) ggX7_canSet_X7_signature
set_option maxRecDepth 20000 in
theorem ggX7_canSet_X7_samplesFit_p0 : GoodIn wsX7_canSet [.code yX7_samplesFit cX7_samplesFit 5 (some .boolean)] := goodIn_r _ [21] (by decide +kernel) (by decide +kernel)
theorem ggX7_canSet_X7_samplesFit_p1 : GoodIn wsX7_canSet [.fieldLink RX7 32 "RuledStrokesModel" "one" "[I", .methodLink RX7 79 yX7_at, .static yX7_at, .initialized RX7, .code yX7_at cX7_at 1 (some .int), .methodLink RX7 75 yX7_signature, .static yX7_signature, .code yX7_signature cX7_signature 8 (some .int), .methodLink RX7 57 yX7_next, .static yX7_next, .code yX7_next cX7_next 3 (some .int), .methodLink RX7 61 yX7_cross, .static yX7_cross, .code yX7_cross cX7_cross 13 (some .int), .methodLink RX7 49 yX7_size, .static yX7_size, .code yX7_size cX7_size 1 (some .int), .methodLink RX7 53 yX7_ahead, .static yX7_ahead, .code yX7_ahead cX7_ahead 4 (some .int)] := goodIn_r _ [1, 22, 23, 4, 24, 2, 3, 5, 6, 7, 8, 9, 10, 11, 12, 13, 14, 15, 16, 17] (by decide +kernel) (by decide +kernel)
theorem ggX7_canSet_X7_samplesFit_p2 : GoodIn wsX7_canSet wsX70 := goodIn_r _ [25, 26, 27, 28, 29, 30, 31, 32, 33, 34, 35, 36, 37, 38, 39, 40, 41, 42, 43] (by decide +kernel) (by decide +kernel)
theorem ggX7_canSet_X7_samplesFit : GoodIn wsX7_canSet wsX7_samplesFit := (goodIn_c2 ggX7_canSet_X7_samplesFit_p0 (goodIn_app ggX7_canSet_X7_samplesFit_p1 ggX7_canSet_X7_samplesFit_p2))
set_option maxRecDepth 20000 in
theorem gX7_canSet_X7_samplesFit : GoodIn wsX7_canSet (wsV RX7 197 RX7 yX7_samplesFit wsX7_samplesFit) := goodIn_app (goodIn_of _ (by decide +kernel)) ggX7_canSet_X7_samplesFit
theorem dX7_canSet_0 : decode cX7_canSet 0 = .ok (.iload_n 2, 1) := by decide +kernel
theorem dX7_canSet_1 : decode cX7_canSet 1 = .ok (.ifCond .gt 27, 3) := by decide +kernel
theorem dX7_canSet_4 : decode cX7_canSet 4 = .ok (.aload_n 1, 1) := by decide +kernel
theorem dX7_canSet_5 : decode cX7_canSet 5 = .ok (.iconst 0, 1) := by decide +kernel
theorem dX7_canSet_6 : decode cX7_canSet 6 = .ok (.iload_n 3, 1) := by decide +kernel
theorem dX7_canSet_7 : decode cX7_canSet 7 = .ok (.aload_n 0, 1) := by decide +kernel
theorem dX7_canSet_8 : decode cX7_canSet 8 = .ok (.getfield 32, 3) := by decide +kernel
theorem dX7_canSet_11 : decode cX7_canSet 11 = .ok (.invokestatic 75, 3) := by decide +kernel
theorem dX7_canSet_14 : decode cX7_canSet 14 = .ok (.bipush 40, 2) := by decide +kernel
theorem dX7_canSet_16 : decode cX7_canSet 16 = .ok (.if_icmp .gt 16, 3) := by decide +kernel
theorem dX7_canSet_19 : decode cX7_canSet 19 = .ok (.aload_n 0, 1) := by decide +kernel
theorem dX7_canSet_20 : decode cX7_canSet 20 = .ok (.aload_n 1, 1) := by decide +kernel
theorem dX7_canSet_21 : decode cX7_canSet 21 = .ok (.iload_n 3, 1) := by decide +kernel
theorem dX7_canSet_22 : decode cX7_canSet 22 = .ok (.invokevirtual 197, 3) := by decide +kernel
theorem dX7_canSet_25 : decode cX7_canSet 25 = .ok (.ifCond .eq 7, 3) := by decide +kernel
theorem dX7_canSet_28 : decode cX7_canSet 28 = .ok (.iconst 1, 1) := by decide +kernel
theorem dX7_canSet_29 : decode cX7_canSet 29 = .ok (.goto 4, 3) := by decide +kernel
theorem dX7_canSet_32 : decode cX7_canSet 32 = .ok (.iconst 0, 1) := by decide +kernel
theorem dX7_canSet_33 : decode cX7_canSet 33 = .ok (.ireturn, 1) := by decide +kernel
set_option maxRecDepth 20000 in
theorem ggX7_set_X7_isSetting : GoodIn wsX7_set wsX7_isSetting := goodIn_r _ [5, 6, 7, 8, 9, 10, 4, 11] (by decide +kernel) (by decide +kernel)
set_option maxRecDepth 20000 in
theorem gX7_set_X7_isSetting : GoodIn wsX7_set (va_wsS RX7 200 yX7_isSetting wsX7_isSetting) := goodIn_app (goodIn_of _ (by decide +kernel)) ggX7_set_X7_isSetting
set_option maxRecDepth 20000 in
theorem ggX7_set_X7_canSet_p0 : GoodIn wsX7_set [.code yX7_canSet cX7_canSet 4 (some .boolean)] := goodIn_r _ [15] (by decide +kernel) (by decide +kernel)
theorem ggX7_set_X7_canSet_p1 : GoodIn wsX7_set [.fieldLink RX7 32 "RuledStrokesModel" "one" "[I", .methodLink RX7 75 yX7_signature, .static yX7_signature, .initialized RX7, .code yX7_signature cX7_signature 8 (some .int), .methodLink RX7 57 yX7_next, .static yX7_next, .code yX7_next cX7_next 3 (some .int), .methodLink RX7 61 yX7_cross, .static yX7_cross, .code yX7_cross cX7_cross 13 (some .int), .methodLink RX7 49 yX7_size, .static yX7_size, .code yX7_size cX7_size 1 (some .int), .methodLink RX7 53 yX7_ahead, .static yX7_ahead, .code yX7_ahead cX7_ahead 4 (some .int), .methodLink RX7 197 yX7_samplesFit, .instanceMethod yX7_samplesFit, .selects RX7 yX7_samplesFit yX7_samplesFit, .code yX7_samplesFit cX7_samplesFit 5 (some .boolean), .methodLink RX7 79 yX7_at, .static yX7_at, .code yX7_at cX7_at 1 (some .int)] := goodIn_r _ [16, 17, 18, 4, 19, 20, 21, 22, 23, 24, 25, 26, 27, 28, 29, 30, 31, 32, 33, 34, 35, 36, 37, 38] (by decide +kernel) (by decide +kernel)
theorem ggX7_set_X7_canSet_p2 : GoodIn wsX7_set wsX70 := goodIn_r _ [53, 54, 55, 56, 57, 58, 59, 60, 61, 62, 63, 64, 65, 66, 67, 68, 69, 70, 71] (by decide +kernel) (by decide +kernel)
theorem ggX7_set_X7_canSet : GoodIn wsX7_set wsX7_canSet := (goodIn_c2 ggX7_set_X7_canSet_p0 (goodIn_app ggX7_set_X7_canSet_p1 ggX7_set_X7_canSet_p2))
set_option maxRecDepth 20000 in
theorem gX7_set_X7_canSet : GoodIn wsX7_set (wsV RX7 203 RX7 yX7_canSet wsX7_canSet) := goodIn_app (goodIn_of _ (by decide +kernel)) ggX7_set_X7_canSet
set_option maxRecDepth 20000 in
theorem ggX7_set_X7_refused : GoodIn wsX7_set wsX7_refused := goodIn_r _ [42, 43, 53, 54, 55, 56, 57, 58, 59, 60, 61, 62, 63, 64, 65, 66, 67, 68, 69, 70, 71] (by decide +kernel) (by decide +kernel)
set_option maxRecDepth 20000 in
theorem gX7_set_X7_refused : GoodIn wsX7_set (wsV RX7 102 RX7 yX7_refused wsX7_refused) := goodIn_app (goodIn_of _ (by decide +kernel)) ggX7_set_X7_refused
set_option maxRecDepth 20000 in
theorem ggX7_set_X7_remember : GoodIn wsX7_set wsX7_remember := goodIn_r _ [47, 48, 49, 1, 50, 51, 4, 52, 53, 54, 55, 56, 57, 58, 59, 60, 61, 62, 63, 64, 65, 66, 67, 68, 69, 70, 71] (by decide +kernel) (by decide +kernel)
set_option maxRecDepth 20000 in
theorem gX7_set_X7_remember : GoodIn wsX7_set (wsV RX7 173 RX7 yX7_remember wsX7_remember) := goodIn_app (goodIn_of _ (by decide +kernel)) ggX7_set_X7_remember
theorem dX7_set_0 : decode cX7_set 0 = .ok (.aload_n 0, 1) := by decide +kernel
theorem dX7_set_1 : decode cX7_set 1 = .ok (.iload_n 1, 1) := by decide +kernel
theorem dX7_set_2 : decode cX7_set 2 = .ok (.iload_n 2, 1) := by decide +kernel
theorem dX7_set_3 : decode cX7_set 3 = .ok (.invokestatic 200, 3) := by decide +kernel
theorem dX7_set_6 : decode cX7_set 6 = .ok (.ifCond .ne 7, 3) := by decide +kernel
theorem dX7_set_9 : decode cX7_set 9 = .ok (.iconst 1, 1) := by decide +kernel
theorem dX7_set_10 : decode cX7_set 10 = .ok (.goto 21, 3) := by decide +kernel
theorem dX7_set_13 : decode cX7_set 13 = .ok (.aload_n 0, 1) := by decide +kernel
theorem dX7_set_14 : decode cX7_set 14 = .ok (.aload_n 0, 1) := by decide +kernel
theorem dX7_set_15 : decode cX7_set 15 = .ok (.getfield 13, 3) := by decide +kernel
theorem dX7_set_18 : decode cX7_set 18 = .ok (.iload_n 1, 1) := by decide +kernel
theorem dX7_set_19 : decode cX7_set 19 = .ok (.iload_n 2, 1) := by decide +kernel
theorem dX7_set_20 : decode cX7_set 20 = .ok (.invokevirtual 203, 3) := by decide +kernel
theorem dX7_set_23 : decode cX7_set 23 = .ok (.ifCond .eq 7, 3) := by decide +kernel
theorem dX7_set_26 : decode cX7_set 26 = .ok (.iconst 0, 1) := by decide +kernel
theorem dX7_set_27 : decode cX7_set 27 = .ok (.goto 4, 3) := by decide +kernel
theorem dX7_set_30 : decode cX7_set 30 = .ok (.iconst 2, 1) := by decide +kernel
theorem dX7_set_31 : decode cX7_set 31 = .ok (.invokevirtual 102, 3) := by decide +kernel
theorem dX7_set_34 : decode cX7_set 34 = .ok (.ifCond .eq 5, 3) := by decide +kernel
theorem dX7_set_37 : decode cX7_set 37 = .ok (.iconst 0, 1) := by decide +kernel
theorem dX7_set_38 : decode cX7_set 38 = .ok (.ireturn, 1) := by decide +kernel
theorem dX7_set_39 : decode cX7_set 39 = .ok (.aload_n 0, 1) := by decide +kernel
theorem dX7_set_40 : decode cX7_set 40 = .ok (.invokevirtual 173, 3) := by decide +kernel
theorem dX7_set_43 : decode cX7_set 43 = .ok (.aload_n 0, 1) := by decide +kernel
theorem dX7_set_44 : decode cX7_set 44 = .ok (.getfield 13, 3) := by decide +kernel
theorem dX7_set_47 : decode cX7_set 47 = .ok (.bipush 77, 2) := by decide +kernel
theorem dX7_set_49 : decode cX7_set 49 = .ok (.iload_n 1, 1) := by decide +kernel
theorem dX7_set_50 : decode cX7_set 50 = .ok (.iadd, 1) := by decide +kernel
theorem dX7_set_51 : decode cX7_set 51 = .ok (.iaload, 1) := by decide +kernel
theorem dX7_set_52 : decode cX7_set 52 = .ok (.istore_n 3, 1) := by decide +kernel
theorem dX7_set_53 : decode cX7_set 53 = .ok (.aload_n 0, 1) := by decide +kernel
theorem dX7_set_54 : decode cX7_set 54 = .ok (.getfield 13, 3) := by decide +kernel
theorem dX7_set_57 : decode cX7_set 57 = .ok (.bipush 77, 2) := by decide +kernel
theorem dX7_set_59 : decode cX7_set 59 = .ok (.iload_n 1, 1) := by decide +kernel
theorem dX7_set_60 : decode cX7_set 60 = .ok (.iadd, 1) := by decide +kernel
theorem dX7_set_61 : decode cX7_set 61 = .ok (.iload_n 2, 1) := by decide +kernel
theorem dX7_set_62 : decode cX7_set 62 = .ok (.iastore, 1) := by decide +kernel
theorem dX7_set_63 : decode cX7_set 63 = .ok (.iload_n 3, 1) := by decide +kernel
theorem dX7_set_64 : decode cX7_set 64 = .ok (.ireturn, 1) := by decide +kernel
set_option maxRecDepth 20000 in
theorem ggX7_undo_X7_refused : GoodIn wsX7_undo wsX7_refused := goodIn_r _ [8, 9, 13, 14, 15, 16, 17, 18, 19, 20, 21, 22, 23, 24, 25, 26, 27, 28, 29, 30, 31] (by decide +kernel) (by decide +kernel)
set_option maxRecDepth 20000 in
theorem gX7_undo_X7_refused : GoodIn wsX7_undo (wsV RX7 102 RX7 yX7_refused wsX7_refused) := goodIn_app (goodIn_of _ (by decide +kernel)) ggX7_undo_X7_refused
set_option maxRecDepth 20000 in
theorem ggX7_undo_X7_copyState : GoodIn wsX7_undo wsX7_copyState := goodIn_r _ [12] (by decide +kernel) (by decide +kernel)
set_option maxRecDepth 20000 in
theorem gX7_undo_X7_copyState : GoodIn wsX7_undo (va_wsS RX7 159 yX7_copyState wsX7_copyState) := goodIn_app (goodIn_of _ (by decide +kernel)) ggX7_undo_X7_copyState
theorem dX7_undo_0 : decode cX7_undo 0 = .ok (.aload_n 0, 1) := by decide +kernel
theorem dX7_undo_1 : decode cX7_undo 1 = .ok (.aload_n 0, 1) := by decide +kernel
theorem dX7_undo_2 : decode cX7_undo 2 = .ok (.getfield 156, 3) := by decide +kernel
theorem dX7_undo_5 : decode cX7_undo 5 = .ok (.ifCond .ne 7, 3) := by decide +kernel
theorem dX7_undo_8 : decode cX7_undo 8 = .ok (.iconst 1, 1) := by decide +kernel
theorem dX7_undo_9 : decode cX7_undo 9 = .ok (.goto 4, 3) := by decide +kernel
theorem dX7_undo_12 : decode cX7_undo 12 = .ok (.iconst 0, 1) := by decide +kernel
theorem dX7_undo_13 : decode cX7_undo 13 = .ok (.invokevirtual 102, 3) := by decide +kernel
theorem dX7_undo_16 : decode cX7_undo 16 = .ok (.ifCond .eq 5, 3) := by decide +kernel
theorem dX7_undo_19 : decode cX7_undo 19 = .ok (.iconst 0, 1) := by decide +kernel
theorem dX7_undo_20 : decode cX7_undo 20 = .ok (.ireturn, 1) := by decide +kernel
theorem dX7_undo_21 : decode cX7_undo 21 = .ok (.aload_n 0, 1) := by decide +kernel
theorem dX7_undo_22 : decode cX7_undo 22 = .ok (.dup, 1) := by decide +kernel
theorem dX7_undo_23 : decode cX7_undo 23 = .ok (.getfield 156, 3) := by decide +kernel
