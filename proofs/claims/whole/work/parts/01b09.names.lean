theorem dX7_practiseOn_5 : decode cX7_practiseOn 5 = .ok (.invokevirtual 185, 3) := by decide +kernel
theorem dX7_practiseOn_8 : decode cX7_practiseOn 8 = .ok (.aload_n 0, 1) := by decide +kernel
theorem dX7_practiseOn_9 : decode cX7_practiseOn 9 = .ok (.getfield 95, 3) := by decide +kernel
theorem dX7_practiseOn_12 : decode cX7_practiseOn 12 = .ok (.ifCond .le 7, 3) := by decide +kernel
theorem dX7_practiseOn_15 : decode cX7_practiseOn 15 = .ok (.iconst 1, 1) := by decide +kernel
theorem dX7_practiseOn_16 : decode cX7_practiseOn 16 = .ok (.goto 20, 3) := by decide +kernel
theorem dX7_practiseOn_19 : decode cX7_practiseOn 19 = .ok (.aload_n 1, 1) := by decide +kernel
theorem dX7_practiseOn_20 : decode cX7_practiseOn 20 = .ok (.aload_n 0, 1) := by decide +kernel
theorem dX7_practiseOn_21 : decode cX7_practiseOn 21 = .ok (.getfield 85, 3) := by decide +kernel
theorem dX7_practiseOn_24 : decode cX7_practiseOn 24 = .ok (.invokestatic 146, 3) := by decide +kernel
theorem dX7_practiseOn_27 : decode cX7_practiseOn 27 = .ok (.iload_n 2, 1) := by decide +kernel
theorem dX7_practiseOn_28 : decode cX7_practiseOn 28 = .ok (.if_icmp .ne 7, 3) := by decide +kernel
theorem dX7_practiseOn_31 : decode cX7_practiseOn 31 = .ok (.iconst 0, 1) := by decide +kernel
theorem dX7_practiseOn_32 : decode cX7_practiseOn 32 = .ok (.goto 4, 3) := by decide +kernel
theorem dX7_practiseOn_35 : decode cX7_practiseOn 35 = .ok (.iconst 2, 1) := by decide +kernel
theorem dX7_practiseOn_36 : decode cX7_practiseOn 36 = .ok (.istore_n 3, 1) := by decide +kernel
theorem dX7_practiseOn_37 : decode cX7_practiseOn 37 = .ok (.aload_n 1, 1) := by decide +kernel
theorem dX7_practiseOn_38 : decode cX7_practiseOn 38 = .ok (.bipush 80, 2) := by decide +kernel
theorem dX7_practiseOn_40 : decode cX7_practiseOn 40 = .ok (.bipush 10, 2) := by decide +kernel
theorem dX7_practiseOn_42 : decode cX7_practiseOn 42 = .ok (.iload_n 3, 1) := by decide +kernel
theorem dX7_practiseOn_43 : decode cX7_practiseOn 43 = .ok (.imul, 1) := by decide +kernel
theorem dX7_practiseOn_44 : decode cX7_practiseOn 44 = .ok (.iadd, 1) := by decide +kernel
theorem dX7_practiseOn_45 : decode cX7_practiseOn 45 = .ok (.iload_n 2, 1) := by decide +kernel
theorem dX7_practiseOn_46 : decode cX7_practiseOn 46 = .ok (.iadd, 1) := by decide +kernel
theorem dX7_practiseOn_47 : decode cX7_practiseOn 47 = .ok (.dup2, 1) := by decide +kernel
theorem dX7_practiseOn_48 : decode cX7_practiseOn 48 = .ok (.iaload, 1) := by decide +kernel
theorem dX7_practiseOn_49 : decode cX7_practiseOn 49 = .ok (.iconst 1, 1) := by decide +kernel
theorem dX7_practiseOn_50 : decode cX7_practiseOn 50 = .ok (.iadd, 1) := by decide +kernel
theorem dX7_practiseOn_51 : decode cX7_practiseOn 51 = .ok (.iastore, 1) := by decide +kernel
theorem dX7_practiseOn_52 : decode cX7_practiseOn 52 = .ok (.aload_n 1, 1) := by decide +kernel
theorem dX7_practiseOn_53 : decode cX7_practiseOn 53 = .ok (.iconst 0, 1) := by decide +kernel
theorem dX7_practiseOn_54 : decode cX7_practiseOn 54 = .ok (.invokestatic 120, 3) := by decide +kernel
theorem dX7_practiseOn_57 : decode cX7_practiseOn 57 = .ok (.aload_n 1, 1) := by decide +kernel
theorem dX7_practiseOn_58 : decode cX7_practiseOn 58 = .ok (.bipush 76, 2) := by decide +kernel
theorem dX7_practiseOn_60 : decode cX7_practiseOn 60 = .ok (.iconst 0, 1) := by decide +kernel
theorem dX7_practiseOn_61 : decode cX7_practiseOn 61 = .ok (.iastore, 1) := by decide +kernel
theorem dX7_practiseOn_62 : decode cX7_practiseOn 62 = .ok (.iload_n 3, 1) := by decide +kernel
theorem dX7_practiseOn_63 : decode cX7_practiseOn 63 = .ok (.ireturn, 1) := by decide +kernel
set_option maxRecDepth 20000 in
theorem ggX7_practise_X7_isName : GoodIn wsX7_practise wsX7_isName := goodIn_r _ [5, 6, 7, 8, 4, 9] (by decide +kernel) (by decide +kernel)
set_option maxRecDepth 20000 in
theorem gX7_practise_X7_isName : GoodIn wsX7_practise (va_wsS RX7 151 yX7_isName wsX7_isName) := goodIn_app (goodIn_of _ (by decide +kernel)) ggX7_practise_X7_isName
set_option maxRecDepth 20000 in
theorem ggX7_practise_X7_refused : GoodIn wsX7_practise wsX7_refused := goodIn_r _ [13, 14, 79, 80, 81, 82, 83, 84, 85, 86, 87, 88, 89, 90, 91, 92, 93, 94, 95, 96, 97] (by decide +kernel) (by decide +kernel)
set_option maxRecDepth 20000 in
theorem gX7_practise_X7_refused : GoodIn wsX7_practise (wsV RX7 102 RX7 yX7_refused wsX7_refused) := goodIn_app (goodIn_of _ (by decide +kernel)) ggX7_practise_X7_refused
set_option maxRecDepth 20000 in
theorem ggX7_practise_X7_remember : GoodIn wsX7_practise wsX7_remember := goodIn_r _ [18, 19, 20, 1, 21, 22, 4, 23, 79, 80, 81, 82, 83, 84, 85, 86, 87, 88, 89, 90, 91, 92, 93, 94, 95, 96, 97] (by decide +kernel) (by decide +kernel)
set_option maxRecDepth 20000 in
theorem gX7_practise_X7_remember : GoodIn wsX7_practise (wsV RX7 173 RX7 yX7_remember wsX7_remember) := goodIn_app (goodIn_of _ (by decide +kernel)) ggX7_practise_X7_remember
set_option maxRecDepth 20000 in
theorem ggX7_practise_X7_practiseOn : GoodIn wsX7_practise wsX7_practiseOn := goodIn_r _ [27, 28, 29, 30, 31, 32, 4, 33, 34, 35, 36, 37, 38, 39, 40, 41, 42, 43, 44, 45, 46, 47, 48, 49, 50, 51, 52, 53, 54, 55, 56, 57, 58, 59, 60, 61, 62, 63, 64, 65, 66, 67, 68, 69, 70, 71, 72, 73, 74, 75, 76, 77, 78, 79, 80, 81, 82, 83, 84, 85, 86, 87, 88, 89, 90, 91, 92, 93, 94, 95, 96, 97] (by decide +kernel) (by decide +kernel)
set_option maxRecDepth 20000 in
theorem gX7_practise_X7_practiseOn : GoodIn wsX7_practise (wsV RX7 188 RX7 yX7_practiseOn wsX7_practiseOn) := goodIn_app (goodIn_of _ (by decide +kernel)) ggX7_practise_X7_practiseOn
theorem dX7_practise_0 : decode cX7_practise 0 = .ok (.aload_n 0, 1) := by decide +kernel
theorem dX7_practise_1 : decode cX7_practise 1 = .ok (.iload_n 1, 1) := by decide +kernel
theorem dX7_practise_2 : decode cX7_practise 2 = .ok (.invokestatic 151, 3) := by decide +kernel
theorem dX7_practise_5 : decode cX7_practise 5 = .ok (.ifCond .ne 7, 3) := by decide +kernel
theorem dX7_practise_8 : decode cX7_practise 8 = .ok (.iconst 1, 1) := by decide +kernel
theorem dX7_practise_9 : decode cX7_practise 9 = .ok (.goto 17, 3) := by decide +kernel
theorem dX7_practise_12 : decode cX7_practise 12 = .ok (.aload_n 0, 1) := by decide +kernel
theorem dX7_practise_13 : decode cX7_practise 13 = .ok (.getfield 13, 3) := by decide +kernel
theorem dX7_practise_16 : decode cX7_practise 16 = .ok (.iconst 0, 1) := by decide +kernel
theorem dX7_practise_17 : decode cX7_practise 17 = .ok (.iaload, 1) := by decide +kernel
theorem dX7_practise_18 : decode cX7_practise 18 = .ok (.ifCond .ne 7, 3) := by decide +kernel
theorem dX7_practise_21 : decode cX7_practise 21 = .ok (.iconst 2, 1) := by decide +kernel
theorem dX7_practise_22 : decode cX7_practise 22 = .ok (.goto 4, 3) := by decide +kernel
theorem dX7_practise_25 : decode cX7_practise 25 = .ok (.iconst 0, 1) := by decide +kernel
theorem dX7_practise_26 : decode cX7_practise 26 = .ok (.invokevirtual 102, 3) := by decide +kernel
theorem dX7_practise_29 : decode cX7_practise 29 = .ok (.ifCond .eq 5, 3) := by decide +kernel
theorem dX7_practise_32 : decode cX7_practise 32 = .ok (.iconst 0, 1) := by decide +kernel
theorem dX7_practise_33 : decode cX7_practise 33 = .ok (.ireturn, 1) := by decide +kernel
theorem dX7_practise_34 : decode cX7_practise 34 = .ok (.aload_n 0, 1) := by decide +kernel
theorem dX7_practise_35 : decode cX7_practise 35 = .ok (.invokevirtual 173, 3) := by decide +kernel
theorem dX7_practise_38 : decode cX7_practise 38 = .ok (.aload_n 0, 1) := by decide +kernel
theorem dX7_practise_39 : decode cX7_practise 39 = .ok (.aload_n 0, 1) := by decide +kernel
theorem dX7_practise_40 : decode cX7_practise 40 = .ok (.getfield 13, 3) := by decide +kernel
theorem dX7_practise_43 : decode cX7_practise 43 = .ok (.iload_n 1, 1) := by decide +kernel
theorem dX7_practise_44 : decode cX7_practise 44 = .ok (.invokevirtual 188, 3) := by decide +kernel
theorem dX7_practise_47 : decode cX7_practise 47 = .ok (.ireturn, 1) := by decide +kernel
set_option maxRecDepth 20000 in
theorem ggX7_isSetting_X7_in : GoodIn wsX7_isSetting wsX7_in := goodIn_r _ [7] (by decide +kernel) (by decide +kernel)
set_option maxRecDepth 20000 in
theorem gX7_isSetting_X7_in : GoodIn wsX7_isSetting (va_wsS RX7 45 yX7_in wsX7_in) := goodIn_app (goodIn_of _ (by decide +kernel)) ggX7_isSetting_X7_in
theorem dX7_isSetting_0 : decode cX7_isSetting 0 = .ok (.iload_n 0, 1) := by decide +kernel
theorem dX7_isSetting_1 : decode cX7_isSetting 1 = .ok (.ifCond .ne 17, 3) := by decide +kernel
theorem dX7_isSetting_4 : decode cX7_isSetting 4 = .ok (.iload_n 1, 1) := by decide +kernel
theorem dX7_isSetting_5 : decode cX7_isSetting 5 = .ok (.i2l, 1) := by decide +kernel
theorem dX7_isSetting_6 : decode cX7_isSetting 6 = .ok (.ldc2_w 191, 3) := by decide +kernel
theorem dX7_isSetting_9 : decode cX7_isSetting 9 = .ok (.ldc2_w 193, 3) := by decide +kernel
theorem dX7_isSetting_12 : decode cX7_isSetting 12 = .ok (.invokestatic 45, 3) := by decide +kernel
theorem dX7_isSetting_15 : decode cX7_isSetting 15 = .ok (.ifCond .ne 37, 3) := by decide +kernel
theorem dX7_isSetting_18 : decode cX7_isSetting 18 = .ok (.iload_n 0, 1) := by decide +kernel
theorem dX7_isSetting_19 : decode cX7_isSetting 19 = .ok (.iconst 1, 1) := by decide +kernel
theorem dX7_isSetting_20 : decode cX7_isSetting 20 = .ok (.if_icmp .ne 15, 3) := by decide +kernel
theorem dX7_isSetting_23 : decode cX7_isSetting 23 = .ok (.iload_n 1, 1) := by decide +kernel
theorem dX7_isSetting_24 : decode cX7_isSetting 24 = .ok (.i2l, 1) := by decide +kernel
theorem dX7_isSetting_25 : decode cX7_isSetting 25 = .ok (.lconst 0, 1) := by decide +kernel
theorem dX7_isSetting_26 : decode cX7_isSetting 26 = .ok (.ldc2_w 195, 3) := by decide +kernel
theorem dX7_isSetting_29 : decode cX7_isSetting 29 = .ok (.invokestatic 45, 3) := by decide +kernel
theorem dX7_isSetting_32 : decode cX7_isSetting 32 = .ok (.ifCond .ne 20, 3) := by decide +kernel
theorem dX7_isSetting_35 : decode cX7_isSetting 35 = .ok (.iload_n 0, 1) := by decide +kernel
theorem dX7_isSetting_36 : decode cX7_isSetting 36 = .ok (.iconst 2, 1) := by decide +kernel
theorem dX7_isSetting_37 : decode cX7_isSetting 37 = .ok (.if_icmp .ne 19, 3) := by decide +kernel
theorem dX7_isSetting_40 : decode cX7_isSetting 40 = .ok (.iload_n 1, 1) := by decide +kernel
theorem dX7_isSetting_41 : decode cX7_isSetting 41 = .ok (.i2l, 1) := by decide +kernel
theorem dX7_isSetting_42 : decode cX7_isSetting 42 = .ok (.lconst 1, 1) := by decide +kernel
theorem dX7_isSetting_43 : decode cX7_isSetting 43 = .ok (.ldc2_w 193, 3) := by decide +kernel
theorem dX7_isSetting_46 : decode cX7_isSetting 46 = .ok (.invokestatic 45, 3) := by decide +kernel
theorem dX7_isSetting_49 : decode cX7_isSetting 49 = .ok (.ifCond .eq 7, 3) := by decide +kernel
theorem dX7_isSetting_52 : decode cX7_isSetting 52 = .ok (.iconst 1, 1) := by decide +kernel
theorem dX7_isSetting_53 : decode cX7_isSetting 53 = .ok (.goto 4, 3) := by decide +kernel
theorem dX7_isSetting_56 : decode cX7_isSetting 56 = .ok (.iconst 0, 1) := by decide +kernel
theorem dX7_isSetting_57 : decode cX7_isSetting 57 = .ok (.ireturn, 1) := by decide +kernel
set_option maxRecDepth 20000 in
theorem ggX7_samplesFit_X7_at : GoodIn wsX7_samplesFit wsX7_at := goodIn_r _ [5] (by decide +kernel) (by decide +kernel)
set_option maxRecDepth 20000 in
theorem gX7_samplesFit_X7_at : GoodIn wsX7_samplesFit (va_wsS RX7 79 yX7_at wsX7_at) := goodIn_app (goodIn_of _ (by decide +kernel)) ggX7_samplesFit_X7_at
set_option maxRecDepth 20000 in
theorem ggX7_samplesFit_X7_signature : GoodIn wsX7_samplesFit wsX7_signature := goodIn_r _ [8, 9, 10, 4, 11, 12, 13, 14, 15, 16, 17, 18, 19, 20] (by decide +kernel) (by decide +kernel)
set_option maxRecDepth 20000 in
theorem gX7_samplesFit_X7_signature : GoodIn wsX7_samplesFit (va_wsS RX7 75 yX7_signature wsX7_signature) := goodIn_app (goodIn_of _ (by decide +kernel)) ggX7_samplesFit_X7_signature
theorem dX7_samplesFit_0 : decode cX7_samplesFit 0 = .ok (.iconst 1, 1) := by decide +kernel
theorem dX7_samplesFit_1 : decode cX7_samplesFit 1 = .ok (.istore_n 3, 1) := by decide +kernel
theorem dX7_samplesFit_2 : decode cX7_samplesFit 2 = .ok (.iconst 0, 1) := by decide +kernel
theorem dX7_samplesFit_3 : decode cX7_samplesFit 3 = .ok (.istore 4, 2) := by decide +kernel
theorem dX7_samplesFit_5 : decode cX7_samplesFit 5 = .ok (.iload 4, 2) := by decide +kernel
theorem dX7_samplesFit_7 : decode cX7_samplesFit 7 = .ok (.aload_n 1, 1) := by decide +kernel
theorem dX7_samplesFit_8 : decode cX7_samplesFit 8 = .ok (.bipush 110, 2) := by decide +kernel
theorem dX7_samplesFit_10 : decode cX7_samplesFit 10 = .ok (.iaload, 1) := by decide +kernel
theorem dX7_samplesFit_11 : decode cX7_samplesFit 11 = .ok (.if_icmp .ge 38, 3) := by decide +kernel
theorem dX7_samplesFit_14 : decode cX7_samplesFit 14 = .ok (.iload_n 3, 1) := by decide +kernel
theorem dX7_samplesFit_15 : decode cX7_samplesFit 15 = .ok (.ifCond .eq 34, 3) := by decide +kernel
theorem dX7_samplesFit_18 : decode cX7_samplesFit 18 = .ok (.aload_n 1, 1) := by decide +kernel
theorem dX7_samplesFit_19 : decode cX7_samplesFit 19 = .ok (.iload 4, 2) := by decide +kernel
theorem dX7_samplesFit_21 : decode cX7_samplesFit 21 = .ok (.invokestatic 79, 3) := by decide +kernel
theorem dX7_samplesFit_24 : decode cX7_samplesFit 24 = .ok (.iload_n 2, 1) := by decide +kernel
theorem dX7_samplesFit_25 : decode cX7_samplesFit 25 = .ok (.aload_n 0, 1) := by decide +kernel
theorem dX7_samplesFit_26 : decode cX7_samplesFit 26 = .ok (.getfield 32, 3) := by decide +kernel
theorem dX7_samplesFit_29 : decode cX7_samplesFit 29 = .ok (.invokestatic 75, 3) := by decide +kernel
theorem dX7_samplesFit_32 : decode cX7_samplesFit 32 = .ok (.bipush 40, 2) := by decide +kernel
theorem dX7_samplesFit_34 : decode cX7_samplesFit 34 = .ok (.if_icmp .gt 7, 3) := by decide +kernel
theorem dX7_samplesFit_37 : decode cX7_samplesFit 37 = .ok (.iconst 1, 1) := by decide +kernel
theorem dX7_samplesFit_38 : decode cX7_samplesFit 38 = .ok (.goto 4, 3) := by decide +kernel
theorem dX7_samplesFit_41 : decode cX7_samplesFit 41 = .ok (.iconst 0, 1) := by decide +kernel
theorem dX7_samplesFit_42 : decode cX7_samplesFit 42 = .ok (.istore_n 3, 1) := by decide +kernel
theorem dX7_samplesFit_43 : decode cX7_samplesFit 43 = .ok (.iinc 4 1, 3) := by decide +kernel
theorem dX7_samplesFit_46 : decode cX7_samplesFit 46 = .ok (.goto (-41), 3) := by decide +kernel
theorem dX7_samplesFit_49 : decode cX7_samplesFit 49 = .ok (.iload_n 3, 1) := by decide +kernel
theorem dX7_samplesFit_50 : decode cX7_samplesFit 50 = .ok (.ireturn, 1) := by decide +kernel
set_option maxRecDepth 20000 in
theorem ggX7_canSet_X7_signature : GoodIn wsX7_canSet wsX7_signature := goodIn_r _ [5, 6, 7, 4, 8, 9, 10, 11, 12, 13, 14, 15, 16, 17] (by decide +kernel) (by decide +kernel)
set_option maxRecDepth 20000 in
theorem gX7_canSet_X7_signature : GoodIn wsX7_canSet (va_wsS RX7 75 yX7_signature wsX7_signature) := goodIn_app (goodIn_of _ (by decide +kernel)) ggX7_canSet_X7_signature
set_option maxRecDepth 20000 in
theorem ggX7_canSet_X7_samplesFit : GoodIn wsX7_canSet wsX7_samplesFit := goodIn_r _ [21, 1, 22, 23, 4, 24, 2, 3, 5, 6, 7, 8, 9, 10, 11, 12, 13, 14, 15, 16, 17, 25, 26, 27, 28, 29, 30, 31, 32, 33, 34, 35, 36, 37, 38, 39, 40, 41, 42, 43] (by decide +kernel) (by decide +kernel)
set_option maxRecDepth 20000 in
theorem gX7_canSet_X7_samplesFit : GoodIn wsX7_canSet (wsV RX7 197 RX7 yX7_samplesFit wsX7_samplesFit) := goodIn_app (goodIn_of _ (by decide +kernel)) ggX7_canSet_X7_samplesFit
theorem dX7_canSet_0 : decode cX7_canSet 0 = .ok (.iload_n 2, 1) := by decide +kernel
theorem dX7_canSet_1 : decode cX7_canSet 1 = .ok (.ifCond .gt 27, 3) := by decide +kernel
theorem dX7_canSet_4 : decode cX7_canSet 4 = .ok (.aload_n 1, 1) := by decide +kernel
theorem dX7_canSet_5 : decode cX7_canSet 5 = .ok (.iconst 0, 1) := by decide +kernel
theorem dX7_canSet_6 : decode cX7_canSet 6 = .ok (.iload_n 3, 1) := by decide +kernel
theorem dX7_canSet_7 : decode cX7_canSet 7 = .ok (.aload_n 0, 1) := by decide +kernel
theorem dX7_canSet_8 : decode cX7_canSet 8 = .ok (.getfield 32, 3) := by decide +kernel
theorem dX7_canSet_11 : decode cX7_canSet 11 = .ok (.invokestatic 75, 3) := by decide +kernel
theorem dX7_canSet_14 : decode cX7_canSet 14 = .ok (.bipush 40, 2) := by decide +kernel
theorem dX7_canSet_16 : decode cX7_canSet 16 = .ok (.if_icmp .gt 16, 3) := by decide +kernel
theorem dX7_canSet_19 : decode cX7_canSet 19 = .ok (.aload_n 0, 1) := by decide +kernel
theorem dX7_canSet_20 : decode cX7_canSet 20 = .ok (.aload_n 1, 1) := by decide +kernel
theorem dX7_canSet_21 : decode cX7_canSet 21 = .ok (.iload_n 3, 1) := by decide +kernel
theorem dX7_canSet_22 : decode cX7_canSet 22 = .ok (.invokevirtual 197, 3) := by decide +kernel
theorem dX7_canSet_25 : decode cX7_canSet 25 = .ok (.ifCond .eq 7, 3) := by decide +kernel
theorem dX7_canSet_28 : decode cX7_canSet 28 = .ok (.iconst 1, 1) := by decide +kernel
theorem dX7_canSet_29 : decode cX7_canSet 29 = .ok (.goto 4, 3) := by decide +kernel
theorem dX7_canSet_32 : decode cX7_canSet 32 = .ok (.iconst 0, 1) := by decide +kernel
theorem dX7_canSet_33 : decode cX7_canSet 33 = .ok (.ireturn, 1) := by decide +kernel
set_option maxRecDepth 20000 in
theorem ggX7_set_X7_isSetting : GoodIn wsX7_set wsX7_isSetting := goodIn_r _ [5, 6, 7, 8, 9, 10, 4, 11] (by decide +kernel) (by decide +kernel)
set_option maxRecDepth 20000 in
theorem gX7_set_X7_isSetting : GoodIn wsX7_set (va_wsS RX7 200 yX7_isSetting wsX7_isSetting) := goodIn_app (goodIn_of _ (by decide +kernel)) ggX7_set_X7_isSetting
set_option maxRecDepth 20000 in
theorem ggX7_set_X7_canSet : GoodIn wsX7_set wsX7_canSet := goodIn_r _ [15, 16, 17, 18, 4, 19, 20, 21, 22, 23, 24, 25, 26, 27, 28, 29, 30, 31, 32, 33, 34, 35, 36, 37, 38, 53, 54, 55, 56, 57, 58, 59, 60, 61, 62, 63, 64, 65, 66, 67, 68, 69, 70, 71] (by decide +kernel) (by decide +kernel)
set_option maxRecDepth 20000 in
theorem gX7_set_X7_canSet : GoodIn wsX7_set (wsV RX7 203 RX7 yX7_canSet wsX7_canSet) := goodIn_app (goodIn_of _ (by decide +kernel)) ggX7_set_X7_canSet
set_option maxRecDepth 20000 in
theorem ggX7_set_X7_refused : GoodIn wsX7_set wsX7_refused := goodIn_r _ [42, 43, 53, 54, 55, 56, 57, 58, 59, 60, 61, 62, 63, 64, 65, 66, 67, 68, 69, 70, 71] (by decide +kernel) (by decide +kernel)
set_option maxRecDepth 20000 in
theorem gX7_set_X7_refused : GoodIn wsX7_set (wsV RX7 102 RX7 yX7_refused wsX7_refused) := goodIn_app (goodIn_of _ (by decide +kernel)) ggX7_set_X7_refused
set_option maxRecDepth 20000 in
theorem ggX7_set_X7_remember : GoodIn wsX7_set wsX7_remember := goodIn_r _ [47, 48, 49, 1, 50, 51, 4, 52, 53, 54, 55, 56, 57, 58, 59, 60, 61, 62, 63, 64, 65, 66, 67, 68, 69, 70, 71] (by decide +kernel) (by decide +kernel)
set_option maxRecDepth 20000 in
theorem gX7_set_X7_remember : GoodIn wsX7_set (wsV RX7 173 RX7 yX7_remember wsX7_remember) := goodIn_app (goodIn_of _ (by decide +kernel)) ggX7_set_X7_remember
theorem dX7_set_0 : decode cX7_set 0 = .ok (.aload_n 0, 1) := by decide +kernel
theorem dX7_set_1 : decode cX7_set 1 = .ok (.iload_n 1, 1) := by decide +kernel
theorem dX7_set_2 : decode cX7_set 2 = .ok (.iload_n 2, 1) := by decide +kernel
theorem dX7_set_3 : decode cX7_set 3 = .ok (.invokestatic 200, 3) := by decide +kernel
theorem dX7_set_6 : decode cX7_set 6 = .ok (.ifCond .ne 7, 3) := by decide +kernel
theorem dX7_set_9 : decode cX7_set 9 = .ok (.iconst 1, 1) := by decide +kernel
theorem dX7_set_10 : decode cX7_set 10 = .ok (.goto 21, 3) := by decide +kernel
theorem dX7_set_13 : decode cX7_set 13 = .ok (.aload_n 0, 1) := by decide +kernel
theorem dX7_set_14 : decode cX7_set 14 = .ok (.aload_n 0, 1) := by decide +kernel
theorem dX7_set_15 : decode cX7_set 15 = .ok (.getfield 13, 3) := by decide +kernel
theorem dX7_set_18 : decode cX7_set 18 = .ok (.iload_n 1, 1) := by decide +kernel
theorem dX7_set_19 : decode cX7_set 19 = .ok (.iload_n 2, 1) := by decide +kernel
theorem dX7_set_20 : decode cX7_set 20 = .ok (.invokevirtual 203, 3) := by decide +kernel
theorem dX7_set_23 : decode cX7_set 23 = .ok (.ifCond .eq 7, 3) := by decide +kernel
theorem dX7_set_26 : decode cX7_set 26 = .ok (.iconst 0, 1) := by decide +kernel
theorem dX7_set_27 : decode cX7_set 27 = .ok (.goto 4, 3) := by decide +kernel
theorem dX7_set_30 : decode cX7_set 30 = .ok (.iconst 2, 1) := by decide +kernel
theorem dX7_set_31 : decode cX7_set 31 = .ok (.invokevirtual 102, 3) := by decide +kernel
theorem dX7_set_34 : decode cX7_set 34 = .ok (.ifCond .eq 5, 3) := by decide +kernel
theorem dX7_set_37 : decode cX7_set 37 = .ok (.iconst 0, 1) := by decide +kernel
theorem dX7_set_38 : decode cX7_set 38 = .ok (.ireturn, 1) := by decide +kernel
theorem dX7_set_39 : decode cX7_set 39 = .ok (.aload_n 0, 1) := by decide +kernel
theorem dX7_set_40 : decode cX7_set 40 = .ok (.invokevirtual 173, 3) := by decide +kernel
theorem dX7_set_43 : decode cX7_set 43 = .ok (.aload_n 0, 1) := by decide +kernel
theorem dX7_set_44 : decode cX7_set 44 = .ok (.getfield 13, 3) := by decide +kernel
theorem dX7_set_47 : decode cX7_set 47 = .ok (.bipush 77, 2) := by decide +kernel
theorem dX7_set_49 : decode cX7_set 49 = .ok (.iload_n 1, 1) := by decide +kernel
theorem dX7_set_50 : decode cX7_set 50 = .ok (.iadd, 1) := by decide +kernel
theorem dX7_set_51 : decode cX7_set 51 = .ok (.iaload, 1) := by decide +kernel
theorem dX7_set_52 : decode cX7_set 52 = .ok (.istore_n 3, 1) := by decide +kernel
theorem dX7_set_53 : decode cX7_set 53 = .ok (.aload_n 0, 1) := by decide +kernel
theorem dX7_set_54 : decode cX7_set 54 = .ok (.getfield 13, 3) := by decide +kernel
theorem dX7_set_57 : decode cX7_set 57 = .ok (.bipush 77, 2) := by decide +kernel
theorem dX7_set_59 : decode cX7_set 59 = .ok (.iload_n 1, 1) := by decide +kernel
theorem dX7_set_60 : decode cX7_set 60 = .ok (.iadd, 1) := by decide +kernel
theorem dX7_set_61 : decode cX7_set 61 = .ok (.iload_n 2, 1) := by decide +kernel
theorem dX7_set_62 : decode cX7_set 62 = .ok (.iastore, 1) := by decide +kernel
theorem dX7_set_63 : decode cX7_set 63 = .ok (.iload_n 3, 1) := by decide +kernel
theorem dX7_set_64 : decode cX7_set 64 = .ok (.ireturn, 1) := by decide +kernel
set_option maxRecDepth 20000 in
theorem ggX7_undo_X7_refused : GoodIn wsX7_undo wsX7_refused := goodIn_r _ [8, 9, 13, 14, 15, 16, 17, 18, 19, 20, 21, 22, 23, 24, 25, 26, 27, 28, 29, 30, 31] (by decide +kernel) (by decide +kernel)
set_option maxRecDepth 20000 in
theorem gX7_undo_X7_refused : GoodIn wsX7_undo (wsV RX7 102 RX7 yX7_refused wsX7_refused) := goodIn_app (goodIn_of _ (by decide +kernel)) ggX7_undo_X7_refused
set_option maxRecDepth 20000 in
theorem ggX7_undo_X7_copyState : GoodIn wsX7_undo wsX7_copyState := goodIn_r _ [12] (by decide +kernel) (by decide +kernel)
set_option maxRecDepth 20000 in
theorem gX7_undo_X7_copyState : GoodIn wsX7_undo (va_wsS RX7 159 yX7_copyState wsX7_copyState) := goodIn_app (goodIn_of _ (by decide +kernel)) ggX7_undo_X7_copyState
theorem dX7_undo_0 : decode cX7_undo 0 = .ok (.aload_n 0, 1) := by decide +kernel
theorem dX7_undo_1 : decode cX7_undo 1 = .ok (.aload_n 0, 1) := by decide +kernel
theorem dX7_undo_2 : decode cX7_undo 2 = .ok (.getfield 156, 3) := by decide +kernel
theorem dX7_undo_5 : decode cX7_undo 5 = .ok (.ifCond .ne 7, 3) := by decide +kernel
theorem dX7_undo_8 : decode cX7_undo 8 = .ok (.iconst 1, 1) := by decide +kernel
theorem dX7_undo_9 : decode cX7_undo 9 = .ok (.goto 4, 3) := by decide +kernel
theorem dX7_undo_12 : decode cX7_undo 12 = .ok (.iconst 0, 1) := by decide +kernel
theorem dX7_undo_13 : decode cX7_undo 13 = .ok (.invokevirtual 102, 3) := by decide +kernel
theorem dX7_undo_16 : decode cX7_undo 16 = .ok (.ifCond .eq 5, 3) := by decide +kernel
theorem dX7_undo_19 : decode cX7_undo 19 = .ok (.iconst 0, 1) := by decide +kernel
theorem dX7_undo_20 : decode cX7_undo 20 = .ok (.ireturn, 1) := by decide +kernel
theorem dX7_undo_21 : decode cX7_undo 21 = .ok (.aload_n 0, 1) := by decide +kernel
theorem dX7_undo_22 : decode cX7_undo 22 = .ok (.dup, 1) := by decide +kernel
theorem dX7_undo_23 : decode cX7_undo 23 = .ok (.getfield 156, 3) := by decide +kernel
theorem dX7_undo_26 : decode cX7_undo 26 = .ok (.iconst 1, 1) := by decide +kernel
theorem dX7_undo_27 : decode cX7_undo 27 = .ok (.isub, 1) := by decide +kernel
theorem dX7_undo_28 : decode cX7_undo 28 = .ok (.putfield 156, 3) := by decide +kernel
theorem dX7_undo_31 : decode cX7_undo 31 = .ok (.aload_n 0, 1) := by decide +kernel
theorem dX7_undo_32 : decode cX7_undo 32 = .ok (.getfield 19, 3) := by decide +kernel
theorem dX7_undo_35 : decode cX7_undo 35 = .ok (.sipush 1343, 3) := by decide +kernel
theorem dX7_undo_38 : decode cX7_undo 38 = .ok (.aload_n 0, 1) := by decide +kernel
theorem dX7_undo_39 : decode cX7_undo 39 = .ok (.getfield 156, 3) := by decide +kernel
theorem dX7_undo_42 : decode cX7_undo 42 = .ok (.imul, 1) := by decide +kernel
theorem dX7_undo_43 : decode cX7_undo 43 = .ok (.aload_n 0, 1) := by decide +kernel
theorem dX7_undo_44 : decode cX7_undo 44 = .ok (.getfield 13, 3) := by decide +kernel
theorem dX7_undo_47 : decode cX7_undo 47 = .ok (.iconst 0, 1) := by decide +kernel
theorem dX7_undo_48 : decode cX7_undo 48 = .ok (.invokestatic 159, 3) := by decide +kernel
theorem dX7_undo_51 : decode cX7_undo 51 = .ok (.aload_n 0, 1) := by decide +kernel
theorem dX7_undo_52 : decode cX7_undo 52 = .ok (.getfield 156, 3) := by decide +kernel
theorem dX7_undo_55 : decode cX7_undo 55 = .ok (.ireturn, 1) := by decide +kernel
set_option maxRecDepth 20000 in
theorem ggX7_read_X7_in : GoodIn wsX7_read wsX7_in := goodIn_r _ [9] (by decide +kernel) (by decide +kernel)
set_option maxRecDepth 20000 in
theorem gX7_read_X7_in : GoodIn wsX7_read (va_wsS RX7 45 yX7_in wsX7_in) := goodIn_app (goodIn_of _ (by decide +kernel)) ggX7_read_X7_in
set_option maxRecDepth 20000 in
theorem ggX7_read_X7_refused : GoodIn wsX7_read wsX7_refused := goodIn_r _ [13, 14, 60, 61, 62, 63, 64, 65, 66, 67, 68, 69, 70, 71, 72, 73, 74, 75, 76, 77, 78] (by decide +kernel) (by decide +kernel)
set_option maxRecDepth 20000 in
theorem gX7_read_X7_refused : GoodIn wsX7_read (wsV RX7 102 RX7 yX7_refused wsX7_refused) := goodIn_app (goodIn_of _ (by decide +kernel)) ggX7_read_X7_refused
set_option maxRecDepth 20000 in
theorem ggX7_read_X7_readFigure : GoodIn wsX7_read wsX7_readFigure := goodIn_r _ [18, 4, 5, 3, 19, 20, 21, 8, 22, 23, 24, 25, 26, 27, 28, 29, 30, 31, 32, 33, 34, 35, 36, 37, 38, 39, 40, 41, 42, 43, 44, 45, 46, 47, 48, 49, 50, 51, 52, 53, 54, 55, 56, 60, 61, 62, 63, 64, 65, 66, 67, 68, 69, 70, 71, 72, 73, 74, 75, 76, 77, 78] (by decide +kernel) (by decide +kernel)
set_option maxRecDepth 20000 in
theorem gX7_read_X7_readFigure : GoodIn wsX7_read (wsV RX7 185 RX7 yX7_readFigure wsX7_readFigure) := goodIn_app (goodIn_of _ (by decide +kernel)) ggX7_read_X7_readFigure
set_option maxRecDepth 20000 in
theorem ggX7_read_X7_nameOf : GoodIn wsX7_read wsX7_nameOf := goodIn_r _ [59, 40, 41, 8, 42] (by decide +kernel) (by decide +kernel)
set_option maxRecDepth 20000 in
theorem gX7_read_X7_nameOf : GoodIn wsX7_read (va_wsS RX7 146 yX7_nameOf wsX7_nameOf) := goodIn_app (goodIn_of _ (by decide +kernel)) ggX7_read_X7_nameOf
theorem dX7_read_0 : decode cX7_read 0 = .ok (.aload_n 0, 1) := by decide +kernel
theorem dX7_read_1 : decode cX7_read 1 = .ok (.iload_n 1, 1) := by decide +kernel
theorem dX7_read_2 : decode cX7_read 2 = .ok (.i2l, 1) := by decide +kernel
theorem dX7_read_3 : decode cX7_read 3 = .ok (.lconst 0, 1) := by decide +kernel
theorem dX7_read_4 : decode cX7_read 4 = .ok (.ldc2_w 144, 3) := by decide +kernel
theorem dX7_read_7 : decode cX7_read 7 = .ok (.invokestatic 45, 3) := by decide +kernel
theorem dX7_read_10 : decode cX7_read 10 = .ok (.ifCond .eq 7, 3) := by decide +kernel
theorem dX7_read_13 : decode cX7_read 13 = .ok (.iconst 0, 1) := by decide +kernel
theorem dX7_read_14 : decode cX7_read 14 = .ok (.goto 4, 3) := by decide +kernel
theorem dX7_read_17 : decode cX7_read 17 = .ok (.iconst 1, 1) := by decide +kernel
theorem dX7_read_18 : decode cX7_read 18 = .ok (.invokevirtual 102, 3) := by decide +kernel
theorem dX7_read_21 : decode cX7_read 21 = .ok (.ifCond .eq 5, 3) := by decide +kernel
theorem dX7_read_24 : decode cX7_read 24 = .ok (.iconst 0, 1) := by decide +kernel
theorem dX7_read_25 : decode cX7_read 25 = .ok (.ireturn, 1) := by decide +kernel
theorem dX7_read_26 : decode cX7_read 26 = .ok (.aload_n 0, 1) := by decide +kernel
theorem dX7_read_27 : decode cX7_read 27 = .ok (.aload_n 0, 1) := by decide +kernel
theorem dX7_read_28 : decode cX7_read 28 = .ok (.getfield 13, 3) := by decide +kernel
theorem dX7_read_31 : decode cX7_read 31 = .ok (.iconst 0, 1) := by decide +kernel
theorem dX7_read_32 : decode cX7_read 32 = .ok (.aload_n 0, 1) := by decide +kernel
theorem dX7_read_33 : decode cX7_read 33 = .ok (.getfield 13, 3) := by decide +kernel
theorem dX7_read_36 : decode cX7_read 36 = .ok (.iconst (-1), 1) := by decide +kernel
theorem dX7_read_37 : decode cX7_read 37 = .ok (.invokevirtual 185, 3) := by decide +kernel
theorem dX7_read_40 : decode cX7_read 40 = .ok (.iload_n 1, 1) := by decide +kernel
theorem dX7_read_41 : decode cX7_read 41 = .ok (.ifCond .ne 10, 3) := by decide +kernel
theorem dX7_read_44 : decode cX7_read 44 = .ok (.aload_n 0, 1) := by decide +kernel
theorem dX7_read_45 : decode cX7_read 45 = .ok (.getfield 95, 3) := by decide +kernel
theorem dX7_read_48 : decode cX7_read 48 = .ok (.goto 49, 3) := by decide +kernel
theorem dX7_read_51 : decode cX7_read 51 = .ok (.iload_n 1, 1) := by decide +kernel
theorem dX7_read_52 : decode cX7_read 52 = .ok (.iconst 1, 1) := by decide +kernel
theorem dX7_read_53 : decode cX7_read 53 = .ok (.if_icmp .ne 28, 3) := by decide +kernel
theorem dX7_read_56 : decode cX7_read 56 = .ok (.aload_n 0, 1) := by decide +kernel
theorem dX7_read_57 : decode cX7_read 57 = .ok (.getfield 95, 3) := by decide +kernel
theorem dX7_read_60 : decode cX7_read 60 = .ok (.ifCond .ne 17, 3) := by decide +kernel
theorem dX7_read_63 : decode cX7_read 63 = .ok (.aload_n 0, 1) := by decide +kernel
theorem dX7_read_64 : decode cX7_read 64 = .ok (.getfield 13, 3) := by decide +kernel
theorem dX7_read_67 : decode cX7_read 67 = .ok (.aload_n 0, 1) := by decide +kernel
theorem dX7_read_68 : decode cX7_read 68 = .ok (.getfield 85, 3) := by decide +kernel
theorem dX7_read_71 : decode cX7_read 71 = .ok (.invokestatic 146, 3) := by decide +kernel
theorem dX7_read_74 : decode cX7_read 74 = .ok (.goto 23, 3) := by decide +kernel
theorem dX7_read_77 : decode cX7_read 77 = .ok (.iconst (-1), 1) := by decide +kernel
theorem dX7_read_78 : decode cX7_read 78 = .ok (.goto 19, 3) := by decide +kernel
theorem dX7_read_81 : decode cX7_read 81 = .ok (.iload_n 1, 1) := by decide +kernel
theorem dX7_read_82 : decode cX7_read 82 = .ok (.iconst 2, 1) := by decide +kernel
theorem dX7_read_83 : decode cX7_read 83 = .ok (.if_icmp .ne 10, 3) := by decide +kernel
theorem dX7_read_86 : decode cX7_read 86 = .ok (.aload_n 0, 1) := by decide +kernel
theorem dX7_read_87 : decode cX7_read 87 = .ok (.getfield 88, 3) := by decide +kernel
theorem dX7_read_90 : decode cX7_read 90 = .ok (.goto 7, 3) := by decide +kernel
theorem dX7_read_93 : decode cX7_read 93 = .ok (.aload_n 0, 1) := by decide +kernel
theorem dX7_read_94 : decode cX7_read 94 = .ok (.getfield 85, 3) := by decide +kernel
theorem dX7_read_97 : decode cX7_read 97 = .ok (.ireturn, 1) := by decide +kernel
set_option maxRecDepth 20000 in
theorem ggX7_nearest_X7_isSample : GoodIn wsX7_nearest wsX7_isSample := goodIn_r _ [5, 6, 7, 4, 8] (by decide +kernel) (by decide +kernel)
set_option maxRecDepth 20000 in
theorem gX7_nearest_X7_isSample : GoodIn wsX7_nearest (va_wsS RX7 140 yX7_isSample wsX7_isSample) := goodIn_app (goodIn_of _ (by decide +kernel)) ggX7_nearest_X7_isSample
set_option maxRecDepth 20000 in
theorem ggX7_nearest_X7_refused : GoodIn wsX7_nearest wsX7_refused := goodIn_r _ [12, 13, 52, 53, 54, 55, 56, 57, 58, 59, 60, 61, 62, 63, 64, 65, 66, 67, 68, 69, 70] (by decide +kernel) (by decide +kernel)
set_option maxRecDepth 20000 in
theorem gX7_nearest_X7_refused : GoodIn wsX7_nearest (wsV RX7 102 RX7 yX7_refused wsX7_refused) := goodIn_app (goodIn_of _ (by decide +kernel)) ggX7_nearest_X7_refused
set_option maxRecDepth 20000 in
theorem ggX7_nearest_X7_distanceTo : GoodIn wsX7_nearest wsX7_distanceTo := goodIn_r _ [17, 18, 19, 20, 21, 4, 22, 23, 24, 25, 26, 27, 28, 29, 30, 31, 32, 33, 34, 35, 36, 37, 38, 39, 40, 41, 42, 43, 44, 45, 46, 47, 48, 49, 50, 51, 52, 53, 54, 55, 56, 57, 58, 59, 60, 61, 62, 63, 64, 65, 66, 67, 68, 69, 70] (by decide +kernel) (by decide +kernel)
set_option maxRecDepth 20000 in
theorem gX7_nearest_X7_distanceTo : GoodIn wsX7_nearest (wsV RX7 91 RX7 yX7_distanceTo wsX7_distanceTo) := goodIn_app (goodIn_of _ (by decide +kernel)) ggX7_nearest_X7_distanceTo
theorem dX7_nearest_0 : decode cX7_nearest 0 = .ok (.aload_n 0, 1) := by decide +kernel
theorem dX7_nearest_1 : decode cX7_nearest 1 = .ok (.aload_n 0, 1) := by decide +kernel
theorem dX7_nearest_2 : decode cX7_nearest 2 = .ok (.getfield 13, 3) := by decide +kernel
theorem dX7_nearest_5 : decode cX7_nearest 5 = .ok (.iload_n 1, 1) := by decide +kernel
theorem dX7_nearest_6 : decode cX7_nearest 6 = .ok (.invokestatic 140, 3) := by decide +kernel
theorem dX7_nearest_9 : decode cX7_nearest 9 = .ok (.ifCond .eq 7, 3) := by decide +kernel
theorem dX7_nearest_12 : decode cX7_nearest 12 = .ok (.iconst 0, 1) := by decide +kernel
theorem dX7_nearest_13 : decode cX7_nearest 13 = .ok (.goto 4, 3) := by decide +kernel
theorem dX7_nearest_16 : decode cX7_nearest 16 = .ok (.iconst 1, 1) := by decide +kernel
theorem dX7_nearest_17 : decode cX7_nearest 17 = .ok (.invokevirtual 102, 3) := by decide +kernel
theorem dX7_nearest_20 : decode cX7_nearest 20 = .ok (.ifCond .eq 5, 3) := by decide +kernel
theorem dX7_nearest_23 : decode cX7_nearest 23 = .ok (.iconst 0, 1) := by decide +kernel
theorem dX7_nearest_24 : decode cX7_nearest 24 = .ok (.ireturn, 1) := by decide +kernel
theorem dX7_nearest_25 : decode cX7_nearest 25 = .ok (.iconst (-1), 1) := by decide +kernel
theorem dX7_nearest_26 : decode cX7_nearest 26 = .ok (.istore_n 2, 1) := by decide +kernel
theorem dX7_nearest_27 : decode cX7_nearest 27 = .ok (.iconst 0, 1) := by decide +kernel
theorem dX7_nearest_28 : decode cX7_nearest 28 = .ok (.istore_n 3, 1) := by decide +kernel
theorem dX7_nearest_29 : decode cX7_nearest 29 = .ok (.iload_n 3, 1) := by decide +kernel
theorem dX7_nearest_30 : decode cX7_nearest 30 = .ok (.aload_n 0, 1) := by decide +kernel
theorem dX7_nearest_31 : decode cX7_nearest 31 = .ok (.getfield 13, 3) := by decide +kernel
theorem dX7_nearest_34 : decode cX7_nearest 34 = .ok (.bipush 110, 2) := by decide +kernel
theorem dX7_nearest_36 : decode cX7_nearest 36 = .ok (.iaload, 1) := by decide +kernel
theorem dX7_nearest_37 : decode cX7_nearest 37 = .ok (.if_icmp .ge 129, 3) := by decide +kernel
theorem dX7_nearest_40 : decode cX7_nearest 40 = .ok (.aload_n 0, 1) := by decide +kernel
theorem dX7_nearest_41 : decode cX7_nearest 41 = .ok (.aload_n 0, 1) := by decide +kernel
theorem dX7_nearest_42 : decode cX7_nearest 42 = .ok (.getfield 13, 3) := by decide +kernel
theorem dX7_nearest_45 : decode cX7_nearest 45 = .ok (.iconst 0, 1) := by decide +kernel
theorem dX7_nearest_46 : decode cX7_nearest 46 = .ok (.aload_n 0, 1) := by decide +kernel
theorem dX7_nearest_47 : decode cX7_nearest 47 = .ok (.getfield 13, 3) := by decide +kernel
theorem dX7_nearest_50 : decode cX7_nearest 50 = .ok (.iload_n 3, 1) := by decide +kernel
theorem dX7_nearest_51 : decode cX7_nearest 51 = .ok (.aload_n 0, 1) := by decide +kernel
theorem dX7_nearest_52 : decode cX7_nearest 52 = .ok (.getfield 13, 3) := by decide +kernel
theorem dX7_nearest_55 : decode cX7_nearest 55 = .ok (.bipush 77, 2) := by decide +kernel
theorem dX7_nearest_57 : decode cX7_nearest 57 = .ok (.iaload, 1) := by decide +kernel
theorem dX7_nearest_58 : decode cX7_nearest 58 = .ok (.invokevirtual 91, 3) := by decide +kernel
theorem dX7_nearest_61 : decode cX7_nearest 61 = .ok (.istore 4, 2) := by decide +kernel
theorem dX7_nearest_63 : decode cX7_nearest 63 = .ok (.iconst 0, 1) := by decide +kernel
theorem dX7_nearest_64 : decode cX7_nearest 64 = .ok (.istore 5, 2) := by decide +kernel
theorem dX7_nearest_66 : decode cX7_nearest 66 = .ok (.iconst 0, 1) := by decide +kernel
theorem dX7_nearest_67 : decode cX7_nearest 67 = .ok (.istore 6, 2) := by decide +kernel
theorem dX7_nearest_69 : decode cX7_nearest 69 = .ok (.iload 6, 2) := by decide +kernel
theorem dX7_nearest_71 : decode cX7_nearest 71 = .ok (.aload_n 0, 1) := by decide +kernel
theorem dX7_nearest_72 : decode cX7_nearest 72 = .ok (.getfield 13, 3) := by decide +kernel
theorem dX7_nearest_75 : decode cX7_nearest 75 = .ok (.bipush 110, 2) := by decide +kernel
theorem dX7_nearest_77 : decode cX7_nearest 77 = .ok (.iaload, 1) := by decide +kernel
theorem dX7_nearest_78 : decode cX7_nearest 78 = .ok (.if_icmp .ge 63, 3) := by decide +kernel
theorem dX7_nearest_81 : decode cX7_nearest 81 = .ok (.aload_n 0, 1) := by decide +kernel
theorem dX7_nearest_82 : decode cX7_nearest 82 = .ok (.aload_n 0, 1) := by decide +kernel
theorem dX7_nearest_83 : decode cX7_nearest 83 = .ok (.getfield 13, 3) := by decide +kernel
theorem dX7_nearest_86 : decode cX7_nearest 86 = .ok (.iconst 0, 1) := by decide +kernel
theorem dX7_nearest_87 : decode cX7_nearest 87 = .ok (.aload_n 0, 1) := by decide +kernel
theorem dX7_nearest_88 : decode cX7_nearest 88 = .ok (.getfield 13, 3) := by decide +kernel
theorem dX7_nearest_91 : decode cX7_nearest 91 = .ok (.iload 6, 2) := by decide +kernel
theorem dX7_nearest_93 : decode cX7_nearest 93 = .ok (.aload_n 0, 1) := by decide +kernel
theorem dX7_nearest_94 : decode cX7_nearest 94 = .ok (.getfield 13, 3) := by decide +kernel
theorem dX7_nearest_97 : decode cX7_nearest 97 = .ok (.bipush 77, 2) := by decide +kernel
theorem dX7_nearest_99 : decode cX7_nearest 99 = .ok (.iaload, 1) := by decide +kernel
theorem dX7_nearest_100 : decode cX7_nearest 100 = .ok (.invokevirtual 91, 3) := by decide +kernel
theorem dX7_nearest_103 : decode cX7_nearest 103 = .ok (.istore 7, 2) := by decide +kernel
theorem dX7_nearest_105 : decode cX7_nearest 105 = .ok (.iload 5, 2) := by decide +kernel
theorem dX7_nearest_107 : decode cX7_nearest 107 = .ok (.iload 7, 2) := by decide +kernel
theorem dX7_nearest_109 : decode cX7_nearest 109 = .ok (.iload 4, 2) := by decide +kernel
theorem dX7_nearest_111 : decode cX7_nearest 111 = .ok (.if_icmp .lt 16, 3) := by decide +kernel
theorem dX7_nearest_114 : decode cX7_nearest 114 = .ok (.iload 7, 2) := by decide +kernel
theorem dX7_nearest_116 : decode cX7_nearest 116 = .ok (.iload 4, 2) := by decide +kernel
theorem dX7_nearest_118 : decode cX7_nearest 118 = .ok (.if_icmp .ne 13, 3) := by decide +kernel
theorem dX7_nearest_121 : decode cX7_nearest 121 = .ok (.iload 6, 2) := by decide +kernel
theorem dX7_nearest_123 : decode cX7_nearest 123 = .ok (.iload_n 3, 1) := by decide +kernel
theorem dX7_nearest_124 : decode cX7_nearest 124 = .ok (.if_icmp .ge 7, 3) := by decide +kernel
theorem dX7_nearest_127 : decode cX7_nearest 127 = .ok (.iconst 1, 1) := by decide +kernel
theorem dX7_nearest_128 : decode cX7_nearest 128 = .ok (.goto 4, 3) := by decide +kernel
theorem dX7_nearest_131 : decode cX7_nearest 131 = .ok (.iconst 0, 1) := by decide +kernel
theorem dX7_nearest_132 : decode cX7_nearest 132 = .ok (.iadd, 1) := by decide +kernel
theorem dX7_nearest_133 : decode cX7_nearest 133 = .ok (.istore 5, 2) := by decide +kernel
theorem dX7_nearest_135 : decode cX7_nearest 135 = .ok (.iinc 6 1, 3) := by decide +kernel
theorem dX7_nearest_138 : decode cX7_nearest 138 = .ok (.goto (-69), 3) := by decide +kernel
theorem dX7_nearest_141 : decode cX7_nearest 141 = .ok (.iload 5, 2) := by decide +kernel
theorem dX7_nearest_143 : decode cX7_nearest 143 = .ok (.iload_n 1, 1) := by decide +kernel
theorem dX7_nearest_144 : decode cX7_nearest 144 = .ok (.if_icmp .ne 14, 3) := by decide +kernel
theorem dX7_nearest_147 : decode cX7_nearest 147 = .ok (.sipush 1000, 3) := by decide +kernel
theorem dX7_nearest_150 : decode cX7_nearest 150 = .ok (.iload_n 3, 1) := by decide +kernel
theorem dX7_nearest_151 : decode cX7_nearest 151 = .ok (.imul, 1) := by decide +kernel
theorem dX7_nearest_152 : decode cX7_nearest 152 = .ok (.iload 4, 2) := by decide +kernel
theorem dX7_nearest_154 : decode cX7_nearest 154 = .ok (.iadd, 1) := by decide +kernel
theorem dX7_nearest_155 : decode cX7_nearest 155 = .ok (.goto 4, 3) := by decide +kernel
theorem dX7_nearest_158 : decode cX7_nearest 158 = .ok (.iload_n 2, 1) := by decide +kernel
theorem dX7_nearest_159 : decode cX7_nearest 159 = .ok (.istore_n 2, 1) := by decide +kernel
theorem dX7_nearest_160 : decode cX7_nearest 160 = .ok (.iinc 3 1, 3) := by decide +kernel
theorem dX7_nearest_163 : decode cX7_nearest 163 = .ok (.goto (-134), 3) := by decide +kernel
theorem dX7_nearest_166 : decode cX7_nearest 166 = .ok (.iload_n 2, 1) := by decide +kernel
theorem dX7_nearest_167 : decode cX7_nearest 167 = .ok (.ireturn, 1) := by decide +kernel
set_option maxRecDepth 20000 in
theorem ggX7_between_X7_isSample : GoodIn wsX7_between wsX7_isSample := goodIn_r _ [5, 6, 7, 4, 8] (by decide +kernel) (by decide +kernel)
set_option maxRecDepth 20000 in
theorem gX7_between_X7_isSample : GoodIn wsX7_between (va_wsS RX7 140 yX7_isSample wsX7_isSample) := goodIn_app (goodIn_of _ (by decide +kernel)) ggX7_between_X7_isSample
set_option maxRecDepth 20000 in
theorem ggX7_between_X7_refused : GoodIn wsX7_between wsX7_refused := goodIn_r _ [12, 13, 52, 53, 54, 55, 56, 57, 58, 59, 60, 61, 62, 63, 64, 65, 66, 67, 68, 69, 70] (by decide +kernel) (by decide +kernel)
set_option maxRecDepth 20000 in
theorem gX7_between_X7_refused : GoodIn wsX7_between (wsV RX7 102 RX7 yX7_refused wsX7_refused) := goodIn_app (goodIn_of _ (by decide +kernel)) ggX7_between_X7_refused
set_option maxRecDepth 20000 in
theorem ggX7_between_X7_at : GoodIn wsX7_between wsX7_at := goodIn_r _ [16] (by decide +kernel) (by decide +kernel)
set_option maxRecDepth 20000 in
theorem gX7_between_X7_at : GoodIn wsX7_between (va_wsS RX7 79 yX7_at wsX7_at) := goodIn_app (goodIn_of _ (by decide +kernel)) ggX7_between_X7_at
set_option maxRecDepth 20000 in
theorem ggX7_between_X7_distanceTo : GoodIn wsX7_between wsX7_distanceTo := goodIn_r _ [20, 21, 22, 23, 24, 4, 25, 26, 27, 28, 29, 30, 31, 32, 33, 34, 35, 36, 37, 14, 15, 16, 38, 39, 40, 41, 42, 43, 44, 45, 46, 47, 48, 49, 50, 51, 52, 53, 54, 55, 56, 57, 58, 59, 60, 61, 62, 63, 64, 65, 66, 67, 68, 69, 70] (by decide +kernel) (by decide +kernel)
set_option maxRecDepth 20000 in
theorem gX7_between_X7_distanceTo : GoodIn wsX7_between (wsV RX7 91 RX7 yX7_distanceTo wsX7_distanceTo) := goodIn_app (goodIn_of _ (by decide +kernel)) ggX7_between_X7_distanceTo
theorem dX7_between_0 : decode cX7_between 0 = .ok (.aload_n 0, 1) := by decide +kernel
theorem dX7_between_1 : decode cX7_between 1 = .ok (.aload_n 0, 1) := by decide +kernel
theorem dX7_between_2 : decode cX7_between 2 = .ok (.getfield 13, 3) := by decide +kernel
theorem dX7_between_5 : decode cX7_between 5 = .ok (.iload_n 1, 1) := by decide +kernel
theorem dX7_between_6 : decode cX7_between 6 = .ok (.invokestatic 140, 3) := by decide +kernel
theorem dX7_between_9 : decode cX7_between 9 = .ok (.ifCond .eq 18, 3) := by decide +kernel
theorem dX7_between_12 : decode cX7_between 12 = .ok (.aload_n 0, 1) := by decide +kernel
theorem dX7_between_13 : decode cX7_between 13 = .ok (.getfield 13, 3) := by decide +kernel
theorem dX7_between_16 : decode cX7_between 16 = .ok (.iload_n 2, 1) := by decide +kernel
theorem dX7_between_17 : decode cX7_between 17 = .ok (.invokestatic 140, 3) := by decide +kernel
theorem dX7_between_20 : decode cX7_between 20 = .ok (.ifCond .eq 7, 3) := by decide +kernel
theorem dX7_between_23 : decode cX7_between 23 = .ok (.iconst 0, 1) := by decide +kernel
theorem dX7_between_24 : decode cX7_between 24 = .ok (.goto 4, 3) := by decide +kernel
theorem dX7_between_27 : decode cX7_between 27 = .ok (.iconst 1, 1) := by decide +kernel
theorem dX7_between_28 : decode cX7_between 28 = .ok (.invokevirtual 102, 3) := by decide +kernel
theorem dX7_between_31 : decode cX7_between 31 = .ok (.ifCond .eq 5, 3) := by decide +kernel
theorem dX7_between_34 : decode cX7_between 34 = .ok (.iconst 0, 1) := by decide +kernel
theorem dX7_between_35 : decode cX7_between 35 = .ok (.ireturn, 1) := by decide +kernel
theorem dX7_between_36 : decode cX7_between 36 = .ok (.aload_n 0, 1) := by decide +kernel
theorem dX7_between_37 : decode cX7_between 37 = .ok (.aload_n 0, 1) := by decide +kernel
theorem dX7_between_38 : decode cX7_between 38 = .ok (.getfield 13, 3) := by decide +kernel
theorem dX7_between_41 : decode cX7_between 41 = .ok (.iload_n 1, 1) := by decide +kernel
theorem dX7_between_42 : decode cX7_between 42 = .ok (.invokestatic 79, 3) := by decide +kernel
theorem dX7_between_45 : decode cX7_between 45 = .ok (.aload_n 0, 1) := by decide +kernel
theorem dX7_between_46 : decode cX7_between 46 = .ok (.getfield 13, 3) := by decide +kernel
theorem dX7_between_49 : decode cX7_between 49 = .ok (.iload_n 2, 1) := by decide +kernel
theorem dX7_between_50 : decode cX7_between 50 = .ok (.aload_n 0, 1) := by decide +kernel
theorem dX7_between_51 : decode cX7_between 51 = .ok (.getfield 13, 3) := by decide +kernel
theorem dX7_between_54 : decode cX7_between 54 = .ok (.bipush 77, 2) := by decide +kernel
theorem dX7_between_56 : decode cX7_between 56 = .ok (.iaload, 1) := by decide +kernel
theorem dX7_between_57 : decode cX7_between 57 = .ok (.invokevirtual 91, 3) := by decide +kernel
theorem dX7_between_60 : decode cX7_between 60 = .ok (.ireturn, 1) := by decide +kernel
set_option maxRecDepth 20000 in
theorem ggX7_findClosest_X7_nameOf : GoodIn wsX7_findClosest wsX7_nameOf := goodIn_r _ [7, 8, 9, 6, 10] (by decide +kernel) (by decide +kernel)
set_option maxRecDepth 20000 in
theorem gX7_findClosest_X7_nameOf : GoodIn wsX7_findClosest (va_wsS RX7 146 yX7_nameOf wsX7_nameOf) := goodIn_app (goodIn_of _ (by decide +kernel)) ggX7_findClosest_X7_nameOf
set_option maxRecDepth 20000 in
theorem ggX7_findClosest_X7_at : GoodIn wsX7_findClosest wsX7_at := goodIn_r _ [10] (by decide +kernel) (by decide +kernel)
set_option maxRecDepth 20000 in
theorem gX7_findClosest_X7_at : GoodIn wsX7_findClosest (va_wsS RX7 79 yX7_at wsX7_at) := goodIn_app (goodIn_of _ (by decide +kernel)) ggX7_findClosest_X7_at
set_option maxRecDepth 20000 in
theorem ggX7_findClosest_X7_distanceTo : GoodIn wsX7_findClosest wsX7_distanceTo := goodIn_r _ [14, 15, 16, 17, 18, 6, 19, 20, 21, 22, 23, 24, 25, 26, 27, 28, 29, 30, 31, 8, 9, 10, 32, 33, 34, 35, 36, 37, 38, 39, 40, 41, 42, 43, 44, 45, 46, 47, 48, 49, 50, 51, 52, 53, 54, 55, 56, 57, 58, 59, 60, 61, 62, 63, 64] (by decide +kernel) (by decide +kernel)
set_option maxRecDepth 20000 in
theorem gX7_findClosest_X7_distanceTo : GoodIn wsX7_findClosest (wsV RX7 91 RX7 yX7_distanceTo wsX7_distanceTo) := goodIn_app (goodIn_of _ (by decide +kernel)) ggX7_findClosest_X7_distanceTo
theorem dX7_findClosest_0 : decode cX7_findClosest 0 = .ok (.aload_n 0, 1) := by decide +kernel
