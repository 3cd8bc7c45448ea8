theorem dX5_contains_0 : decode cX5_contains 0 = .ok (.iconst 0, 1) := by decide +kernel
theorem dX5_contains_1 : decode cX5_contains 1 = .ok (.istore_n 2, 1) := by decide +kernel
theorem dX5_contains_2 : decode cX5_contains 2 = .ok (.iload_n 2, 1) := by decide +kernel
theorem dX5_contains_3 : decode cX5_contains 3 = .ok (.aload_n 0, 1) := by decide +kernel
theorem dX5_contains_4 : decode cX5_contains 4 = .ok (.getfield 13, 3) := by decide +kernel
theorem dX5_contains_7 : decode cX5_contains 7 = .ok (.if_icmp .ge 30, 3) := by decide +kernel
theorem dX5_contains_37 : decode cX5_contains 37 = .ok (.iconst 0, 1) := by decide +kernel
theorem dX5_contains_38 : decode cX5_contains 38 = .ok (.ireturn, 1) := by decide +kernel
set_option maxRecDepth 20000 in
theorem ggX5_isBusinessDay_X3_weekdayOf : GoodIn wsX5_isBusinessDay wsX3_weekdayOf := goodIn_r _ [4, 5, 6, 7, 8] (by decide +kernel) (by decide +kernel)
set_option maxRecDepth 20000 in
theorem gX5_isBusinessDay_X3_weekdayOf : GoodIn wsX5_isBusinessDay (va_wsS RX5 17 yX3_weekdayOf wsX3_weekdayOf) := goodIn_app (goodIn_of _ (by decide +kernel)) ggX5_isBusinessDay_X3_weekdayOf
set_option maxRecDepth 20000 in
theorem ggX5_isBusinessDay_X5_contains : GoodIn wsX5_isBusinessDay wsX5_contains := goodIn_r _ [13, 14, 15, 16, 17] (by decide +kernel) (by decide +kernel)
set_option maxRecDepth 20000 in
theorem gX5_isBusinessDay_X5_contains : GoodIn wsX5_isBusinessDay (wsV RX5 23 RX5 yX5_contains wsX5_contains) := goodIn_app (goodIn_of _ (by decide +kernel)) ggX5_isBusinessDay_X5_contains
theorem dX5_isBusinessDay_0 : decode cX5_isBusinessDay 0 = .ok (.iload_n 1, 1) := by decide +kernel
theorem dX5_isBusinessDay_1 : decode cX5_isBusinessDay 1 = .ok (.invokestatic 17, 3) := by decide +kernel
theorem dX5_isBusinessDay_4 : decode cX5_isBusinessDay 4 = .ok (.iconst 5, 1) := by decide +kernel
theorem dX5_isBusinessDay_5 : decode cX5_isBusinessDay 5 = .ok (.if_icmp .ge 15, 3) := by decide +kernel
theorem dX5_isBusinessDay_8 : decode cX5_isBusinessDay 8 = .ok (.aload_n 0, 1) := by decide +kernel
theorem dX5_isBusinessDay_9 : decode cX5_isBusinessDay 9 = .ok (.iload_n 1, 1) := by decide +kernel
theorem dX5_isBusinessDay_10 : decode cX5_isBusinessDay 10 = .ok (.invokevirtual 23, 3) := by decide +kernel
theorem dX5_isBusinessDay_13 : decode cX5_isBusinessDay 13 = .ok (.ifCond .ne 7, 3) := by decide +kernel
theorem dX5_isBusinessDay_16 : decode cX5_isBusinessDay 16 = .ok (.iconst 1, 1) := by decide +kernel
theorem dX5_isBusinessDay_17 : decode cX5_isBusinessDay 17 = .ok (.goto 4, 3) := by decide +kernel
theorem dX5_isBusinessDay_20 : decode cX5_isBusinessDay 20 = .ok (.iconst 0, 1) := by decide +kernel
theorem dX5_isBusinessDay_21 : decode cX5_isBusinessDay 21 = .ok (.ireturn, 1) := by decide +kernel
set_option maxRecDepth 20000 in
theorem ggX5_businessDaysFrom_X5_isBusinessDay : GoodIn wsX5_businessDaysFrom wsX5_isBusinessDay := goodIn_r _ [5, 6, 7, 8, 9, 10, 11, 12, 13, 14, 15, 16, 4, 17, 18, 19, 20, 21] (by decide +kernel) (by decide +kernel)
set_option maxRecDepth 20000 in
theorem gX5_businessDaysFrom_X5_isBusinessDay : GoodIn wsX5_businessDaysFrom (wsV RX5 27 RX5 yX5_isBusinessDay wsX5_isBusinessDay) := goodIn_app (goodIn_of _ (by decide +kernel)) ggX5_businessDaysFrom_X5_isBusinessDay
theorem dX5_businessDaysFrom_0 : decode cX5_businessDaysFrom 0 = .ok (.iload_n 2, 1) := by decide +kernel
theorem dX5_businessDaysFrom_1 : decode cX5_businessDaysFrom 1 = .ok (.ifCond .ge 7, 3) := by decide +kernel
theorem dX5_businessDaysFrom_4 : decode cX5_businessDaysFrom 4 = .ok (.iconst (-1), 1) := by decide +kernel
theorem dX5_businessDaysFrom_5 : decode cX5_businessDaysFrom 5 = .ok (.goto 4, 3) := by decide +kernel
theorem dX5_businessDaysFrom_8 : decode cX5_businessDaysFrom 8 = .ok (.iconst 1, 1) := by decide +kernel
theorem dX5_businessDaysFrom_9 : decode cX5_businessDaysFrom 9 = .ok (.istore_n 3, 1) := by decide +kernel
theorem dX5_businessDaysFrom_10 : decode cX5_businessDaysFrom 10 = .ok (.iload_n 2, 1) := by decide +kernel
theorem dX5_businessDaysFrom_11 : decode cX5_businessDaysFrom 11 = .ok (.ifCond .ge 8, 3) := by decide +kernel
theorem dX5_businessDaysFrom_14 : decode cX5_businessDaysFrom 14 = .ok (.iload_n 2, 1) := by decide +kernel
theorem dX5_businessDaysFrom_15 : decode cX5_businessDaysFrom 15 = .ok (.ineg, 1) := by decide +kernel
theorem dX5_businessDaysFrom_16 : decode cX5_businessDaysFrom 16 = .ok (.goto 4, 3) := by decide +kernel
theorem dX5_businessDaysFrom_19 : decode cX5_businessDaysFrom 19 = .ok (.iload_n 2, 1) := by decide +kernel
theorem dX5_businessDaysFrom_20 : decode cX5_businessDaysFrom 20 = .ok (.istore 4, 2) := by decide +kernel
theorem dX5_businessDaysFrom_22 : decode cX5_businessDaysFrom 22 = .ok (.iload_n 1, 1) := by decide +kernel
theorem dX5_businessDaysFrom_23 : decode cX5_businessDaysFrom 23 = .ok (.istore 5, 2) := by decide +kernel
theorem dX5_businessDaysFrom_25 : decode cX5_businessDaysFrom 25 = .ok (.iconst 0, 1) := by decide +kernel
theorem dX5_businessDaysFrom_26 : decode cX5_businessDaysFrom 26 = .ok (.istore 6, 2) := by decide +kernel
theorem dX5_businessDaysFrom_28 : decode cX5_businessDaysFrom 28 = .ok (.iload 6, 2) := by decide +kernel
theorem dX5_businessDaysFrom_30 : decode cX5_businessDaysFrom 30 = .ok (.sipush 1000, 3) := by decide +kernel
theorem dX5_businessDaysFrom_33 : decode cX5_businessDaysFrom 33 = .ok (.if_icmp .ge 32, 3) := by decide +kernel
theorem dX5_businessDaysFrom_36 : decode cX5_businessDaysFrom 36 = .ok (.iload 4, 2) := by decide +kernel
theorem dX5_businessDaysFrom_38 : decode cX5_businessDaysFrom 38 = .ok (.ifCond .le 27, 3) := by decide +kernel
theorem dX5_businessDaysFrom_41 : decode cX5_businessDaysFrom 41 = .ok (.iload 5, 2) := by decide +kernel
theorem dX5_businessDaysFrom_43 : decode cX5_businessDaysFrom 43 = .ok (.iload_n 3, 1) := by decide +kernel
theorem dX5_businessDaysFrom_44 : decode cX5_businessDaysFrom 44 = .ok (.iadd, 1) := by decide +kernel
theorem dX5_businessDaysFrom_45 : decode cX5_businessDaysFrom 45 = .ok (.istore 5, 2) := by decide +kernel
theorem dX5_businessDaysFrom_47 : decode cX5_businessDaysFrom 47 = .ok (.aload_n 0, 1) := by decide +kernel
theorem dX5_businessDaysFrom_48 : decode cX5_businessDaysFrom 48 = .ok (.iload 5, 2) := by decide +kernel
theorem dX5_businessDaysFrom_50 : decode cX5_businessDaysFrom 50 = .ok (.invokevirtual 27, 3) := by decide +kernel
theorem dX5_businessDaysFrom_53 : decode cX5_businessDaysFrom 53 = .ok (.ifCond .eq 6, 3) := by decide +kernel
theorem dX5_businessDaysFrom_56 : decode cX5_businessDaysFrom 56 = .ok (.iinc 4 (-1), 3) := by decide +kernel
theorem dX5_businessDaysFrom_59 : decode cX5_businessDaysFrom 59 = .ok (.iinc 6 1, 3) := by decide +kernel
theorem dX5_businessDaysFrom_62 : decode cX5_businessDaysFrom 62 = .ok (.goto (-34), 3) := by decide +kernel
theorem dX5_businessDaysFrom_65 : decode cX5_businessDaysFrom 65 = .ok (.iload 5, 2) := by decide +kernel
theorem dX5_businessDaysFrom_67 : decode cX5_businessDaysFrom 67 = .ok (.ireturn, 1) := by decide +kernel
set_option maxRecDepth 20000 in
theorem ggX12_dateOf_X12_march : GoodIn wsX12_dateOf wsX12_march := goodIn_r _ [4] (by decide +kernel) (by decide +kernel)
set_option maxRecDepth 20000 in
theorem gX12_dateOf_X12_march : GoodIn wsX12_dateOf (va_wsS RX12 140 yX12_march wsX12_march) := goodIn_app (goodIn_of _ (by decide +kernel)) ggX12_dateOf_X12_march
theorem dX12_dateOf_0 : decode cX12_dateOf 0 = .ok (.iload_n 0, 1) := by decide +kernel
theorem dX12_dateOf_1 : decode cX12_dateOf 1 = .ok (.sipush 365, 3) := by decide +kernel
theorem dX12_dateOf_4 : decode cX12_dateOf 4 = .ok (.idiv, 1) := by decide +kernel
theorem dX12_dateOf_5 : decode cX12_dateOf 5 = .ok (.istore_n 1, 1) := by decide +kernel
theorem dX12_dateOf_6 : decode cX12_dateOf 6 = .ok (.iload_n 1, 1) := by decide +kernel
theorem dX12_dateOf_7 : decode cX12_dateOf 7 = .ok (.invokestatic 140, 3) := by decide +kernel
theorem dX12_dateOf_10 : decode cX12_dateOf 10 = .ok (.iload_n 0, 1) := by decide +kernel
theorem dX12_dateOf_11 : decode cX12_dateOf 11 = .ok (.if_icmp .le 9, 3) := by decide +kernel
theorem dX12_dateOf_14 : decode cX12_dateOf 14 = .ok (.iinc 1 (-1), 3) := by decide +kernel
theorem dX12_dateOf_17 : decode cX12_dateOf 17 = .ok (.goto (-11), 3) := by decide +kernel
theorem dX12_dateOf_20 : decode cX12_dateOf 20 = .ok (.iload_n 0, 1) := by decide +kernel
theorem dX12_dateOf_21 : decode cX12_dateOf 21 = .ok (.iload_n 1, 1) := by decide +kernel
theorem dX12_dateOf_22 : decode cX12_dateOf 22 = .ok (.invokestatic 140, 3) := by decide +kernel
theorem dX12_dateOf_25 : decode cX12_dateOf 25 = .ok (.isub, 1) := by decide +kernel
theorem dX12_dateOf_26 : decode cX12_dateOf 26 = .ok (.istore_n 2, 1) := by decide +kernel
theorem dX12_dateOf_27 : decode cX12_dateOf 27 = .ok (.iconst 5, 1) := by decide +kernel
theorem dX12_dateOf_28 : decode cX12_dateOf 28 = .ok (.iload_n 2, 1) := by decide +kernel
theorem dX12_dateOf_29 : decode cX12_dateOf 29 = .ok (.imul, 1) := by decide +kernel
theorem dX12_dateOf_30 : decode cX12_dateOf 30 = .ok (.iconst 2, 1) := by decide +kernel
theorem dX12_dateOf_31 : decode cX12_dateOf 31 = .ok (.iadd, 1) := by decide +kernel
theorem dX12_dateOf_32 : decode cX12_dateOf 32 = .ok (.sipush 153, 3) := by decide +kernel
theorem dX12_dateOf_35 : decode cX12_dateOf 35 = .ok (.idiv, 1) := by decide +kernel
theorem dX12_dateOf_36 : decode cX12_dateOf 36 = .ok (.istore_n 3, 1) := by decide +kernel
theorem dX12_dateOf_37 : decode cX12_dateOf 37 = .ok (.iload_n 2, 1) := by decide +kernel
theorem dX12_dateOf_38 : decode cX12_dateOf 38 = .ok (.sipush 153, 3) := by decide +kernel
theorem dX12_dateOf_41 : decode cX12_dateOf 41 = .ok (.iload_n 3, 1) := by decide +kernel
theorem dX12_dateOf_42 : decode cX12_dateOf 42 = .ok (.imul, 1) := by decide +kernel
theorem dX12_dateOf_43 : decode cX12_dateOf 43 = .ok (.iconst 2, 1) := by decide +kernel
theorem dX12_dateOf_44 : decode cX12_dateOf 44 = .ok (.iadd, 1) := by decide +kernel
theorem dX12_dateOf_45 : decode cX12_dateOf 45 = .ok (.iconst 5, 1) := by decide +kernel
theorem dX12_dateOf_46 : decode cX12_dateOf 46 = .ok (.idiv, 1) := by decide +kernel
theorem dX12_dateOf_47 : decode cX12_dateOf 47 = .ok (.isub, 1) := by decide +kernel
theorem dX12_dateOf_48 : decode cX12_dateOf 48 = .ok (.iconst 1, 1) := by decide +kernel
theorem dX12_dateOf_49 : decode cX12_dateOf 49 = .ok (.iadd, 1) := by decide +kernel
theorem dX12_dateOf_50 : decode cX12_dateOf 50 = .ok (.istore 4, 2) := by decide +kernel
theorem dX12_dateOf_52 : decode cX12_dateOf 52 = .ok (.iload_n 3, 1) := by decide +kernel
theorem dX12_dateOf_53 : decode cX12_dateOf 53 = .ok (.bipush 10, 2) := by decide +kernel
theorem dX12_dateOf_55 : decode cX12_dateOf 55 = .ok (.if_icmp .ge 21, 3) := by decide +kernel
theorem dX12_dateOf_58 : decode cX12_dateOf 58 = .ok (.sipush 10000, 3) := by decide +kernel
theorem dX12_dateOf_61 : decode cX12_dateOf 61 = .ok (.iload_n 1, 1) := by decide +kernel
theorem dX12_dateOf_62 : decode cX12_dateOf 62 = .ok (.imul, 1) := by decide +kernel
theorem dX12_dateOf_63 : decode cX12_dateOf 63 = .ok (.bipush 100, 2) := by decide +kernel
theorem dX12_dateOf_65 : decode cX12_dateOf 65 = .ok (.iload_n 3, 1) := by decide +kernel
theorem dX12_dateOf_66 : decode cX12_dateOf 66 = .ok (.iconst 3, 1) := by decide +kernel
theorem dX12_dateOf_67 : decode cX12_dateOf 67 = .ok (.iadd, 1) := by decide +kernel
theorem dX12_dateOf_68 : decode cX12_dateOf 68 = .ok (.imul, 1) := by decide +kernel
theorem dX12_dateOf_69 : decode cX12_dateOf 69 = .ok (.iadd, 1) := by decide +kernel
theorem dX12_dateOf_70 : decode cX12_dateOf 70 = .ok (.iload 4, 2) := by decide +kernel
theorem dX12_dateOf_72 : decode cX12_dateOf 72 = .ok (.iadd, 1) := by decide +kernel
theorem dX12_dateOf_73 : decode cX12_dateOf 73 = .ok (.goto 21, 3) := by decide +kernel
theorem dX12_dateOf_76 : decode cX12_dateOf 76 = .ok (.sipush 10000, 3) := by decide +kernel
theorem dX12_dateOf_79 : decode cX12_dateOf 79 = .ok (.iload_n 1, 1) := by decide +kernel
theorem dX12_dateOf_80 : decode cX12_dateOf 80 = .ok (.iconst 1, 1) := by decide +kernel
theorem dX12_dateOf_81 : decode cX12_dateOf 81 = .ok (.iadd, 1) := by decide +kernel
theorem dX12_dateOf_82 : decode cX12_dateOf 82 = .ok (.imul, 1) := by decide +kernel
theorem dX12_dateOf_83 : decode cX12_dateOf 83 = .ok (.bipush 100, 2) := by decide +kernel
theorem dX12_dateOf_85 : decode cX12_dateOf 85 = .ok (.iload_n 3, 1) := by decide +kernel
theorem dX12_dateOf_86 : decode cX12_dateOf 86 = .ok (.bipush 9, 2) := by decide +kernel
theorem dX12_dateOf_88 : decode cX12_dateOf 88 = .ok (.isub, 1) := by decide +kernel
theorem dX12_dateOf_89 : decode cX12_dateOf 89 = .ok (.imul, 1) := by decide +kernel
theorem dX12_dateOf_90 : decode cX12_dateOf 90 = .ok (.iadd, 1) := by decide +kernel
theorem dX12_dateOf_91 : decode cX12_dateOf 91 = .ok (.iload 4, 2) := by decide +kernel
theorem dX12_dateOf_93 : decode cX12_dateOf 93 = .ok (.iadd, 1) := by decide +kernel
theorem dX12_dateOf_94 : decode cX12_dateOf 94 = .ok (.ireturn, 1) := by decide +kernel
set_option maxRecDepth 20000 in
theorem ggX12_isBusiness_X12_weekdayOf : GoodIn wsX12_isBusiness wsX12_weekdayOf := goodIn_r _ [6, 7, 8, 9, 10, 5, 11, 12, 13, 14] (by decide +kernel) (by decide +kernel)
set_option maxRecDepth 20000 in
theorem gX12_isBusiness_X12_weekdayOf : GoodIn wsX12_isBusiness (va_wsS RX12 147 yX12_weekdayOf wsX12_weekdayOf) := goodIn_app (goodIn_of _ (by decide +kernel)) ggX12_isBusiness_X12_weekdayOf
theorem dX12_isBusiness_0 : decode cX12_isBusiness 0 = .ok (.iload_n 1, 1) := by decide +kernel
theorem dX12_isBusiness_1 : decode cX12_isBusiness 1 = .ok (.invokestatic 147, 3) := by decide +kernel
theorem dX12_isBusiness_4 : decode cX12_isBusiness 4 = .ok (.iconst 4, 1) := by decide +kernel
theorem dX12_isBusiness_5 : decode cX12_isBusiness 5 = .ok (.if_icmp .le 5, 3) := by decide +kernel
theorem dX12_isBusiness_8 : decode cX12_isBusiness 8 = .ok (.iconst 0, 1) := by decide +kernel
theorem dX12_isBusiness_9 : decode cX12_isBusiness 9 = .ok (.ireturn, 1) := by decide +kernel
theorem dX12_isBusiness_10 : decode cX12_isBusiness 10 = .ok (.iconst 0, 1) := by decide +kernel
theorem dX12_isBusiness_11 : decode cX12_isBusiness 11 = .ok (.istore_n 2, 1) := by decide +kernel
theorem dX12_isBusiness_12 : decode cX12_isBusiness 12 = .ok (.iload_n 2, 1) := by decide +kernel
theorem dX12_isBusiness_13 : decode cX12_isBusiness 13 = .ok (.aload_n 0, 1) := by decide +kernel
theorem dX12_isBusiness_14 : decode cX12_isBusiness 14 = .ok (.getfield 150, 3) := by decide +kernel
theorem dX12_isBusiness_17 : decode cX12_isBusiness 17 = .ok (.if_icmp .ge 21, 3) := by decide +kernel
theorem dX12_isBusiness_38 : decode cX12_isBusiness 38 = .ok (.iconst 1, 1) := by decide +kernel
theorem dX12_isBusiness_39 : decode cX12_isBusiness 39 = .ok (.ireturn, 1) := by decide +kernel
set_option maxRecDepth 20000 in
theorem ggX12_businessAfter_X12_isBusiness : GoodIn wsX12_businessAfter wsX12_isBusiness := goodIn_r _ [5, 6, 7, 8, 9, 4, 10, 11, 12, 13, 14, 15, 16, 17, 18, 19, 20, 21, 22, 23, 24, 25, 26, 27, 28, 29, 30, 31, 32, 33, 34, 35, 36, 37, 38, 39, 40, 41, 42, 43, 44, 45, 46, 47, 48, 49, 50, 51, 52, 53, 54, 55, 56, 57, 58, 59, 60, 61, 62, 63, 64, 65, 66, 67, 68, 69, 70, 71, 72, 73, 74, 75, 76, 77, 78, 79, 80, 81, 82, 83, 84, 85, 86, 87] (by decide +kernel) (by decide +kernel)
set_option maxRecDepth 20000 in
theorem gX12_businessAfter_X12_isBusiness : GoodIn wsX12_businessAfter (wsV RX12 153 RX12 yX12_isBusiness wsX12_isBusiness) := goodIn_app (goodIn_of _ (by decide +kernel)) ggX12_businessAfter_X12_isBusiness
theorem dX12_businessAfter_0 : decode cX12_businessAfter 0 = .ok (.iload_n 2, 1) := by decide +kernel
theorem dX12_businessAfter_1 : decode cX12_businessAfter 1 = .ok (.ifCond .ge 7, 3) := by decide +kernel
theorem dX12_businessAfter_4 : decode cX12_businessAfter 4 = .ok (.iconst (-1), 1) := by decide +kernel
theorem dX12_businessAfter_5 : decode cX12_businessAfter 5 = .ok (.goto 4, 3) := by decide +kernel
theorem dX12_businessAfter_8 : decode cX12_businessAfter 8 = .ok (.iconst 1, 1) := by decide +kernel
theorem dX12_businessAfter_9 : decode cX12_businessAfter 9 = .ok (.istore_n 3, 1) := by decide +kernel
theorem dX12_businessAfter_10 : decode cX12_businessAfter 10 = .ok (.iload_n 2, 1) := by decide +kernel
theorem dX12_businessAfter_11 : decode cX12_businessAfter 11 = .ok (.ifCond .ge 8, 3) := by decide +kernel
theorem dX12_businessAfter_14 : decode cX12_businessAfter 14 = .ok (.iload_n 2, 1) := by decide +kernel
theorem dX12_businessAfter_15 : decode cX12_businessAfter 15 = .ok (.ineg, 1) := by decide +kernel
theorem dX12_businessAfter_16 : decode cX12_businessAfter 16 = .ok (.goto 4, 3) := by decide +kernel
theorem dX12_businessAfter_19 : decode cX12_businessAfter 19 = .ok (.iload_n 2, 1) := by decide +kernel
theorem dX12_businessAfter_20 : decode cX12_businessAfter 20 = .ok (.istore 4, 2) := by decide +kernel
theorem dX12_businessAfter_22 : decode cX12_businessAfter 22 = .ok (.iload_n 1, 1) := by decide +kernel
theorem dX12_businessAfter_23 : decode cX12_businessAfter 23 = .ok (.istore 5, 2) := by decide +kernel
theorem dX12_businessAfter_25 : decode cX12_businessAfter 25 = .ok (.iload 4, 2) := by decide +kernel
theorem dX12_businessAfter_27 : decode cX12_businessAfter 27 = .ok (.ifCond .le 31, 3) := by decide +kernel
theorem dX12_businessAfter_30 : decode cX12_businessAfter 30 = .ok (.iload 5, 2) := by decide +kernel
theorem dX12_businessAfter_32 : decode cX12_businessAfter 32 = .ok (.iload_n 3, 1) := by decide +kernel
theorem dX12_businessAfter_33 : decode cX12_businessAfter 33 = .ok (.iadd, 1) := by decide +kernel
theorem dX12_businessAfter_34 : decode cX12_businessAfter 34 = .ok (.istore 5, 2) := by decide +kernel
theorem dX12_businessAfter_36 : decode cX12_businessAfter 36 = .ok (.iload 4, 2) := by decide +kernel
theorem dX12_businessAfter_38 : decode cX12_businessAfter 38 = .ok (.aload_n 0, 1) := by decide +kernel
theorem dX12_businessAfter_39 : decode cX12_businessAfter 39 = .ok (.iload 5, 2) := by decide +kernel
theorem dX12_businessAfter_41 : decode cX12_businessAfter 41 = .ok (.invokevirtual 153, 3) := by decide +kernel
theorem dX12_businessAfter_44 : decode cX12_businessAfter 44 = .ok (.ifCond .eq 7, 3) := by decide +kernel
theorem dX12_businessAfter_47 : decode cX12_businessAfter 47 = .ok (.iconst 1, 1) := by decide +kernel
theorem dX12_businessAfter_48 : decode cX12_businessAfter 48 = .ok (.goto 4, 3) := by decide +kernel
theorem dX12_businessAfter_51 : decode cX12_businessAfter 51 = .ok (.iconst 0, 1) := by decide +kernel
theorem dX12_businessAfter_52 : decode cX12_businessAfter 52 = .ok (.isub, 1) := by decide +kernel
theorem dX12_businessAfter_53 : decode cX12_businessAfter 53 = .ok (.istore 4, 2) := by decide +kernel
theorem dX12_businessAfter_55 : decode cX12_businessAfter 55 = .ok (.goto (-30), 3) := by decide +kernel
theorem dX12_businessAfter_58 : decode cX12_businessAfter 58 = .ok (.iload 5, 2) := by decide +kernel
theorem dX12_businessAfter_60 : decode cX12_businessAfter 60 = .ok (.ireturn, 1) := by decide +kernel
