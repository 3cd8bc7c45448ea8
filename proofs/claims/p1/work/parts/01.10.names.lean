theorem dX12_dayOf_13 : decode cX12_dayOf 13 = .ok (.iload_n 0, 1) := by decide +kernel
theorem dX12_dayOf_14 : decode cX12_dayOf 14 = .ok (.sipush 10000, 3) := by decide +kernel
theorem dX12_dayOf_17 : decode cX12_dayOf 17 = .ok (.idiv, 1) := by decide +kernel
theorem dX12_dayOf_18 : decode cX12_dayOf 18 = .ok (.iconst 1, 1) := by decide +kernel
theorem dX12_dayOf_19 : decode cX12_dayOf 19 = .ok (.isub, 1) := by decide +kernel
theorem dX12_dayOf_20 : decode cX12_dayOf 20 = .ok (.goto 8, 3) := by decide +kernel
theorem dX12_dayOf_23 : decode cX12_dayOf 23 = .ok (.iload_n 0, 1) := by decide +kernel
theorem dX12_dayOf_24 : decode cX12_dayOf 24 = .ok (.sipush 10000, 3) := by decide +kernel
theorem dX12_dayOf_27 : decode cX12_dayOf 27 = .ok (.idiv, 1) := by decide +kernel
theorem dX12_dayOf_28 : decode cX12_dayOf 28 = .ok (.istore_n 2, 1) := by decide +kernel
theorem dX12_dayOf_29 : decode cX12_dayOf 29 = .ok (.iload_n 1, 1) := by decide +kernel
theorem dX12_dayOf_30 : decode cX12_dayOf 30 = .ok (.iconst 3, 1) := by decide +kernel
theorem dX12_dayOf_31 : decode cX12_dayOf 31 = .ok (.if_icmp .ge 10, 3) := by decide +kernel
theorem dX12_dayOf_34 : decode cX12_dayOf 34 = .ok (.iload_n 1, 1) := by decide +kernel
theorem dX12_dayOf_35 : decode cX12_dayOf 35 = .ok (.bipush 9, 2) := by decide +kernel
theorem dX12_dayOf_37 : decode cX12_dayOf 37 = .ok (.iadd, 1) := by decide +kernel
theorem dX12_dayOf_38 : decode cX12_dayOf 38 = .ok (.goto 6, 3) := by decide +kernel
theorem dX12_dayOf_41 : decode cX12_dayOf 41 = .ok (.iload_n 1, 1) := by decide +kernel
theorem dX12_dayOf_42 : decode cX12_dayOf 42 = .ok (.iconst 3, 1) := by decide +kernel
theorem dX12_dayOf_43 : decode cX12_dayOf 43 = .ok (.isub, 1) := by decide +kernel
theorem dX12_dayOf_44 : decode cX12_dayOf 44 = .ok (.istore_n 3, 1) := by decide +kernel
theorem dX12_dayOf_45 : decode cX12_dayOf 45 = .ok (.iload_n 2, 1) := by decide +kernel
theorem dX12_dayOf_46 : decode cX12_dayOf 46 = .ok (.invokestatic 140, 3) := by decide +kernel
theorem dX12_dayOf_49 : decode cX12_dayOf 49 = .ok (.sipush 153, 3) := by decide +kernel
theorem dX12_dayOf_52 : decode cX12_dayOf 52 = .ok (.iload_n 3, 1) := by decide +kernel
theorem dX12_dayOf_53 : decode cX12_dayOf 53 = .ok (.imul, 1) := by decide +kernel
theorem dX12_dayOf_54 : decode cX12_dayOf 54 = .ok (.iconst 2, 1) := by decide +kernel
theorem dX12_dayOf_55 : decode cX12_dayOf 55 = .ok (.iadd, 1) := by decide +kernel
theorem dX12_dayOf_56 : decode cX12_dayOf 56 = .ok (.iconst 5, 1) := by decide +kernel
theorem dX12_dayOf_57 : decode cX12_dayOf 57 = .ok (.idiv, 1) := by decide +kernel
theorem dX12_dayOf_58 : decode cX12_dayOf 58 = .ok (.iadd, 1) := by decide +kernel
theorem dX12_dayOf_59 : decode cX12_dayOf 59 = .ok (.iload_n 0, 1) := by decide +kernel
theorem dX12_dayOf_60 : decode cX12_dayOf 60 = .ok (.bipush 100, 2) := by decide +kernel
theorem dX12_dayOf_62 : decode cX12_dayOf 62 = .ok (.irem, 1) := by decide +kernel
theorem dX12_dayOf_63 : decode cX12_dayOf 63 = .ok (.iadd, 1) := by decide +kernel
theorem dX12_dayOf_64 : decode cX12_dayOf 64 = .ok (.iconst 1, 1) := by decide +kernel
theorem dX12_dayOf_65 : decode cX12_dayOf 65 = .ok (.isub, 1) := by decide +kernel
theorem dX12_dayOf_66 : decode cX12_dayOf 66 = .ok (.ireturn, 1) := by decide +kernel
set_option maxRecDepth 20000 in
theorem ggX12_isMonthEnd_X12_daysIn : GoodIn wsX12_isMonthEnd wsX12_daysIn := goodIn_r _ [4] (by decide +kernel) (by decide +kernel)
set_option maxRecDepth 20000 in
theorem gX12_isMonthEnd_X12_daysIn : GoodIn wsX12_isMonthEnd (va_wsS RX12 136 yX12_daysIn wsX12_daysIn) := goodIn_app (goodIn_of _ (by decide +kernel)) ggX12_isMonthEnd_X12_daysIn
theorem dX12_isMonthEnd_0 : decode cX12_isMonthEnd 0 = .ok (.iload_n 0, 1) := by decide +kernel
theorem dX12_isMonthEnd_1 : decode cX12_isMonthEnd 1 = .ok (.bipush 100, 2) := by decide +kernel
theorem dX12_isMonthEnd_3 : decode cX12_isMonthEnd 3 = .ok (.irem, 1) := by decide +kernel
theorem dX12_isMonthEnd_4 : decode cX12_isMonthEnd 4 = .ok (.iload_n 0, 1) := by decide +kernel
theorem dX12_isMonthEnd_5 : decode cX12_isMonthEnd 5 = .ok (.sipush 10000, 3) := by decide +kernel
theorem dX12_isMonthEnd_8 : decode cX12_isMonthEnd 8 = .ok (.idiv, 1) := by decide +kernel
theorem dX12_isMonthEnd_9 : decode cX12_isMonthEnd 9 = .ok (.iload_n 0, 1) := by decide +kernel
theorem dX12_isMonthEnd_10 : decode cX12_isMonthEnd 10 = .ok (.bipush 100, 2) := by decide +kernel
theorem dX12_isMonthEnd_12 : decode cX12_isMonthEnd 12 = .ok (.idiv, 1) := by decide +kernel
theorem dX12_isMonthEnd_13 : decode cX12_isMonthEnd 13 = .ok (.bipush 100, 2) := by decide +kernel
theorem dX12_isMonthEnd_15 : decode cX12_isMonthEnd 15 = .ok (.irem, 1) := by decide +kernel
theorem dX12_isMonthEnd_16 : decode cX12_isMonthEnd 16 = .ok (.invokestatic 136, 3) := by decide +kernel
theorem dX12_isMonthEnd_19 : decode cX12_isMonthEnd 19 = .ok (.if_icmp .ne 7, 3) := by decide +kernel
theorem dX12_isMonthEnd_22 : decode cX12_isMonthEnd 22 = .ok (.iconst 1, 1) := by decide +kernel
theorem dX12_isMonthEnd_23 : decode cX12_isMonthEnd 23 = .ok (.goto 4, 3) := by decide +kernel
theorem dX12_isMonthEnd_26 : decode cX12_isMonthEnd 26 = .ok (.iconst 0, 1) := by decide +kernel
theorem dX12_isMonthEnd_27 : decode cX12_isMonthEnd 27 = .ok (.ireturn, 1) := by decide +kernel
set_option maxRecDepth 20000 in
theorem ggX12_monthsFrom_X12_daysIn : GoodIn wsX12_monthsFrom wsX12_daysIn := goodIn_r _ [4] (by decide +kernel) (by decide +kernel)
set_option maxRecDepth 20000 in
theorem gX12_monthsFrom_X12_daysIn : GoodIn wsX12_monthsFrom (va_wsS RX12 136 yX12_daysIn wsX12_daysIn) := goodIn_app (goodIn_of _ (by decide +kernel)) ggX12_monthsFrom_X12_daysIn
theorem dX12_monthsFrom_0 : decode cX12_monthsFrom 0 = .ok (.iload_n 0, 1) := by decide +kernel
theorem dX12_monthsFrom_1 : decode cX12_monthsFrom 1 = .ok (.sipush 10000, 3) := by decide +kernel
theorem dX12_monthsFrom_4 : decode cX12_monthsFrom 4 = .ok (.idiv, 1) := by decide +kernel
theorem dX12_monthsFrom_5 : decode cX12_monthsFrom 5 = .ok (.bipush 12, 2) := by decide +kernel
theorem dX12_monthsFrom_7 : decode cX12_monthsFrom 7 = .ok (.imul, 1) := by decide +kernel
theorem dX12_monthsFrom_8 : decode cX12_monthsFrom 8 = .ok (.iload_n 0, 1) := by decide +kernel
theorem dX12_monthsFrom_9 : decode cX12_monthsFrom 9 = .ok (.bipush 100, 2) := by decide +kernel
theorem dX12_monthsFrom_11 : decode cX12_monthsFrom 11 = .ok (.idiv, 1) := by decide +kernel
theorem dX12_monthsFrom_12 : decode cX12_monthsFrom 12 = .ok (.bipush 100, 2) := by decide +kernel
theorem dX12_monthsFrom_14 : decode cX12_monthsFrom 14 = .ok (.irem, 1) := by decide +kernel
theorem dX12_monthsFrom_15 : decode cX12_monthsFrom 15 = .ok (.iadd, 1) := by decide +kernel
theorem dX12_monthsFrom_16 : decode cX12_monthsFrom 16 = .ok (.iconst 1, 1) := by decide +kernel
theorem dX12_monthsFrom_17 : decode cX12_monthsFrom 17 = .ok (.isub, 1) := by decide +kernel
theorem dX12_monthsFrom_18 : decode cX12_monthsFrom 18 = .ok (.iload_n 1, 1) := by decide +kernel
theorem dX12_monthsFrom_19 : decode cX12_monthsFrom 19 = .ok (.iadd, 1) := by decide +kernel
theorem dX12_monthsFrom_20 : decode cX12_monthsFrom 20 = .ok (.istore_n 3, 1) := by decide +kernel
theorem dX12_monthsFrom_21 : decode cX12_monthsFrom 21 = .ok (.iload_n 3, 1) := by decide +kernel
theorem dX12_monthsFrom_22 : decode cX12_monthsFrom 22 = .ok (.bipush 12, 2) := by decide +kernel
theorem dX12_monthsFrom_24 : decode cX12_monthsFrom 24 = .ok (.idiv, 1) := by decide +kernel
theorem dX12_monthsFrom_25 : decode cX12_monthsFrom 25 = .ok (.iload_n 3, 1) := by decide +kernel
theorem dX12_monthsFrom_26 : decode cX12_monthsFrom 26 = .ok (.bipush 12, 2) := by decide +kernel
theorem dX12_monthsFrom_28 : decode cX12_monthsFrom 28 = .ok (.irem, 1) := by decide +kernel
theorem dX12_monthsFrom_29 : decode cX12_monthsFrom 29 = .ok (.iconst 1, 1) := by decide +kernel
theorem dX12_monthsFrom_30 : decode cX12_monthsFrom 30 = .ok (.iadd, 1) := by decide +kernel
theorem dX12_monthsFrom_31 : decode cX12_monthsFrom 31 = .ok (.invokestatic 136, 3) := by decide +kernel
theorem dX12_monthsFrom_34 : decode cX12_monthsFrom 34 = .ok (.istore 4, 2) := by decide +kernel
theorem dX12_monthsFrom_36 : decode cX12_monthsFrom 36 = .ok (.iload_n 2, 1) := by decide +kernel
theorem dX12_monthsFrom_37 : decode cX12_monthsFrom 37 = .ok (.ifCond .ne 12, 3) := by decide +kernel
theorem dX12_monthsFrom_40 : decode cX12_monthsFrom 40 = .ok (.iload_n 0, 1) := by decide +kernel
theorem dX12_monthsFrom_41 : decode cX12_monthsFrom 41 = .ok (.bipush 100, 2) := by decide +kernel
theorem dX12_monthsFrom_43 : decode cX12_monthsFrom 43 = .ok (.irem, 1) := by decide +kernel
theorem dX12_monthsFrom_44 : decode cX12_monthsFrom 44 = .ok (.iload 4, 2) := by decide +kernel
theorem dX12_monthsFrom_46 : decode cX12_monthsFrom 46 = .ok (.if_icmp .le 8, 3) := by decide +kernel
theorem dX12_monthsFrom_49 : decode cX12_monthsFrom 49 = .ok (.iload 4, 2) := by decide +kernel
theorem dX12_monthsFrom_51 : decode cX12_monthsFrom 51 = .ok (.goto 7, 3) := by decide +kernel
theorem dX12_monthsFrom_54 : decode cX12_monthsFrom 54 = .ok (.iload_n 0, 1) := by decide +kernel
theorem dX12_monthsFrom_55 : decode cX12_monthsFrom 55 = .ok (.bipush 100, 2) := by decide +kernel
theorem dX12_monthsFrom_57 : decode cX12_monthsFrom 57 = .ok (.irem, 1) := by decide +kernel
theorem dX12_monthsFrom_58 : decode cX12_monthsFrom 58 = .ok (.istore 5, 2) := by decide +kernel
theorem dX12_monthsFrom_60 : decode cX12_monthsFrom 60 = .ok (.iload_n 3, 1) := by decide +kernel
theorem dX12_monthsFrom_61 : decode cX12_monthsFrom 61 = .ok (.bipush 12, 2) := by decide +kernel
theorem dX12_monthsFrom_63 : decode cX12_monthsFrom 63 = .ok (.idiv, 1) := by decide +kernel
theorem dX12_monthsFrom_64 : decode cX12_monthsFrom 64 = .ok (.sipush 10000, 3) := by decide +kernel
theorem dX12_monthsFrom_67 : decode cX12_monthsFrom 67 = .ok (.imul, 1) := by decide +kernel
theorem dX12_monthsFrom_68 : decode cX12_monthsFrom 68 = .ok (.iload_n 3, 1) := by decide +kernel
theorem dX12_monthsFrom_69 : decode cX12_monthsFrom 69 = .ok (.bipush 12, 2) := by decide +kernel
theorem dX12_monthsFrom_71 : decode cX12_monthsFrom 71 = .ok (.irem, 1) := by decide +kernel
theorem dX12_monthsFrom_72 : decode cX12_monthsFrom 72 = .ok (.iconst 1, 1) := by decide +kernel
theorem dX12_monthsFrom_73 : decode cX12_monthsFrom 73 = .ok (.iadd, 1) := by decide +kernel
theorem dX12_monthsFrom_74 : decode cX12_monthsFrom 74 = .ok (.bipush 100, 2) := by decide +kernel
theorem dX12_monthsFrom_76 : decode cX12_monthsFrom 76 = .ok (.imul, 1) := by decide +kernel
theorem dX12_monthsFrom_77 : decode cX12_monthsFrom 77 = .ok (.iadd, 1) := by decide +kernel
theorem dX12_monthsFrom_78 : decode cX12_monthsFrom 78 = .ok (.iload 5, 2) := by decide +kernel
theorem dX12_monthsFrom_80 : decode cX12_monthsFrom 80 = .ok (.iadd, 1) := by decide +kernel
theorem dX12_monthsFrom_81 : decode cX12_monthsFrom 81 = .ok (.ireturn, 1) := by decide +kernel
set_option maxRecDepth 20000 in
theorem ggX12_weekdayOf_X12_dayOf : GoodIn wsX12_weekdayOf wsX12_dayOf := goodIn_r _ [6, 7, 8, 5, 9] (by decide +kernel) (by decide +kernel)
set_option maxRecDepth 20000 in
theorem gX12_weekdayOf_X12_dayOf : GoodIn wsX12_weekdayOf (va_wsS RX12 143 yX12_dayOf wsX12_dayOf) := goodIn_app (goodIn_of _ (by decide +kernel)) ggX12_weekdayOf_X12_dayOf
theorem dX12_weekdayOf_0 : decode cX12_weekdayOf 0 = .ok (.iload_n 0, 1) := by decide +kernel
theorem dX12_weekdayOf_1 : decode cX12_weekdayOf 1 = .ok (.ldc 130, 2) := by decide +kernel
theorem dX12_weekdayOf_3 : decode cX12_weekdayOf 3 = .ok (.invokestatic 143, 3) := by decide +kernel
theorem dX12_weekdayOf_6 : decode cX12_weekdayOf 6 = .ok (.isub, 1) := by decide +kernel
theorem dX12_weekdayOf_7 : decode cX12_weekdayOf 7 = .ok (.ldc 146, 2) := by decide +kernel
theorem dX12_weekdayOf_9 : decode cX12_weekdayOf 9 = .ok (.iadd, 1) := by decide +kernel
theorem dX12_weekdayOf_10 : decode cX12_weekdayOf 10 = .ok (.bipush 7, 2) := by decide +kernel
theorem dX12_weekdayOf_12 : decode cX12_weekdayOf 12 = .ok (.irem, 1) := by decide +kernel
theorem dX12_weekdayOf_13 : decode cX12_weekdayOf 13 = .ok (.ireturn, 1) := by decide +kernel
theorem dX12_thirties_0 : decode cX12_thirties 0 = .ok (.iload_n 0, 1) := by decide +kernel
theorem dX12_thirties_1 : decode cX12_thirties 1 = .ok (.bipush 100, 2) := by decide +kernel
theorem dX12_thirties_3 : decode cX12_thirties 3 = .ok (.irem, 1) := by decide +kernel
theorem dX12_thirties_4 : decode cX12_thirties 4 = .ok (.bipush 31, 2) := by decide +kernel
theorem dX12_thirties_6 : decode cX12_thirties 6 = .ok (.if_icmp .ne 8, 3) := by decide +kernel
theorem dX12_thirties_9 : decode cX12_thirties 9 = .ok (.bipush 30, 2) := by decide +kernel
theorem dX12_thirties_11 : decode cX12_thirties 11 = .ok (.goto 7, 3) := by decide +kernel
theorem dX12_thirties_14 : decode cX12_thirties 14 = .ok (.iload_n 0, 1) := by decide +kernel
theorem dX12_thirties_15 : decode cX12_thirties 15 = .ok (.bipush 100, 2) := by decide +kernel
theorem dX12_thirties_17 : decode cX12_thirties 17 = .ok (.irem, 1) := by decide +kernel
theorem dX12_thirties_18 : decode cX12_thirties 18 = .ok (.istore_n 3, 1) := by decide +kernel
theorem dX12_thirties_19 : decode cX12_thirties 19 = .ok (.iload_n 1, 1) := by decide +kernel
theorem dX12_thirties_20 : decode cX12_thirties 20 = .ok (.bipush 100, 2) := by decide +kernel
theorem dX12_thirties_22 : decode cX12_thirties 22 = .ok (.irem, 1) := by decide +kernel
theorem dX12_thirties_23 : decode cX12_thirties 23 = .ok (.bipush 31, 2) := by decide +kernel
theorem dX12_thirties_25 : decode cX12_thirties 25 = .ok (.if_icmp .ne 18, 3) := by decide +kernel
theorem dX12_thirties_28 : decode cX12_thirties 28 = .ok (.iload_n 2, 1) := by decide +kernel
theorem dX12_thirties_29 : decode cX12_thirties 29 = .ok (.ifCond .ne 9, 3) := by decide +kernel
theorem dX12_thirties_32 : decode cX12_thirties 32 = .ok (.iload_n 3, 1) := by decide +kernel
theorem dX12_thirties_33 : decode cX12_thirties 33 = .ok (.bipush 30, 2) := by decide +kernel
theorem dX12_thirties_35 : decode cX12_thirties 35 = .ok (.if_icmp .ne 8, 3) := by decide +kernel
theorem dX12_thirties_38 : decode cX12_thirties 38 = .ok (.bipush 30, 2) := by decide +kernel
theorem dX12_thirties_40 : decode cX12_thirties 40 = .ok (.goto 7, 3) := by decide +kernel
theorem dX12_thirties_43 : decode cX12_thirties 43 = .ok (.iload_n 1, 1) := by decide +kernel
theorem dX12_thirties_44 : decode cX12_thirties 44 = .ok (.bipush 100, 2) := by decide +kernel
theorem dX12_thirties_46 : decode cX12_thirties 46 = .ok (.irem, 1) := by decide +kernel
theorem dX12_thirties_47 : decode cX12_thirties 47 = .ok (.istore 4, 2) := by decide +kernel
theorem dX12_thirties_49 : decode cX12_thirties 49 = .ok (.sipush 360, 3) := by decide +kernel
theorem dX12_thirties_52 : decode cX12_thirties 52 = .ok (.iload_n 1, 1) := by decide +kernel
theorem dX12_thirties_53 : decode cX12_thirties 53 = .ok (.sipush 10000, 3) := by decide +kernel
theorem dX12_thirties_56 : decode cX12_thirties 56 = .ok (.idiv, 1) := by decide +kernel
theorem dX12_thirties_57 : decode cX12_thirties 57 = .ok (.iload_n 0, 1) := by decide +kernel
theorem dX12_thirties_58 : decode cX12_thirties 58 = .ok (.sipush 10000, 3) := by decide +kernel
theorem dX12_thirties_61 : decode cX12_thirties 61 = .ok (.idiv, 1) := by decide +kernel
theorem dX12_thirties_62 : decode cX12_thirties 62 = .ok (.isub, 1) := by decide +kernel
theorem dX12_thirties_63 : decode cX12_thirties 63 = .ok (.imul, 1) := by decide +kernel
theorem dX12_thirties_64 : decode cX12_thirties 64 = .ok (.bipush 30, 2) := by decide +kernel
theorem dX12_thirties_66 : decode cX12_thirties 66 = .ok (.iload_n 1, 1) := by decide +kernel
theorem dX12_thirties_67 : decode cX12_thirties 67 = .ok (.bipush 100, 2) := by decide +kernel
theorem dX12_thirties_69 : decode cX12_thirties 69 = .ok (.idiv, 1) := by decide +kernel
theorem dX12_thirties_70 : decode cX12_thirties 70 = .ok (.bipush 100, 2) := by decide +kernel
theorem dX12_thirties_72 : decode cX12_thirties 72 = .ok (.irem, 1) := by decide +kernel
theorem dX12_thirties_73 : decode cX12_thirties 73 = .ok (.iload_n 0, 1) := by decide +kernel
theorem dX12_thirties_74 : decode cX12_thirties 74 = .ok (.bipush 100, 2) := by decide +kernel
theorem dX12_thirties_76 : decode cX12_thirties 76 = .ok (.idiv, 1) := by decide +kernel
theorem dX12_thirties_77 : decode cX12_thirties 77 = .ok (.bipush 100, 2) := by decide +kernel
theorem dX12_thirties_79 : decode cX12_thirties 79 = .ok (.irem, 1) := by decide +kernel
theorem dX12_thirties_80 : decode cX12_thirties 80 = .ok (.isub, 1) := by decide +kernel
theorem dX12_thirties_81 : decode cX12_thirties 81 = .ok (.imul, 1) := by decide +kernel
theorem dX12_thirties_82 : decode cX12_thirties 82 = .ok (.iadd, 1) := by decide +kernel
theorem dX12_thirties_83 : decode cX12_thirties 83 = .ok (.iload 4, 2) := by decide +kernel
theorem dX12_thirties_85 : decode cX12_thirties 85 = .ok (.iadd, 1) := by decide +kernel
theorem dX12_thirties_86 : decode cX12_thirties 86 = .ok (.iload_n 3, 1) := by decide +kernel
theorem dX12_thirties_87 : decode cX12_thirties 87 = .ok (.isub, 1) := by decide +kernel
theorem dX12_thirties_88 : decode cX12_thirties 88 = .ok (.ireturn, 1) := by decide +kernel
theorem dJ9_floorMod_7cf53_0 : decode cJ9_floorMod_7cf53 0 = .ok (.iload_n 0, 1) := by decide +kernel
theorem dJ9_floorMod_7cf53_1 : decode cJ9_floorMod_7cf53 1 = .ok (.iload_n 1, 1) := by decide +kernel
theorem dJ9_floorMod_7cf53_2 : decode cJ9_floorMod_7cf53 2 = .ok (.irem, 1) := by decide +kernel
theorem dJ9_floorMod_7cf53_3 : decode cJ9_floorMod_7cf53 3 = .ok (.istore_n 2, 1) := by decide +kernel
theorem dJ9_floorMod_7cf53_4 : decode cJ9_floorMod_7cf53 4 = .ok (.iload_n 0, 1) := by decide +kernel
theorem dJ9_floorMod_7cf53_5 : decode cJ9_floorMod_7cf53 5 = .ok (.iload_n 1, 1) := by decide +kernel
theorem dJ9_floorMod_7cf53_6 : decode cJ9_floorMod_7cf53 6 = .ok (.ixor, 1) := by decide +kernel
theorem dJ9_floorMod_7cf53_7 : decode cJ9_floorMod_7cf53 7 = .ok (.ifCond .ge 11, 3) := by decide +kernel
theorem dJ9_floorMod_7cf53_10 : decode cJ9_floorMod_7cf53 10 = .ok (.iload_n 2, 1) := by decide +kernel
theorem dJ9_floorMod_7cf53_11 : decode cJ9_floorMod_7cf53 11 = .ok (.ifCond .eq 7, 3) := by decide +kernel
theorem dJ9_floorMod_7cf53_14 : decode cJ9_floorMod_7cf53 14 = .ok (.iload_n 2, 1) := by decide +kernel
theorem dJ9_floorMod_7cf53_15 : decode cJ9_floorMod_7cf53 15 = .ok (.iload_n 1, 1) := by decide +kernel
theorem dJ9_floorMod_7cf53_16 : decode cJ9_floorMod_7cf53 16 = .ok (.iadd, 1) := by decide +kernel
theorem dJ9_floorMod_7cf53_17 : decode cJ9_floorMod_7cf53 17 = .ok (.ireturn, 1) := by decide +kernel
theorem dJ9_floorMod_7cf53_18 : decode cJ9_floorMod_7cf53 18 = .ok (.iload_n 2, 1) := by decide +kernel
theorem dJ9_floorMod_7cf53_19 : decode cJ9_floorMod_7cf53 19 = .ok (.ireturn, 1) := by decide +kernel
abbrev vwCl : List vw_C := [(RX0, TX0, 16), (RX1, TX1, 4), (RX2, TX2, 6), (RX4, TX4, 12), (RX5, TX5, 2), (RX6, TX6, 2), (RX7, TX7, 5), (RX8, TX8, 8), (RX9, TX9, 2), (RX10, TX10, 7), (RX11, TX11, 15), (RX12, TX12, 69)]
