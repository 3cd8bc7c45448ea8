theorem dX12_isDate_10 : decode cX12_isDate 10 = .ok (.bipush 100, 2) := by decide +kernel
theorem dX12_isDate_12 : decode cX12_isDate 12 = .ok (.irem, 1) := by decide +kernel
theorem dX12_isDate_13 : decode cX12_isDate 13 = .ok (.istore_n 2, 1) := by decide +kernel
theorem dX12_isDate_14 : decode cX12_isDate 14 = .ok (.iload_n 0, 1) := by decide +kernel
theorem dX12_isDate_15 : decode cX12_isDate 15 = .ok (.ldc 130, 2) := by decide +kernel
theorem dX12_isDate_17 : decode cX12_isDate 17 = .ok (.ldc 131, 2) := by decide +kernel
theorem dX12_isDate_19 : decode cX12_isDate 19 = .ok (.invokestatic 132, 3) := by decide +kernel
theorem dX12_isDate_22 : decode cX12_isDate 22 = .ok (.ifCond .eq 33, 3) := by decide +kernel
theorem dX12_isDate_25 : decode cX12_isDate 25 = .ok (.iload_n 2, 1) := by decide +kernel
theorem dX12_isDate_26 : decode cX12_isDate 26 = .ok (.iconst 1, 1) := by decide +kernel
theorem dX12_isDate_27 : decode cX12_isDate 27 = .ok (.bipush 12, 2) := by decide +kernel
theorem dX12_isDate_29 : decode cX12_isDate 29 = .ok (.invokestatic 132, 3) := by decide +kernel
theorem dX12_isDate_32 : decode cX12_isDate 32 = .ok (.ifCond .eq 23, 3) := by decide +kernel
theorem dX12_isDate_35 : decode cX12_isDate 35 = .ok (.iload_n 0, 1) := by decide +kernel
theorem dX12_isDate_36 : decode cX12_isDate 36 = .ok (.bipush 100, 2) := by decide +kernel
theorem dX12_isDate_38 : decode cX12_isDate 38 = .ok (.irem, 1) := by decide +kernel
theorem dX12_isDate_39 : decode cX12_isDate 39 = .ok (.iconst 1, 1) := by decide +kernel
theorem dX12_isDate_40 : decode cX12_isDate 40 = .ok (.iload_n 1, 1) := by decide +kernel
theorem dX12_isDate_41 : decode cX12_isDate 41 = .ok (.iload_n 2, 1) := by decide +kernel
theorem dX12_isDate_42 : decode cX12_isDate 42 = .ok (.invokestatic 136, 3) := by decide +kernel
theorem dX12_isDate_45 : decode cX12_isDate 45 = .ok (.invokestatic 132, 3) := by decide +kernel
theorem dX12_isDate_48 : decode cX12_isDate 48 = .ok (.ifCond .eq 7, 3) := by decide +kernel
theorem dX12_isDate_51 : decode cX12_isDate 51 = .ok (.iconst 1, 1) := by decide +kernel
theorem dX12_isDate_52 : decode cX12_isDate 52 = .ok (.goto 4, 3) := by decide +kernel
theorem dX12_isDate_55 : decode cX12_isDate 55 = .ok (.iconst 0, 1) := by decide +kernel
theorem dX12_isDate_56 : decode cX12_isDate 56 = .ok (.ireturn, 1) := by decide +kernel
theorem dX12_march_0 : decode cX12_march 0 = .ok (.sipush 365, 3) := by decide +kernel
theorem dX12_march_3 : decode cX12_march 3 = .ok (.iload_n 0, 1) := by decide +kernel
theorem dX12_march_4 : decode cX12_march 4 = .ok (.imul, 1) := by decide +kernel
theorem dX12_march_5 : decode cX12_march 5 = .ok (.iload_n 0, 1) := by decide +kernel
theorem dX12_march_6 : decode cX12_march 6 = .ok (.iconst 4, 1) := by decide +kernel
theorem dX12_march_7 : decode cX12_march 7 = .ok (.idiv, 1) := by decide +kernel
theorem dX12_march_8 : decode cX12_march 8 = .ok (.iadd, 1) := by decide +kernel
theorem dX12_march_9 : decode cX12_march 9 = .ok (.iload_n 0, 1) := by decide +kernel
theorem dX12_march_10 : decode cX12_march 10 = .ok (.bipush 100, 2) := by decide +kernel
theorem dX12_march_12 : decode cX12_march 12 = .ok (.idiv, 1) := by decide +kernel
theorem dX12_march_13 : decode cX12_march 13 = .ok (.isub, 1) := by decide +kernel
theorem dX12_march_14 : decode cX12_march 14 = .ok (.iload_n 0, 1) := by decide +kernel
theorem dX12_march_15 : decode cX12_march 15 = .ok (.sipush 400, 3) := by decide +kernel
theorem dX12_march_18 : decode cX12_march 18 = .ok (.idiv, 1) := by decide +kernel
theorem dX12_march_19 : decode cX12_march 19 = .ok (.iadd, 1) := by decide +kernel
theorem dX12_march_20 : decode cX12_march 20 = .ok (.ireturn, 1) := by decide +kernel
set_option maxRecDepth 20000 in
theorem ggX12_dayOf_X12_march : GoodIn wsX12_dayOf wsX12_march := goodIn_r _ [4] (by decide +kernel) (by decide +kernel)
set_option maxRecDepth 20000 in
theorem gX12_dayOf_X12_march : GoodIn wsX12_dayOf (va_wsS RX12 140 yX12_march wsX12_march) := goodIn_app (goodIn_of _ (by decide +kernel)) ggX12_dayOf_X12_march
theorem dX12_dayOf_0 : decode cX12_dayOf 0 = .ok (.iload_n 0, 1) := by decide +kernel
theorem dX12_dayOf_1 : decode cX12_dayOf 1 = .ok (.bipush 100, 2) := by decide +kernel
theorem dX12_dayOf_3 : decode cX12_dayOf 3 = .ok (.idiv, 1) := by decide +kernel
theorem dX12_dayOf_4 : decode cX12_dayOf 4 = .ok (.bipush 100, 2) := by decide +kernel
theorem dX12_dayOf_6 : decode cX12_dayOf 6 = .ok (.irem, 1) := by decide +kernel
theorem dX12_dayOf_7 : decode cX12_dayOf 7 = .ok (.istore_n 1, 1) := by decide +kernel
theorem dX12_dayOf_8 : decode cX12_dayOf 8 = .ok (.iload_n 1, 1) := by decide +kernel
theorem dX12_dayOf_9 : decode cX12_dayOf 9 = .ok (.iconst 3, 1) := by decide +kernel
theorem dX12_dayOf_10 : decode cX12_dayOf 10 = .ok (.if_icmp .ge 13, 3) := by decide +kernel
theorem dX12_dayOf_13 : decode cX12_dayOf 13 = .ok (.iload_n 0, 1) := by decide +kernel
theorem dX12_dayOf_14 : decode cX12_dayOf 14 = .ok (.sipush 10000, 3) := by decide +kernel
theorem dX12_dayOf_17 : decode cX12_dayOf 17 = .ok (.idiv, 1) := by decide +kernel
theorem dX12_dayOf_18 : decode cX12_dayOf 18 = .ok (.iconst 1, 1) := by decide +kernel
theorem dX12_dayOf_19 : decode cX12_dayOf 19 = .ok (.isub, 1) := by decide +kernel
theorem dX12_dayOf_20 : decode cX12_dayOf 20 = .ok (.goto 8, 3) := by decide +kernel
theorem dX12_dayOf_23 : decode cX12_dayOf 23 = .ok (.iload_n 0, 1) := by decide +kernel
theorem dX12_dayOf_24 : decode cX12_dayOf 24 = .ok (.sipush 10000, 3) := by decide +kernel
theorem dX12_dayOf_27 : decode cX12_dayOf 27 = .ok (.idiv, 1) := by decide +kernel
theorem dX12_dayOf_28 : decode cX12_dayOf 28 = .ok (.istore_n 2, 1) := by decide +kernel
theorem dX12_dayOf_29 : decode cX12_dayOf 29 = .ok (.iload_n 1, 1) := by decide +kernel
theorem dX12_dayOf_30 : decode cX12_dayOf 30 = .ok (.iconst 3, 1) := by decide +kernel
theorem dX12_dayOf_31 : decode cX12_dayOf 31 = .ok (.if_icmp .ge 10, 3) := by decide +kernel
theorem dX12_dayOf_34 : decode cX12_dayOf 34 = .ok (.iload_n 1, 1) := by decide +kernel
theorem dX12_dayOf_35 : decode cX12_dayOf 35 = .ok (.bipush 9, 2) := by decide +kernel
theorem dX12_dayOf_37 : decode cX12_dayOf 37 = .ok (.iadd, 1) := by decide +kernel
theorem dX12_dayOf_38 : decode cX12_dayOf 38 = .ok (.goto 6, 3) := by decide +kernel
theorem dX12_dayOf_41 : decode cX12_dayOf 41 = .ok (.iload_n 1, 1) := by decide +kernel
theorem dX12_dayOf_42 : decode cX12_dayOf 42 = .ok (.iconst 3, 1) := by decide +kernel
theorem dX12_dayOf_43 : decode cX12_dayOf 43 = .ok (.isub, 1) := by decide +kernel
theorem dX12_dayOf_44 : decode cX12_dayOf 44 = .ok (.istore_n 3, 1) := by decide +kernel
theorem dX12_dayOf_45 : decode cX12_dayOf 45 = .ok (.iload_n 2, 1) := by decide +kernel
theorem dX12_dayOf_46 : decode cX12_dayOf 46 = .ok (.invokestatic 140, 3) := by decide +kernel
theorem dX12_dayOf_49 : decode cX12_dayOf 49 = .ok (.sipush 153, 3) := by decide +kernel
theorem dX12_dayOf_52 : decode cX12_dayOf 52 = .ok (.iload_n 3, 1) := by decide +kernel
theorem dX12_dayOf_53 : decode cX12_dayOf 53 = .ok (.imul, 1) := by decide +kernel
theorem dX12_dayOf_54 : decode cX12_dayOf 54 = .ok (.iconst 2, 1) := by decide +kernel
theorem dX12_dayOf_55 : decode cX12_dayOf 55 = .ok (.iadd, 1) := by decide +kernel
theorem dX12_dayOf_56 : decode cX12_dayOf 56 = .ok (.iconst 5, 1) := by decide +kernel
theorem dX12_dayOf_57 : decode cX12_dayOf 57 = .ok (.idiv, 1) := by decide +kernel
theorem dX12_dayOf_58 : decode cX12_dayOf 58 = .ok (.iadd, 1) := by decide +kernel
theorem dX12_dayOf_59 : decode cX12_dayOf 59 = .ok (.iload_n 0, 1) := by decide +kernel
theorem dX12_dayOf_60 : decode cX12_dayOf 60 = .ok (.bipush 100, 2) := by decide +kernel
theorem dX12_dayOf_62 : decode cX12_dayOf 62 = .ok (.irem, 1) := by decide +kernel
theorem dX12_dayOf_63 : decode cX12_dayOf 63 = .ok (.iadd, 1) := by decide +kernel
theorem dX12_dayOf_64 : decode cX12_dayOf 64 = .ok (.iconst 1, 1) := by decide +kernel
theorem dX12_dayOf_65 : decode cX12_dayOf 65 = .ok (.isub, 1) := by decide +kernel
theorem dX12_dayOf_66 : decode cX12_dayOf 66 = .ok (.ireturn, 1) := by decide +kernel
set_option maxRecDepth 20000 in
theorem ggX12_isMonthEnd_X12_daysIn : GoodIn wsX12_isMonthEnd wsX12_daysIn := goodIn_r _ [4] (by decide +kernel) (by decide +kernel)
set_option maxRecDepth 20000 in
theorem gX12_isMonthEnd_X12_daysIn : GoodIn wsX12_isMonthEnd (va_wsS RX12 136 yX12_daysIn wsX12_daysIn) := goodIn_app (goodIn_of _ (by decide +kernel)) ggX12_isMonthEnd_X12_daysIn
theorem dX12_isMonthEnd_0 : decode cX12_isMonthEnd 0 = .ok (.iload_n 0, 1) := by decide +kernel
theorem dX12_isMonthEnd_1 : decode cX12_isMonthEnd 1 = .ok (.bipush 100, 2) := by decide +kernel
theorem dX12_isMonthEnd_3 : decode cX12_isMonthEnd 3 = .ok (.irem, 1) := by decide +kernel
theorem dX12_isMonthEnd_4 : decode cX12_isMonthEnd 4 = .ok (.iload_n 0, 1) := by decide +kernel
theorem dX12_isMonthEnd_5 : decode cX12_isMonthEnd 5 = .ok (.sipush 10000, 3) := by decide +kernel
theorem dX12_isMonthEnd_8 : decode cX12_isMonthEnd 8 = .ok (.idiv, 1) := by decide +kernel
theorem dX12_isMonthEnd_9 : decode cX12_isMonthEnd 9 = .ok (.iload_n 0, 1) := by decide +kernel
theorem dX12_isMonthEnd_10 : decode cX12_isMonthEnd 10 = .ok (.bipush 100, 2) := by decide +kernel
theorem dX12_isMonthEnd_12 : decode cX12_isMonthEnd 12 = .ok (.idiv, 1) := by decide +kernel
theorem dX12_isMonthEnd_13 : decode cX12_isMonthEnd 13 = .ok (.bipush 100, 2) := by decide +kernel
theorem dX12_isMonthEnd_15 : decode cX12_isMonthEnd 15 = .ok (.irem, 1) := by decide +kernel
theorem dX12_isMonthEnd_16 : decode cX12_isMonthEnd 16 = .ok (.invokestatic 136, 3) := by decide +kernel
theorem dX12_isMonthEnd_19 : decode cX12_isMonthEnd 19 = .ok (.if_icmp .ne 7, 3) := by decide +kernel
theorem dX12_isMonthEnd_22 : decode cX12_isMonthEnd 22 = .ok (.iconst 1, 1) := by decide +kernel
theorem dX12_isMonthEnd_23 : decode cX12_isMonthEnd 23 = .ok (.goto 4, 3) := by decide +kernel
theorem dX12_isMonthEnd_26 : decode cX12_isMonthEnd 26 = .ok (.iconst 0, 1) := by decide +kernel
theorem dX12_isMonthEnd_27 : decode cX12_isMonthEnd 27 = .ok (.ireturn, 1) := by decide +kernel
set_option maxRecDepth 20000 in
theorem ggX12_monthsFrom_X12_daysIn : GoodIn wsX12_monthsFrom wsX12_daysIn := goodIn_r _ [4] (by decide +kernel) (by decide +kernel)
set_option maxRecDepth 20000 in
theorem gX12_monthsFrom_X12_daysIn : GoodIn wsX12_monthsFrom (va_wsS RX12 136 yX12_daysIn wsX12_daysIn) := goodIn_app (goodIn_of _ (by decide +kernel)) ggX12_monthsFrom_X12_daysIn
theorem dX12_monthsFrom_0 : decode cX12_monthsFrom 0 = .ok (.iload_n 0, 1) := by decide +kernel
theorem dX12_monthsFrom_1 : decode cX12_monthsFrom 1 = .ok (.sipush 10000, 3) := by decide +kernel
theorem dX12_monthsFrom_4 : decode cX12_monthsFrom 4 = .ok (.idiv, 1) := by decide +kernel
theorem dX12_monthsFrom_5 : decode cX12_monthsFrom 5 = .ok (.bipush 12, 2) := by decide +kernel
theorem dX12_monthsFrom_7 : decode cX12_monthsFrom 7 = .ok (.imul, 1) := by decide +kernel
theorem dX12_monthsFrom_8 : decode cX12_monthsFrom 8 = .ok (.iload_n 0, 1) := by decide +kernel
theorem dX12_monthsFrom_9 : decode cX12_monthsFrom 9 = .ok (.bipush 100, 2) := by decide +kernel
theorem dX12_monthsFrom_11 : decode cX12_monthsFrom 11 = .ok (.idiv, 1) := by decide +kernel
theorem dX12_monthsFrom_12 : decode cX12_monthsFrom 12 = .ok (.bipush 100, 2) := by decide +kernel
theorem dX12_monthsFrom_14 : decode cX12_monthsFrom 14 = .ok (.irem, 1) := by decide +kernel
theorem dX12_monthsFrom_15 : decode cX12_monthsFrom 15 = .ok (.iadd, 1) := by decide +kernel
theorem dX12_monthsFrom_16 : decode cX12_monthsFrom 16 = .ok (.iconst 1, 1) := by decide +kernel
theorem dX12_monthsFrom_17 : decode cX12_monthsFrom 17 = .ok (.isub, 1) := by decide +kernel
theorem dX12_monthsFrom_18 : decode cX12_monthsFrom 18 = .ok (.iload_n 1, 1) := by decide +kernel
theorem dX12_monthsFrom_19 : decode cX12_monthsFrom 19 = .ok (.iadd, 1) := by decide +kernel
theorem dX12_monthsFrom_20 : decode cX12_monthsFrom 20 = .ok (.istore_n 3, 1) := by decide +kernel
theorem dX12_monthsFrom_21 : decode cX12_monthsFrom 21 = .ok (.iload_n 3, 1) := by decide +kernel
theorem dX12_monthsFrom_22 : decode cX12_monthsFrom 22 = .ok (.bipush 12, 2) := by decide +kernel
theorem dX12_monthsFrom_24 : decode cX12_monthsFrom 24 = .ok (.idiv, 1) := by decide +kernel
theorem dX12_monthsFrom_25 : decode cX12_monthsFrom 25 = .ok (.iload_n 3, 1) := by decide +kernel
theorem dX12_monthsFrom_26 : decode cX12_monthsFrom 26 = .ok (.bipush 12, 2) := by decide +kernel
theorem dX12_monthsFrom_28 : decode cX12_monthsFrom 28 = .ok (.irem, 1) := by decide +kernel
theorem dX12_monthsFrom_29 : decode cX12_monthsFrom 29 = .ok (.iconst 1, 1) := by decide +kernel
theorem dX12_monthsFrom_30 : decode cX12_monthsFrom 30 = .ok (.iadd, 1) := by decide +kernel
theorem dX12_monthsFrom_31 : decode cX12_monthsFrom 31 = .ok (.invokestatic 136, 3) := by decide +kernel
theorem dX12_monthsFrom_34 : decode cX12_monthsFrom 34 = .ok (.istore 4, 2) := by decide +kernel
theorem dX12_monthsFrom_36 : decode cX12_monthsFrom 36 = .ok (.iload_n 2, 1) := by decide +kernel
theorem dX12_monthsFrom_37 : decode cX12_monthsFrom 37 = .ok (.ifCond .ne 12, 3) := by decide +kernel
theorem dX12_monthsFrom_40 : decode cX12_monthsFrom 40 = .ok (.iload_n 0, 1) := by decide +kernel
theorem dX12_monthsFrom_41 : decode cX12_monthsFrom 41 = .ok (.bipush 100, 2) := by decide +kernel
theorem dX12_monthsFrom_43 : decode cX12_monthsFrom 43 = .ok (.irem, 1) := by decide +kernel
theorem dX12_monthsFrom_44 : decode cX12_monthsFrom 44 = .ok (.iload 4, 2) := by decide +kernel
theorem dX12_monthsFrom_46 : decode cX12_monthsFrom 46 = .ok (.if_icmp .le 8, 3) := by decide +kernel
theorem dX12_monthsFrom_49 : decode cX12_monthsFrom 49 = .ok (.iload 4, 2) := by decide +kernel
theorem dX12_monthsFrom_51 : decode cX12_monthsFrom 51 = .ok (.goto 7, 3) := by decide +kernel
theorem dX12_monthsFrom_54 : decode cX12_monthsFrom 54 = .ok (.iload_n 0, 1) := by decide +kernel
theorem dX12_monthsFrom_55 : decode cX12_monthsFrom 55 = .ok (.bipush 100, 2) := by decide +kernel
theorem dX12_monthsFrom_57 : decode cX12_monthsFrom 57 = .ok (.irem, 1) := by decide +kernel
theorem dX12_monthsFrom_58 : decode cX12_monthsFrom 58 = .ok (.istore 5, 2) := by decide +kernel
theorem dX12_monthsFrom_60 : decode cX12_monthsFrom 60 = .ok (.iload_n 3, 1) := by decide +kernel
theorem dX12_monthsFrom_61 : decode cX12_monthsFrom 61 = .ok (.bipush 12, 2) := by decide +kernel
theorem dX12_monthsFrom_63 : decode cX12_monthsFrom 63 = .ok (.idiv, 1) := by decide +kernel
theorem dX12_monthsFrom_64 : decode cX12_monthsFrom 64 = .ok (.sipush 10000, 3) := by decide +kernel
theorem dX12_monthsFrom_67 : decode cX12_monthsFrom 67 = .ok (.imul, 1) := by decide +kernel
theorem dX12_monthsFrom_68 : decode cX12_monthsFrom 68 = .ok (.iload_n 3, 1) := by decide +kernel
theorem dX12_monthsFrom_69 : decode cX12_monthsFrom 69 = .ok (.bipush 12, 2) := by decide +kernel
theorem dX12_monthsFrom_71 : decode cX12_monthsFrom 71 = .ok (.irem, 1) := by decide +kernel
theorem dX12_monthsFrom_72 : decode cX12_monthsFrom 72 = .ok (.iconst 1, 1) := by decide +kernel
theorem dX12_monthsFrom_73 : decode cX12_monthsFrom 73 = .ok (.iadd, 1) := by decide +kernel
theorem dX12_monthsFrom_74 : decode cX12_monthsFrom 74 = .ok (.bipush 100, 2) := by decide +kernel
theorem dX12_monthsFrom_76 : decode cX12_monthsFrom 76 = .ok (.imul, 1) := by decide +kernel
theorem dX12_monthsFrom_77 : decode cX12_monthsFrom 77 = .ok (.iadd, 1) := by decide +kernel
theorem dX12_monthsFrom_78 : decode cX12_monthsFrom 78 = .ok (.iload 5, 2) := by decide +kernel
theorem dX12_monthsFrom_80 : decode cX12_monthsFrom 80 = .ok (.iadd, 1) := by decide +kernel
theorem dX12_monthsFrom_81 : decode cX12_monthsFrom 81 = .ok (.ireturn, 1) := by decide +kernel
set_option maxRecDepth 20000 in
theorem ggX12_weekdayOf_X12_dayOf : GoodIn wsX12_weekdayOf wsX12_dayOf := goodIn_r _ [6, 7, 8, 5, 9] (by decide +kernel) (by decide +kernel)
set_option maxRecDepth 20000 in
theorem gX12_weekdayOf_X12_dayOf : GoodIn wsX12_weekdayOf (va_wsS RX12 143 yX12_dayOf wsX12_dayOf) := goodIn_app (goodIn_of _ (by decide +kernel)) ggX12_weekdayOf_X12_dayOf
theorem dX12_weekdayOf_0 : decode cX12_weekdayOf 0 = .ok (.iload_n 0, 1) := by decide +kernel
theorem dX12_weekdayOf_1 : decode cX12_weekdayOf 1 = .ok (.ldc 130, 2) := by decide +kernel
theorem dX12_weekdayOf_3 : decode cX12_weekdayOf 3 = .ok (.invokestatic 143, 3) := by decide +kernel
theorem dX12_weekdayOf_6 : decode cX12_weekdayOf 6 = .ok (.isub, 1) := by decide +kernel
theorem dX12_weekdayOf_7 : decode cX12_weekdayOf 7 = .ok (.ldc 146, 2) := by decide +kernel
theorem dX12_weekdayOf_9 : decode cX12_weekdayOf 9 = .ok (.iadd, 1) := by decide +kernel
theorem dX12_weekdayOf_10 : decode cX12_weekdayOf 10 = .ok (.bipush 7, 2) := by decide +kernel
theorem dX12_weekdayOf_12 : decode cX12_weekdayOf 12 = .ok (.irem, 1) := by decide +kernel
theorem dX12_weekdayOf_13 : decode cX12_weekdayOf 13 = .ok (.ireturn, 1) := by decide +kernel
theorem dX12_common_0 : decode cX12_common 0 = .ok (.lload_n 0, 1) := by decide +kernel
theorem dX12_common_1 : decode cX12_common 1 = .ok (.lconst 0, 1) := by decide +kernel
theorem dX12_common_2 : decode cX12_common 2 = .ok (.lcmp, 1) := by decide +kernel
theorem dX12_common_3 : decode cX12_common 3 = .ok (.ifCond .ge 8, 3) := by decide +kernel
theorem dX12_common_6 : decode cX12_common 6 = .ok (.lload_n 0, 1) := by decide +kernel
theorem dX12_common_7 : decode cX12_common 7 = .ok (.lneg, 1) := by decide +kernel
theorem dX12_common_8 : decode cX12_common 8 = .ok (.goto 4, 3) := by decide +kernel
theorem dX12_common_11 : decode cX12_common 11 = .ok (.lload_n 0, 1) := by decide +kernel
theorem dX12_common_12 : decode cX12_common 12 = .ok (.lstore 4, 2) := by decide +kernel
theorem dX12_common_14 : decode cX12_common 14 = .ok (.lload_n 2, 1) := by decide +kernel
theorem dX12_common_15 : decode cX12_common 15 = .ok (.lstore 6, 2) := by decide +kernel
theorem dX12_common_17 : decode cX12_common 17 = .ok (.lload 6, 2) := by decide +kernel
theorem dX12_common_19 : decode cX12_common 19 = .ok (.lconst 0, 1) := by decide +kernel
theorem dX12_common_20 : decode cX12_common 20 = .ok (.lcmp, 1) := by decide +kernel
theorem dX12_common_21 : decode cX12_common 21 = .ok (.ifCond .eq 21, 3) := by decide +kernel
theorem dX12_common_24 : decode cX12_common 24 = .ok (.lload 4, 2) := by decide +kernel
theorem dX12_common_26 : decode cX12_common 26 = .ok (.lload 6, 2) := by decide +kernel
theorem dX12_common_28 : decode cX12_common 28 = .ok (.lrem, 1) := by decide +kernel
theorem dX12_common_29 : decode cX12_common 29 = .ok (.lstore 8, 2) := by decide +kernel
theorem dX12_common_31 : decode cX12_common 31 = .ok (.lload 6, 2) := by decide +kernel
theorem dX12_common_33 : decode cX12_common 33 = .ok (.lstore 4, 2) := by decide +kernel
theorem dX12_common_35 : decode cX12_common 35 = .ok (.lload 8, 2) := by decide +kernel
theorem dX12_common_37 : decode cX12_common 37 = .ok (.lstore 6, 2) := by decide +kernel
theorem dX12_common_39 : decode cX12_common 39 = .ok (.goto (-22), 3) := by decide +kernel
theorem dX12_common_42 : decode cX12_common 42 = .ok (.lload 4, 2) := by decide +kernel
theorem dX12_common_44 : decode cX12_common 44 = .ok (.lreturn, 1) := by decide +kernel
set_option maxRecDepth 20000 in
theorem ggX12_sets_X12_common : GoodIn wsX12_sets wsX12_common := goodIn_r _ [6] (by decide +kernel) (by decide +kernel)
set_option maxRecDepth 20000 in
theorem gX12_sets_X12_common : GoodIn wsX12_sets (va_wsS RX12 157 yX12_common wsX12_common) := goodIn_app (goodIn_of _ (by decide +kernel)) ggX12_sets_X12_common
theorem dX12_sets_0 : decode cX12_sets 0 = .ok (.lload_n 1, 1) := by decide +kernel
theorem dX12_sets_1 : decode cX12_sets 1 = .ok (.lload_n 3, 1) := by decide +kernel
theorem dX12_sets_2 : decode cX12_sets 2 = .ok (.invokestatic 157, 3) := by decide +kernel
theorem dX12_sets_5 : decode cX12_sets 5 = .ok (.lstore 5, 2) := by decide +kernel
