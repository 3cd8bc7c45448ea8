theorem dX12_in_7 : decode cX12_in 7 = .ok (.if_icmp .gt 7, 3) := by decide +kernel
theorem dX12_in_10 : decode cX12_in 10 = .ok (.iconst 1, 1) := by decide +kernel
theorem dX12_in_11 : decode cX12_in 11 = .ok (.goto 4, 3) := by decide +kernel
theorem dX12_in_14 : decode cX12_in 14 = .ok (.iconst 0, 1) := by decide +kernel
theorem dX12_in_15 : decode cX12_in 15 = .ok (.ireturn, 1) := by decide +kernel
theorem dX12_daysIn_0 : decode cX12_daysIn 0 = .ok (.iload_n 1, 1) := by decide +kernel
theorem dX12_daysIn_1 : decode cX12_daysIn 1 = .ok (.iconst 2, 1) := by decide +kernel
theorem dX12_daysIn_2 : decode cX12_daysIn 2 = .ok (.if_icmp .ne 32, 3) := by decide +kernel
theorem dX12_daysIn_5 : decode cX12_daysIn 5 = .ok (.iload_n 0, 1) := by decide +kernel
theorem dX12_daysIn_6 : decode cX12_daysIn 6 = .ok (.iconst 4, 1) := by decide +kernel
theorem dX12_daysIn_7 : decode cX12_daysIn 7 = .ok (.irem, 1) := by decide +kernel
theorem dX12_daysIn_8 : decode cX12_daysIn 8 = .ok (.ifCond .ne 23, 3) := by decide +kernel
theorem dX12_daysIn_11 : decode cX12_daysIn 11 = .ok (.iload_n 0, 1) := by decide +kernel
theorem dX12_daysIn_12 : decode cX12_daysIn 12 = .ok (.bipush 100, 2) := by decide +kernel
theorem dX12_daysIn_14 : decode cX12_daysIn 14 = .ok (.irem, 1) := by decide +kernel
theorem dX12_daysIn_15 : decode cX12_daysIn 15 = .ok (.ifCond .ne 11, 3) := by decide +kernel
theorem dX12_daysIn_18 : decode cX12_daysIn 18 = .ok (.iload_n 0, 1) := by decide +kernel
theorem dX12_daysIn_19 : decode cX12_daysIn 19 = .ok (.sipush 400, 3) := by decide +kernel
theorem dX12_daysIn_22 : decode cX12_daysIn 22 = .ok (.irem, 1) := by decide +kernel
theorem dX12_daysIn_23 : decode cX12_daysIn 23 = .ok (.ifCond .ne 8, 3) := by decide +kernel
theorem dX12_daysIn_26 : decode cX12_daysIn 26 = .ok (.bipush 29, 2) := by decide +kernel
theorem dX12_daysIn_28 : decode cX12_daysIn 28 = .ok (.goto 5, 3) := by decide +kernel
theorem dX12_daysIn_31 : decode cX12_daysIn 31 = .ok (.bipush 28, 2) := by decide +kernel
theorem dX12_daysIn_33 : decode cX12_daysIn 33 = .ok (.ireturn, 1) := by decide +kernel
theorem dX12_daysIn_34 : decode cX12_daysIn 34 = .ok (.iload_n 1, 1) := by decide +kernel
theorem dX12_daysIn_35 : decode cX12_daysIn 35 = .ok (.iconst 4, 1) := by decide +kernel
theorem dX12_daysIn_36 : decode cX12_daysIn 36 = .ok (.if_icmp .eq 21, 3) := by decide +kernel
theorem dX12_daysIn_39 : decode cX12_daysIn 39 = .ok (.iload_n 1, 1) := by decide +kernel
theorem dX12_daysIn_40 : decode cX12_daysIn 40 = .ok (.bipush 6, 2) := by decide +kernel
theorem dX12_daysIn_42 : decode cX12_daysIn 42 = .ok (.if_icmp .eq 15, 3) := by decide +kernel
theorem dX12_daysIn_45 : decode cX12_daysIn 45 = .ok (.iload_n 1, 1) := by decide +kernel
theorem dX12_daysIn_46 : decode cX12_daysIn 46 = .ok (.bipush 9, 2) := by decide +kernel
theorem dX12_daysIn_48 : decode cX12_daysIn 48 = .ok (.if_icmp .eq 9, 3) := by decide +kernel
theorem dX12_daysIn_51 : decode cX12_daysIn 51 = .ok (.iload_n 1, 1) := by decide +kernel
theorem dX12_daysIn_52 : decode cX12_daysIn 52 = .ok (.bipush 11, 2) := by decide +kernel
theorem dX12_daysIn_54 : decode cX12_daysIn 54 = .ok (.if_icmp .ne 8, 3) := by decide +kernel
theorem dX12_daysIn_57 : decode cX12_daysIn 57 = .ok (.bipush 30, 2) := by decide +kernel
theorem dX12_daysIn_59 : decode cX12_daysIn 59 = .ok (.goto 5, 3) := by decide +kernel
theorem dX12_daysIn_62 : decode cX12_daysIn 62 = .ok (.bipush 31, 2) := by decide +kernel
theorem dX12_daysIn_64 : decode cX12_daysIn 64 = .ok (.ireturn, 1) := by decide +kernel
set_option maxRecDepth 20000 in
theorem ggX12_isDate_X12_in : GoodIn wsX12_isDate wsX12_in := goodIn_r _ [6] (by decide +kernel) (by decide +kernel)
set_option maxRecDepth 20000 in
theorem gX12_isDate_X12_in : GoodIn wsX12_isDate (va_wsS RX12 132 yX12_in wsX12_in) := goodIn_app (goodIn_of _ (by decide +kernel)) ggX12_isDate_X12_in
set_option maxRecDepth 20000 in
theorem ggX12_isDate_X12_daysIn : GoodIn wsX12_isDate wsX12_daysIn := goodIn_r _ [9] (by decide +kernel) (by decide +kernel)
set_option maxRecDepth 20000 in
theorem gX12_isDate_X12_daysIn : GoodIn wsX12_isDate (va_wsS RX12 136 yX12_daysIn wsX12_daysIn) := goodIn_app (goodIn_of _ (by decide +kernel)) ggX12_isDate_X12_daysIn
theorem dX12_isDate_0 : decode cX12_isDate 0 = .ok (.iload_n 0, 1) := by decide +kernel
theorem dX12_isDate_1 : decode cX12_isDate 1 = .ok (.sipush 10000, 3) := by decide +kernel
theorem dX12_isDate_4 : decode cX12_isDate 4 = .ok (.idiv, 1) := by decide +kernel
theorem dX12_isDate_5 : decode cX12_isDate 5 = .ok (.istore_n 1, 1) := by decide +kernel
theorem dX12_isDate_6 : decode cX12_isDate 6 = .ok (.iload_n 0, 1) := by decide +kernel
theorem dX12_isDate_7 : decode cX12_isDate 7 = .ok (.bipush 100, 2) := by decide +kernel
theorem dX12_isDate_9 : decode cX12_isDate 9 = .ok (.idiv, 1) := by decide +kernel
theorem dX12_isDate_10 : decode cX12_isDate 10 = .ok (.bipush 100, 2) := by decide +kernel
theorem dX12_isDate_12 : decode cX12_isDate 12 = .ok (.irem, 1) := by decide +kernel
theorem dX12_isDate_13 : decode cX12_isDate 13 = .ok (.istore_n 2, 1) := by decide +kernel
theorem dX12_isDate_14 : decode cX12_isDate 14 = .ok (.iload_n 0, 1) := by decide +kernel
theorem dX12_isDate_15 : decode cX12_isDate 15 = .ok (.ldc 130, 2) := by decide +kernel
theorem dX12_isDate_17 : decode cX12_isDate 17 = .ok (.ldc 131, 2) := by decide +kernel
theorem dX12_isDate_19 : decode cX12_isDate 19 = .ok (.invokestatic 132, 3) := by decide +kernel
theorem dX12_isDate_22 : decode cX12_isDate 22 = .ok (.ifCond .eq 33, 3) := by decide +kernel
theorem dX12_isDate_25 : decode cX12_isDate 25 = .ok (.iload_n 2, 1) := by decide +kernel
theorem dX12_isDate_26 : decode cX12_isDate 26 = .ok (.iconst 1, 1) := by decide +kernel
theorem dX12_isDate_27 : decode cX12_isDate 27 = .ok (.bipush 12, 2) := by decide +kernel
theorem dX12_isDate_29 : decode cX12_isDate 29 = .ok (.invokestatic 132, 3) := by decide +kernel
theorem dX12_isDate_32 : decode cX12_isDate 32 = .ok (.ifCond .eq 23, 3) := by decide +kernel
theorem dX12_isDate_35 : decode cX12_isDate 35 = .ok (.iload_n 0, 1) := by decide +kernel
theorem dX12_isDate_36 : decode cX12_isDate 36 = .ok (.bipush 100, 2) := by decide +kernel
theorem dX12_isDate_38 : decode cX12_isDate 38 = .ok (.irem, 1) := by decide +kernel
theorem dX12_isDate_39 : decode cX12_isDate 39 = .ok (.iconst 1, 1) := by decide +kernel
theorem dX12_isDate_40 : decode cX12_isDate 40 = .ok (.iload_n 1, 1) := by decide +kernel
theorem dX12_isDate_41 : decode cX12_isDate 41 = .ok (.iload_n 2, 1) := by decide +kernel
theorem dX12_isDate_42 : decode cX12_isDate 42 = .ok (.invokestatic 136, 3) := by decide +kernel
theorem dX12_isDate_45 : decode cX12_isDate 45 = .ok (.invokestatic 132, 3) := by decide +kernel
theorem dX12_isDate_48 : decode cX12_isDate 48 = .ok (.ifCond .eq 7, 3) := by decide +kernel
theorem dX12_isDate_51 : decode cX12_isDate 51 = .ok (.iconst 1, 1) := by decide +kernel
theorem dX12_isDate_52 : decode cX12_isDate 52 = .ok (.goto 4, 3) := by decide +kernel
theorem dX12_isDate_55 : decode cX12_isDate 55 = .ok (.iconst 0, 1) := by decide +kernel
theorem dX12_isDate_56 : decode cX12_isDate 56 = .ok (.ireturn, 1) := by decide +kernel
theorem dX12_march_0 : decode cX12_march 0 = .ok (.sipush 365, 3) := by decide +kernel
theorem dX12_march_3 : decode cX12_march 3 = .ok (.iload_n 0, 1) := by decide +kernel
theorem dX12_march_4 : decode cX12_march 4 = .ok (.imul, 1) := by decide +kernel
theorem dX12_march_5 : decode cX12_march 5 = .ok (.iload_n 0, 1) := by decide +kernel
theorem dX12_march_6 : decode cX12_march 6 = .ok (.iconst 4, 1) := by decide +kernel
theorem dX12_march_7 : decode cX12_march 7 = .ok (.idiv, 1) := by decide +kernel
theorem dX12_march_8 : decode cX12_march 8 = .ok (.iadd, 1) := by decide +kernel
theorem dX12_march_9 : decode cX12_march 9 = .ok (.iload_n 0, 1) := by decide +kernel
theorem dX12_march_10 : decode cX12_march 10 = .ok (.bipush 100, 2) := by decide +kernel
theorem dX12_march_12 : decode cX12_march 12 = .ok (.idiv, 1) := by decide +kernel
theorem dX12_march_13 : decode cX12_march 13 = .ok (.isub, 1) := by decide +kernel
theorem dX12_march_14 : decode cX12_march 14 = .ok (.iload_n 0, 1) := by decide +kernel
theorem dX12_march_15 : decode cX12_march 15 = .ok (.sipush 400, 3) := by decide +kernel
theorem dX12_march_18 : decode cX12_march 18 = .ok (.idiv, 1) := by decide +kernel
theorem dX12_march_19 : decode cX12_march 19 = .ok (.iadd, 1) := by decide +kernel
theorem dX12_march_20 : decode cX12_march 20 = .ok (.ireturn, 1) := by decide +kernel
set_option maxRecDepth 20000 in
theorem ggX12_dayOf_X12_march : GoodIn wsX12_dayOf wsX12_march := goodIn_r _ [4] (by decide +kernel) (by decide +kernel)
set_option maxRecDepth 20000 in
theorem gX12_dayOf_X12_march : GoodIn wsX12_dayOf (va_wsS RX12 140 yX12_march wsX12_march) := goodIn_app (goodIn_of _ (by decide +kernel)) ggX12_dayOf_X12_march
theorem dX12_dayOf_0 : decode cX12_dayOf 0 = .ok (.iload_n 0, 1) := by decide +kernel
theorem dX12_dayOf_1 : decode cX12_dayOf 1 = .ok (.bipush 100, 2) := by decide +kernel
theorem dX12_dayOf_3 : decode cX12_dayOf 3 = .ok (.idiv, 1) := by decide +kernel
theorem dX12_dayOf_4 : decode cX12_dayOf 4 = .ok (.bipush 100, 2) := by decide +kernel
theorem dX12_dayOf_6 : decode cX12_dayOf 6 = .ok (.irem, 1) := by decide +kernel
theorem dX12_dayOf_7 : decode cX12_dayOf 7 = .ok (.istore_n 1, 1) := by decide +kernel
theorem dX12_dayOf_8 : decode cX12_dayOf 8 = .ok (.iload_n 1, 1) := by decide +kernel
theorem dX12_dayOf_9 : decode cX12_dayOf 9 = .ok (.iconst 3, 1) := by decide +kernel
theorem dX12_dayOf_10 : decode cX12_dayOf 10 = .ok (.if_icmp .ge 13, 3) := by decide +kernel
theorem dX12_dayOf_13 : decode cX12_dayOf 13 = .ok (.iload_n 0, 1) := by decide +kernel
theorem dX12_dayOf_14 : decode cX12_dayOf 14 = .ok (.sipush 10000, 3) := by decide +kernel
theorem dX12_dayOf_17 : decode cX12_dayOf 17 = .ok (.idiv, 1) := by decide +kernel
theorem dX12_dayOf_18 : decode cX12_dayOf 18 = .ok (.iconst 1, 1) := by decide +kernel
theorem dX12_dayOf_19 : decode cX12_dayOf 19 = .ok (.isub, 1) := by decide +kernel
theorem dX12_dayOf_20 : decode cX12_dayOf 20 = .ok (.goto 8, 3) := by decide +kernel
theorem dX12_dayOf_23 : decode cX12_dayOf 23 = .ok (.iload_n 0, 1) := by decide +kernel
theorem dX12_dayOf_24 : decode cX12_dayOf 24 = .ok (.sipush 10000, 3) := by decide +kernel
theorem dX12_dayOf_27 : decode cX12_dayOf 27 = .ok (.idiv, 1) := by decide +kernel
theorem dX12_dayOf_28 : decode cX12_dayOf 28 = .ok (.istore_n 2, 1) := by decide +kernel
theorem dX12_dayOf_29 : decode cX12_dayOf 29 = .ok (.iload_n 1, 1) := by decide +kernel
theorem dX12_dayOf_30 : decode cX12_dayOf 30 = .ok (.iconst 3, 1) := by decide +kernel
theorem dX12_dayOf_31 : decode cX12_dayOf 31 = .ok (.if_icmp .ge 10, 3) := by decide +kernel
theorem dX12_dayOf_34 : decode cX12_dayOf 34 = .ok (.iload_n 1, 1) := by decide +kernel
theorem dX12_dayOf_35 : decode cX12_dayOf 35 = .ok (.bipush 9, 2) := by decide +kernel
theorem dX12_dayOf_37 : decode cX12_dayOf 37 = .ok (.iadd, 1) := by decide +kernel
theorem dX12_dayOf_38 : decode cX12_dayOf 38 = .ok (.goto 6, 3) := by decide +kernel
theorem dX12_dayOf_41 : decode cX12_dayOf 41 = .ok (.iload_n 1, 1) := by decide +kernel
theorem dX12_dayOf_42 : decode cX12_dayOf 42 = .ok (.iconst 3, 1) := by decide +kernel
theorem dX12_dayOf_43 : decode cX12_dayOf 43 = .ok (.isub, 1) := by decide +kernel
theorem dX12_dayOf_44 : decode cX12_dayOf 44 = .ok (.istore_n 3, 1) := by decide +kernel
theorem dX12_dayOf_45 : decode cX12_dayOf 45 = .ok (.iload_n 2, 1) := by decide +kernel
theorem dX12_dayOf_46 : decode cX12_dayOf 46 = .ok (.invokestatic 140, 3) := by decide +kernel
theorem dX12_dayOf_49 : decode cX12_dayOf 49 = .ok (.sipush 153, 3) := by decide +kernel
theorem dX12_dayOf_52 : decode cX12_dayOf 52 = .ok (.iload_n 3, 1) := by decide +kernel
theorem dX12_dayOf_53 : decode cX12_dayOf 53 = .ok (.imul, 1) := by decide +kernel
theorem dX12_dayOf_54 : decode cX12_dayOf 54 = .ok (.iconst 2, 1) := by decide +kernel
theorem dX12_dayOf_55 : decode cX12_dayOf 55 = .ok (.iadd, 1) := by decide +kernel
theorem dX12_dayOf_56 : decode cX12_dayOf 56 = .ok (.iconst 5, 1) := by decide +kernel
theorem dX12_dayOf_57 : decode cX12_dayOf 57 = .ok (.idiv, 1) := by decide +kernel
theorem dX12_dayOf_58 : decode cX12_dayOf 58 = .ok (.iadd, 1) := by decide +kernel
theorem dX12_dayOf_59 : decode cX12_dayOf 59 = .ok (.iload_n 0, 1) := by decide +kernel
theorem dX12_dayOf_60 : decode cX12_dayOf 60 = .ok (.bipush 100, 2) := by decide +kernel
theorem dX12_dayOf_62 : decode cX12_dayOf 62 = .ok (.irem, 1) := by decide +kernel
theorem dX12_dayOf_63 : decode cX12_dayOf 63 = .ok (.iadd, 1) := by decide +kernel
theorem dX12_dayOf_64 : decode cX12_dayOf 64 = .ok (.iconst 1, 1) := by decide +kernel
theorem dX12_dayOf_65 : decode cX12_dayOf 65 = .ok (.isub, 1) := by decide +kernel
theorem dX12_dayOf_66 : decode cX12_dayOf 66 = .ok (.ireturn, 1) := by decide +kernel
set_option maxRecDepth 20000 in
theorem ggX12_isMonthEnd_X12_daysIn : GoodIn wsX12_isMonthEnd wsX12_daysIn := goodIn_r _ [4] (by decide +kernel) (by decide +kernel)
set_option maxRecDepth 20000 in
theorem gX12_isMonthEnd_X12_daysIn : GoodIn wsX12_isMonthEnd (va_wsS RX12 136 yX12_daysIn wsX12_daysIn) := goodIn_app (goodIn_of _ (by decide +kernel)) ggX12_isMonthEnd_X12_daysIn
theorem dX12_isMonthEnd_0 : decode cX12_isMonthEnd 0 = .ok (.iload_n 0, 1) := by decide +kernel
theorem dX12_isMonthEnd_1 : decode cX12_isMonthEnd 1 = .ok (.bipush 100, 2) := by decide +kernel
theorem dX12_isMonthEnd_3 : decode cX12_isMonthEnd 3 = .ok (.irem, 1) := by decide +kernel
theorem dX12_isMonthEnd_4 : decode cX12_isMonthEnd 4 = .ok (.iload_n 0, 1) := by decide +kernel
theorem dX12_isMonthEnd_5 : decode cX12_isMonthEnd 5 = .ok (.sipush 10000, 3) := by decide +kernel
theorem dX12_isMonthEnd_8 : decode cX12_isMonthEnd 8 = .ok (.idiv, 1) := by decide +kernel
theorem dX12_isMonthEnd_9 : decode cX12_isMonthEnd 9 = .ok (.iload_n 0, 1) := by decide +kernel
theorem dX12_isMonthEnd_10 : decode cX12_isMonthEnd 10 = .ok (.bipush 100, 2) := by decide +kernel
theorem dX12_isMonthEnd_12 : decode cX12_isMonthEnd 12 = .ok (.idiv, 1) := by decide +kernel
theorem dX12_isMonthEnd_13 : decode cX12_isMonthEnd 13 = .ok (.bipush 100, 2) := by decide +kernel
theorem dX12_isMonthEnd_15 : decode cX12_isMonthEnd 15 = .ok (.irem, 1) := by decide +kernel
theorem dX12_isMonthEnd_16 : decode cX12_isMonthEnd 16 = .ok (.invokestatic 136, 3) := by decide +kernel
theorem dX12_isMonthEnd_19 : decode cX12_isMonthEnd 19 = .ok (.if_icmp .ne 7, 3) := by decide +kernel
theorem dX12_isMonthEnd_22 : decode cX12_isMonthEnd 22 = .ok (.iconst 1, 1) := by decide +kernel
theorem dX12_isMonthEnd_23 : decode cX12_isMonthEnd 23 = .ok (.goto 4, 3) := by decide +kernel
theorem dX12_isMonthEnd_26 : decode cX12_isMonthEnd 26 = .ok (.iconst 0, 1) := by decide +kernel
theorem dX12_isMonthEnd_27 : decode cX12_isMonthEnd 27 = .ok (.ireturn, 1) := by decide +kernel
set_option maxRecDepth 20000 in
theorem ggX12_monthsFrom_X12_daysIn : GoodIn wsX12_monthsFrom wsX12_daysIn := goodIn_r _ [4] (by decide +kernel) (by decide +kernel)
set_option maxRecDepth 20000 in
theorem gX12_monthsFrom_X12_daysIn : GoodIn wsX12_monthsFrom (va_wsS RX12 136 yX12_daysIn wsX12_daysIn) := goodIn_app (goodIn_of _ (by decide +kernel)) ggX12_monthsFrom_X12_daysIn
theorem dX12_monthsFrom_0 : decode cX12_monthsFrom 0 = .ok (.iload_n 0, 1) := by decide +kernel
theorem dX12_monthsFrom_1 : decode cX12_monthsFrom 1 = .ok (.sipush 10000, 3) := by decide +kernel
theorem dX12_monthsFrom_4 : decode cX12_monthsFrom 4 = .ok (.idiv, 1) := by decide +kernel
theorem dX12_monthsFrom_5 : decode cX12_monthsFrom 5 = .ok (.bipush 12, 2) := by decide +kernel
theorem dX12_monthsFrom_7 : decode cX12_monthsFrom 7 = .ok (.imul, 1) := by decide +kernel
theorem dX12_monthsFrom_8 : decode cX12_monthsFrom 8 = .ok (.iload_n 0, 1) := by decide +kernel
theorem dX12_monthsFrom_9 : decode cX12_monthsFrom 9 = .ok (.bipush 100, 2) := by decide +kernel
theorem dX12_monthsFrom_11 : decode cX12_monthsFrom 11 = .ok (.idiv, 1) := by decide +kernel
theorem dX12_monthsFrom_12 : decode cX12_monthsFrom 12 = .ok (.bipush 100, 2) := by decide +kernel
theorem dX12_monthsFrom_14 : decode cX12_monthsFrom 14 = .ok (.irem, 1) := by decide +kernel
theorem dX12_monthsFrom_15 : decode cX12_monthsFrom 15 = .ok (.iadd, 1) := by decide +kernel
theorem dX12_monthsFrom_16 : decode cX12_monthsFrom 16 = .ok (.iconst 1, 1) := by decide +kernel
theorem dX12_monthsFrom_17 : decode cX12_monthsFrom 17 = .ok (.isub, 1) := by decide +kernel
theorem dX12_monthsFrom_18 : decode cX12_monthsFrom 18 = .ok (.iload_n 1, 1) := by decide +kernel
theorem dX12_monthsFrom_19 : decode cX12_monthsFrom 19 = .ok (.iadd, 1) := by decide +kernel
theorem dX12_monthsFrom_20 : decode cX12_monthsFrom 20 = .ok (.istore_n 3, 1) := by decide +kernel
theorem dX12_monthsFrom_21 : decode cX12_monthsFrom 21 = .ok (.iload_n 3, 1) := by decide +kernel
theorem dX12_monthsFrom_22 : decode cX12_monthsFrom 22 = .ok (.bipush 12, 2) := by decide +kernel
theorem dX12_monthsFrom_24 : decode cX12_monthsFrom 24 = .ok (.idiv, 1) := by decide +kernel
theorem dX12_monthsFrom_25 : decode cX12_monthsFrom 25 = .ok (.iload_n 3, 1) := by decide +kernel
theorem dX12_monthsFrom_26 : decode cX12_monthsFrom 26 = .ok (.bipush 12, 2) := by decide +kernel
theorem dX12_monthsFrom_28 : decode cX12_monthsFrom 28 = .ok (.irem, 1) := by decide +kernel
theorem dX12_monthsFrom_29 : decode cX12_monthsFrom 29 = .ok (.iconst 1, 1) := by decide +kernel
theorem dX12_monthsFrom_30 : decode cX12_monthsFrom 30 = .ok (.iadd, 1) := by decide +kernel
theorem dX12_monthsFrom_31 : decode cX12_monthsFrom 31 = .ok (.invokestatic 136, 3) := by decide +kernel
theorem dX12_monthsFrom_34 : decode cX12_monthsFrom 34 = .ok (.istore 4, 2) := by decide +kernel
theorem dX12_monthsFrom_36 : decode cX12_monthsFrom 36 = .ok (.iload_n 2, 1) := by decide +kernel
theorem dX12_monthsFrom_37 : decode cX12_monthsFrom 37 = .ok (.ifCond .ne 12, 3) := by decide +kernel
theorem dX12_monthsFrom_40 : decode cX12_monthsFrom 40 = .ok (.iload_n 0, 1) := by decide +kernel
theorem dX12_monthsFrom_41 : decode cX12_monthsFrom 41 = .ok (.bipush 100, 2) := by decide +kernel
theorem dX12_monthsFrom_43 : decode cX12_monthsFrom 43 = .ok (.irem, 1) := by decide +kernel
theorem dX12_monthsFrom_44 : decode cX12_monthsFrom 44 = .ok (.iload 4, 2) := by decide +kernel
theorem dX12_monthsFrom_46 : decode cX12_monthsFrom 46 = .ok (.if_icmp .le 8, 3) := by decide +kernel
theorem dX12_monthsFrom_49 : decode cX12_monthsFrom 49 = .ok (.iload 4, 2) := by decide +kernel
theorem dX12_monthsFrom_51 : decode cX12_monthsFrom 51 = .ok (.goto 7, 3) := by decide +kernel
theorem dX12_monthsFrom_54 : decode cX12_monthsFrom 54 = .ok (.iload_n 0, 1) := by decide +kernel
theorem dX12_monthsFrom_55 : decode cX12_monthsFrom 55 = .ok (.bipush 100, 2) := by decide +kernel
theorem dX12_monthsFrom_57 : decode cX12_monthsFrom 57 = .ok (.irem, 1) := by decide +kernel
theorem dX12_monthsFrom_58 : decode cX12_monthsFrom 58 = .ok (.istore 5, 2) := by decide +kernel
theorem dX12_monthsFrom_60 : decode cX12_monthsFrom 60 = .ok (.iload_n 3, 1) := by decide +kernel
theorem dX12_monthsFrom_61 : decode cX12_monthsFrom 61 = .ok (.bipush 12, 2) := by decide +kernel
theorem dX12_monthsFrom_63 : decode cX12_monthsFrom 63 = .ok (.idiv, 1) := by decide +kernel
theorem dX12_monthsFrom_64 : decode cX12_monthsFrom 64 = .ok (.sipush 10000, 3) := by decide +kernel
theorem dX12_monthsFrom_67 : decode cX12_monthsFrom 67 = .ok (.imul, 1) := by decide +kernel
theorem dX12_monthsFrom_68 : decode cX12_monthsFrom 68 = .ok (.iload_n 3, 1) := by decide +kernel
theorem dX12_monthsFrom_69 : decode cX12_monthsFrom 69 = .ok (.bipush 12, 2) := by decide +kernel
theorem dX12_monthsFrom_71 : decode cX12_monthsFrom 71 = .ok (.irem, 1) := by decide +kernel
