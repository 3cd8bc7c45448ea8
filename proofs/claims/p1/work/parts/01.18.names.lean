theorem dX12_sets_7 : decode cX12_sets 7 = .ok (.aload_n 0, 1) := by decide +kernel
theorem dX12_sets_8 : decode cX12_sets 8 = .ok (.lload_n 1, 1) := by decide +kernel
theorem dX12_sets_9 : decode cX12_sets 9 = .ok (.lload 5, 2) := by decide +kernel
theorem dX12_sets_11 : decode cX12_sets 11 = .ok (.ldiv, 1) := by decide +kernel
theorem dX12_sets_12 : decode cX12_sets 12 = .ok (.putfield 161, 3) := by decide +kernel
theorem dX12_sets_15 : decode cX12_sets 15 = .ok (.aload_n 0, 1) := by decide +kernel
theorem dX12_sets_16 : decode cX12_sets 16 = .ok (.lload_n 3, 1) := by decide +kernel
theorem dX12_sets_17 : decode cX12_sets 17 = .ok (.lload 5, 2) := by decide +kernel
theorem dX12_sets_19 : decode cX12_sets 19 = .ok (.ldiv, 1) := by decide +kernel
theorem dX12_sets_20 : decode cX12_sets 20 = .ok (.putfield 165, 3) := by decide +kernel
theorem dX12_sets_23 : decode cX12_sets 23 = .ok (.return_, 1) := by decide +kernel
theorem dX12_thirties_0 : decode cX12_thirties 0 = .ok (.iload_n 0, 1) := by decide +kernel
theorem dX12_thirties_1 : decode cX12_thirties 1 = .ok (.bipush 100, 2) := by decide +kernel
theorem dX12_thirties_3 : decode cX12_thirties 3 = .ok (.irem, 1) := by decide +kernel
theorem dX12_thirties_4 : decode cX12_thirties 4 = .ok (.bipush 31, 2) := by decide +kernel
theorem dX12_thirties_6 : decode cX12_thirties 6 = .ok (.if_icmp .ne 8, 3) := by decide +kernel
theorem dX12_thirties_9 : decode cX12_thirties 9 = .ok (.bipush 30, 2) := by decide +kernel
theorem dX12_thirties_11 : decode cX12_thirties 11 = .ok (.goto 7, 3) := by decide +kernel
theorem dX12_thirties_14 : decode cX12_thirties 14 = .ok (.iload_n 0, 1) := by decide +kernel
theorem dX12_thirties_15 : decode cX12_thirties 15 = .ok (.bipush 100, 2) := by decide +kernel
theorem dX12_thirties_17 : decode cX12_thirties 17 = .ok (.irem, 1) := by decide +kernel
theorem dX12_thirties_18 : decode cX12_thirties 18 = .ok (.istore_n 3, 1) := by decide +kernel
theorem dX12_thirties_19 : decode cX12_thirties 19 = .ok (.iload_n 1, 1) := by decide +kernel
theorem dX12_thirties_20 : decode cX12_thirties 20 = .ok (.bipush 100, 2) := by decide +kernel
theorem dX12_thirties_22 : decode cX12_thirties 22 = .ok (.irem, 1) := by decide +kernel
theorem dX12_thirties_23 : decode cX12_thirties 23 = .ok (.bipush 31, 2) := by decide +kernel
theorem dX12_thirties_25 : decode cX12_thirties 25 = .ok (.if_icmp .ne 18, 3) := by decide +kernel
theorem dX12_thirties_28 : decode cX12_thirties 28 = .ok (.iload_n 2, 1) := by decide +kernel
theorem dX12_thirties_29 : decode cX12_thirties 29 = .ok (.ifCond .ne 9, 3) := by decide +kernel
theorem dX12_thirties_32 : decode cX12_thirties 32 = .ok (.iload_n 3, 1) := by decide +kernel
theorem dX12_thirties_33 : decode cX12_thirties 33 = .ok (.bipush 30, 2) := by decide +kernel
theorem dX12_thirties_35 : decode cX12_thirties 35 = .ok (.if_icmp .ne 8, 3) := by decide +kernel
theorem dX12_thirties_38 : decode cX12_thirties 38 = .ok (.bipush 30, 2) := by decide +kernel
theorem dX12_thirties_40 : decode cX12_thirties 40 = .ok (.goto 7, 3) := by decide +kernel
theorem dX12_thirties_43 : decode cX12_thirties 43 = .ok (.iload_n 1, 1) := by decide +kernel
theorem dX12_thirties_44 : decode cX12_thirties 44 = .ok (.bipush 100, 2) := by decide +kernel
theorem dX12_thirties_46 : decode cX12_thirties 46 = .ok (.irem, 1) := by decide +kernel
theorem dX12_thirties_47 : decode cX12_thirties 47 = .ok (.istore 4, 2) := by decide +kernel
theorem dX12_thirties_49 : decode cX12_thirties 49 = .ok (.sipush 360, 3) := by decide +kernel
theorem dX12_thirties_52 : decode cX12_thirties 52 = .ok (.iload_n 1, 1) := by decide +kernel
theorem dX12_thirties_53 : decode cX12_thirties 53 = .ok (.sipush 10000, 3) := by decide +kernel
theorem dX12_thirties_56 : decode cX12_thirties 56 = .ok (.idiv, 1) := by decide +kernel
theorem dX12_thirties_57 : decode cX12_thirties 57 = .ok (.iload_n 0, 1) := by decide +kernel
theorem dX12_thirties_58 : decode cX12_thirties 58 = .ok (.sipush 10000, 3) := by decide +kernel
theorem dX12_thirties_61 : decode cX12_thirties 61 = .ok (.idiv, 1) := by decide +kernel
theorem dX12_thirties_62 : decode cX12_thirties 62 = .ok (.isub, 1) := by decide +kernel
theorem dX12_thirties_63 : decode cX12_thirties 63 = .ok (.imul, 1) := by decide +kernel
theorem dX12_thirties_64 : decode cX12_thirties 64 = .ok (.bipush 30, 2) := by decide +kernel
theorem dX12_thirties_66 : decode cX12_thirties 66 = .ok (.iload_n 1, 1) := by decide +kernel
theorem dX12_thirties_67 : decode cX12_thirties 67 = .ok (.bipush 100, 2) := by decide +kernel
theorem dX12_thirties_69 : decode cX12_thirties 69 = .ok (.idiv, 1) := by decide +kernel
theorem dX12_thirties_70 : decode cX12_thirties 70 = .ok (.bipush 100, 2) := by decide +kernel
theorem dX12_thirties_72 : decode cX12_thirties 72 = .ok (.irem, 1) := by decide +kernel
theorem dX12_thirties_73 : decode cX12_thirties 73 = .ok (.iload_n 0, 1) := by decide +kernel
theorem dX12_thirties_74 : decode cX12_thirties 74 = .ok (.bipush 100, 2) := by decide +kernel
theorem dX12_thirties_76 : decode cX12_thirties 76 = .ok (.idiv, 1) := by decide +kernel
theorem dX12_thirties_77 : decode cX12_thirties 77 = .ok (.bipush 100, 2) := by decide +kernel
theorem dX12_thirties_79 : decode cX12_thirties 79 = .ok (.irem, 1) := by decide +kernel
theorem dX12_thirties_80 : decode cX12_thirties 80 = .ok (.isub, 1) := by decide +kernel
theorem dX12_thirties_81 : decode cX12_thirties 81 = .ok (.imul, 1) := by decide +kernel
theorem dX12_thirties_82 : decode cX12_thirties 82 = .ok (.iadd, 1) := by decide +kernel
theorem dX12_thirties_83 : decode cX12_thirties 83 = .ok (.iload 4, 2) := by decide +kernel
theorem dX12_thirties_85 : decode cX12_thirties 85 = .ok (.iadd, 1) := by decide +kernel
theorem dX12_thirties_86 : decode cX12_thirties 86 = .ok (.iload_n 3, 1) := by decide +kernel
theorem dX12_thirties_87 : decode cX12_thirties 87 = .ok (.isub, 1) := by decide +kernel
theorem dX12_thirties_88 : decode cX12_thirties 88 = .ok (.ireturn, 1) := by decide +kernel
theorem dX12_fault_0 : decode cX12_fault 0 = .ok (.aload_n 0, 1) := by decide +kernel
theorem dX12_fault_1 : decode cX12_fault 1 = .ok (.iconst 0, 1) := by decide +kernel
theorem dX12_fault_2 : decode cX12_fault 2 = .ok (.putfield 107, 3) := by decide +kernel
theorem dX12_fault_5 : decode cX12_fault 5 = .ok (.aload_n 0, 1) := by decide +kernel
theorem dX12_fault_6 : decode cX12_fault 6 = .ok (.getfield 192, 3) := by decide +kernel
theorem dX12_fault_9 : decode cX12_fault 9 = .ok (.ireturn, 1) := by decide +kernel
theorem dX12_where_0 : decode cX12_where 0 = .ok (.aload_n 0, 1) := by decide +kernel
theorem dX12_where_1 : decode cX12_where 1 = .ok (.iconst 0, 1) := by decide +kernel
theorem dX12_where_2 : decode cX12_where 2 = .ok (.putfield 107, 3) := by decide +kernel
theorem dX12_where_5 : decode cX12_where 5 = .ok (.aload_n 0, 1) := by decide +kernel
theorem dX12_where_6 : decode cX12_where 6 = .ok (.getfield 9, 3) := by decide +kernel
theorem dX12_where_9 : decode cX12_where 9 = .ok (.ireturn, 1) := by decide +kernel
set_option maxRecDepth 20000 in
theorem ggX12_days_X12_isDate : GoodIn wsX12_days wsX12_isDate := goodIn_r _ [6, 7, 8, 9, 10, 5, 11, 12, 13, 14] (by decide +kernel) (by decide +kernel)
set_option maxRecDepth 20000 in
theorem gX12_days_X12_isDate : GoodIn wsX12_days (va_wsS RX12 246 yX12_isDate wsX12_isDate) := goodIn_app (goodIn_of _ (by decide +kernel)) ggX12_days_X12_isDate
set_option maxRecDepth 20000 in
theorem ggX12_days_X12_refused : GoodIn wsX12_days wsX12_refused := goodIn_r _ [18, 19, 20, 31, 32, 33, 34, 35, 36, 37, 38, 39, 40, 41, 42, 43, 44, 45, 46, 47, 48, 49, 50, 51, 52, 53, 54, 55, 56, 57, 58, 59, 60, 61, 62, 63, 64, 65, 66, 67, 68, 69, 70, 71, 72, 73, 74, 75, 76, 77, 78, 79, 80, 81, 82, 83, 84, 85, 86, 87, 88, 89, 90, 91, 92, 93, 94, 95, 96, 97, 98, 99] (by decide +kernel) (by decide +kernel)
set_option maxRecDepth 20000 in
theorem gX12_days_X12_refused : GoodIn wsX12_days (wsV RX12 113 RX12 yX12_refused wsX12_refused) := goodIn_app (goodIn_of _ (by decide +kernel)) ggX12_days_X12_refused
set_option maxRecDepth 20000 in
theorem ggX12_days_X12_dayOf : GoodIn wsX12_days wsX12_dayOf := goodIn_r _ [23, 24, 25, 5, 26] (by decide +kernel) (by decide +kernel)
set_option maxRecDepth 20000 in
theorem gX12_days_X12_dayOf : GoodIn wsX12_days (va_wsS RX12 143 yX12_dayOf wsX12_dayOf) := goodIn_app (goodIn_of _ (by decide +kernel)) ggX12_days_X12_dayOf
set_option maxRecDepth 20000 in
theorem ggX12_days_X12_good : GoodIn wsX12_days wsX12_good := goodIn_r _ [30, 19, 20, 31, 32, 33, 34, 35, 36, 37, 38, 39, 40, 41, 42, 43, 44, 45, 46, 47, 48, 49, 50, 51, 52, 53, 54, 55, 56, 57, 58, 59, 60, 61, 62, 63, 64, 65, 66, 67, 68, 69, 70, 71, 72, 73, 74, 75, 76, 77, 78, 79, 80, 81, 82, 83, 84, 85, 86, 87, 88, 89, 90, 91, 92, 93, 94, 95, 96, 97, 98, 99] (by decide +kernel) (by decide +kernel)
set_option maxRecDepth 20000 in
theorem gX12_days_X12_good : GoodIn wsX12_days (wsV RX12 117 RX12 yX12_good wsX12_good) := goodIn_app (goodIn_of _ (by decide +kernel)) ggX12_days_X12_good
theorem dX12_days_0 : decode cX12_days 0 = .ok (.aload_n 0, 1) := by decide +kernel
theorem dX12_days_1 : decode cX12_days 1 = .ok (.iconst 0, 1) := by decide +kernel
theorem dX12_days_2 : decode cX12_days 2 = .ok (.putfield 107, 3) := by decide +kernel
theorem dX12_days_5 : decode cX12_days 5 = .ok (.iload_n 1, 1) := by decide +kernel
theorem dX12_days_6 : decode cX12_days 6 = .ok (.invokestatic 246, 3) := by decide +kernel
theorem dX12_days_9 : decode cX12_days 9 = .ok (.ifCond .eq 10, 3) := by decide +kernel
theorem dX12_days_12 : decode cX12_days 12 = .ok (.iload_n 2, 1) := by decide +kernel
theorem dX12_days_13 : decode cX12_days 13 = .ok (.invokestatic 246, 3) := by decide +kernel
theorem dX12_days_16 : decode cX12_days 16 = .ok (.ifCond .ne 13, 3) := by decide +kernel
theorem dX12_days_19 : decode cX12_days 19 = .ok (.aload_n 0, 1) := by decide +kernel
theorem dX12_days_20 : decode cX12_days 20 = .ok (.iconst 2, 1) := by decide +kernel
theorem dX12_days_21 : decode cX12_days 21 = .ok (.invokevirtual 113, 3) := by decide +kernel
theorem dX12_days_24 : decode cX12_days 24 = .ok (.pop, 1) := by decide +kernel
theorem dX12_days_25 : decode cX12_days 25 = .ok (.ldc_w 424, 3) := by decide +kernel
theorem dX12_days_28 : decode cX12_days 28 = .ok (.ireturn, 1) := by decide +kernel
theorem dX12_days_29 : decode cX12_days 29 = .ok (.aload_n 0, 1) := by decide +kernel
theorem dX12_days_30 : decode cX12_days 30 = .ok (.iload_n 2, 1) := by decide +kernel
theorem dX12_days_31 : decode cX12_days 31 = .ok (.invokestatic 143, 3) := by decide +kernel
theorem dX12_days_34 : decode cX12_days 34 = .ok (.iload_n 1, 1) := by decide +kernel
theorem dX12_days_35 : decode cX12_days 35 = .ok (.invokestatic 143, 3) := by decide +kernel
theorem dX12_days_38 : decode cX12_days 38 = .ok (.isub, 1) := by decide +kernel
theorem dX12_days_39 : decode cX12_days 39 = .ok (.invokevirtual 117, 3) := by decide +kernel
theorem dX12_days_42 : decode cX12_days 42 = .ok (.ireturn, 1) := by decide +kernel
set_option maxRecDepth 20000 in
theorem ggX12_weekday_X12_isDate : GoodIn wsX12_weekday wsX12_isDate := goodIn_r _ [5, 6, 7, 8, 9, 4, 10, 11, 12, 13] (by decide +kernel) (by decide +kernel)
set_option maxRecDepth 20000 in
theorem gX12_weekday_X12_isDate : GoodIn wsX12_weekday (va_wsS RX12 246 yX12_isDate wsX12_isDate) := goodIn_app (goodIn_of _ (by decide +kernel)) ggX12_weekday_X12_isDate
set_option maxRecDepth 20000 in
theorem ggX12_weekday_X12_refused : GoodIn wsX12_weekday wsX12_refused := goodIn_r _ [17, 18, 19, 34, 35, 36, 37, 38, 39, 40, 41, 42, 43, 44, 45, 46, 47, 48, 49, 50, 51, 52, 53, 54, 55, 56, 57, 58, 59, 60, 61, 62, 63, 64, 65, 66, 67, 68, 69, 70, 71, 72, 73, 74, 75, 76, 77, 78, 79, 80, 81, 82, 83, 84, 85, 86, 87, 88, 89, 90, 91, 92, 93, 94, 95, 96, 97, 98, 99, 100, 101, 102] (by decide +kernel) (by decide +kernel)
set_option maxRecDepth 20000 in
theorem gX12_weekday_X12_refused : GoodIn wsX12_weekday (wsV RX12 113 RX12 yX12_refused wsX12_refused) := goodIn_app (goodIn_of _ (by decide +kernel)) ggX12_weekday_X12_refused
set_option maxRecDepth 20000 in
theorem ggX12_weekday_X12_dayOf : GoodIn wsX12_weekday wsX12_dayOf := goodIn_r _ [22, 23, 24, 4, 25] (by decide +kernel) (by decide +kernel)
set_option maxRecDepth 20000 in
theorem gX12_weekday_X12_dayOf : GoodIn wsX12_weekday (va_wsS RX12 143 yX12_dayOf wsX12_dayOf) := goodIn_app (goodIn_of _ (by decide +kernel)) ggX12_weekday_X12_dayOf
set_option maxRecDepth 20000 in
theorem ggX12_weekday_X12_weekdayOf : GoodIn wsX12_weekday wsX12_weekdayOf := goodIn_r _ [28, 6, 29, 20, 21, 4, 22, 23, 24, 25] (by decide +kernel) (by decide +kernel)
set_option maxRecDepth 20000 in
theorem gX12_weekday_X12_weekdayOf : GoodIn wsX12_weekday (va_wsS RX12 147 yX12_weekdayOf wsX12_weekdayOf) := goodIn_app (goodIn_of _ (by decide +kernel)) ggX12_weekday_X12_weekdayOf
set_option maxRecDepth 20000 in
theorem ggX12_weekday_X12_good : GoodIn wsX12_weekday wsX12_good := goodIn_r _ [33, 18, 19, 34, 35, 36, 37, 38, 39, 40, 41, 42, 43, 44, 45, 46, 47, 48, 49, 50, 51, 52, 53, 54, 55, 56, 57, 58, 59, 60, 61, 62, 63, 64, 65, 66, 67, 68, 69, 70, 71, 72, 73, 74, 75, 76, 77, 78, 79, 80, 81, 82, 83, 84, 85, 86, 87, 88, 89, 90, 91, 92, 93, 94, 95, 96, 97, 98, 99, 100, 101, 102] (by decide +kernel) (by decide +kernel)
set_option maxRecDepth 20000 in
theorem gX12_weekday_X12_good : GoodIn wsX12_weekday (wsV RX12 117 RX12 yX12_good wsX12_good) := goodIn_app (goodIn_of _ (by decide +kernel)) ggX12_weekday_X12_good
theorem dX12_weekday_0 : decode cX12_weekday 0 = .ok (.aload_n 0, 1) := by decide +kernel
theorem dX12_weekday_1 : decode cX12_weekday 1 = .ok (.iconst 0, 1) := by decide +kernel
theorem dX12_weekday_2 : decode cX12_weekday 2 = .ok (.putfield 107, 3) := by decide +kernel
theorem dX12_weekday_5 : decode cX12_weekday 5 = .ok (.iload_n 1, 1) := by decide +kernel
theorem dX12_weekday_6 : decode cX12_weekday 6 = .ok (.invokestatic 246, 3) := by decide +kernel
theorem dX12_weekday_9 : decode cX12_weekday 9 = .ok (.ifCond .ne 9, 3) := by decide +kernel
theorem dX12_weekday_12 : decode cX12_weekday 12 = .ok (.aload_n 0, 1) := by decide +kernel
theorem dX12_weekday_13 : decode cX12_weekday 13 = .ok (.iconst 2, 1) := by decide +kernel
theorem dX12_weekday_14 : decode cX12_weekday 14 = .ok (.invokevirtual 113, 3) := by decide +kernel
theorem dX12_weekday_17 : decode cX12_weekday 17 = .ok (.ireturn, 1) := by decide +kernel
theorem dX12_weekday_18 : decode cX12_weekday 18 = .ok (.aload_n 0, 1) := by decide +kernel
theorem dX12_weekday_19 : decode cX12_weekday 19 = .ok (.iload_n 1, 1) := by decide +kernel
theorem dX12_weekday_20 : decode cX12_weekday 20 = .ok (.invokestatic 143, 3) := by decide +kernel
theorem dX12_weekday_23 : decode cX12_weekday 23 = .ok (.invokestatic 147, 3) := by decide +kernel
theorem dX12_weekday_26 : decode cX12_weekday 26 = .ok (.invokevirtual 117, 3) := by decide +kernel
theorem dX12_weekday_29 : decode cX12_weekday 29 = .ok (.ireturn, 1) := by decide +kernel
set_option maxRecDepth 20000 in
theorem ggX12_months_X12_isDate : GoodIn wsX12_months wsX12_isDate := goodIn_r _ [5, 6, 7, 8, 9, 4, 10, 11, 12, 13] (by decide +kernel) (by decide +kernel)
set_option maxRecDepth 20000 in
theorem gX12_months_X12_isDate : GoodIn wsX12_months (va_wsS RX12 246 yX12_isDate wsX12_isDate) := goodIn_app (goodIn_of _ (by decide +kernel)) ggX12_months_X12_isDate
set_option maxRecDepth 20000 in
theorem ggX12_months_X12_in : GoodIn wsX12_months wsX12_in := goodIn_r _ [10] (by decide +kernel) (by decide +kernel)
set_option maxRecDepth 20000 in
theorem gX12_months_X12_in : GoodIn wsX12_months (va_wsS RX12 132 yX12_in wsX12_in) := goodIn_app (goodIn_of _ (by decide +kernel)) ggX12_months_X12_in
set_option maxRecDepth 20000 in
theorem ggX12_months_X12_refused : GoodIn wsX12_months wsX12_refused := goodIn_r _ [17, 18, 19, 30, 31, 32, 33, 34, 35, 36, 37, 38, 39, 40, 41, 42, 43, 44, 45, 46, 47, 48, 49, 50, 51, 52, 53, 54, 55, 56, 57, 58, 59, 60, 61, 62, 63, 64, 65, 66, 67, 68, 69, 70, 71, 72, 73, 74, 75, 76, 77, 78, 79, 80, 81, 82, 83, 84, 85, 86, 87, 88, 89, 90, 91, 92, 93, 94, 95, 96, 97, 98] (by decide +kernel) (by decide +kernel)
set_option maxRecDepth 20000 in
theorem gX12_months_X12_refused : GoodIn wsX12_months (wsV RX12 113 RX12 yX12_refused wsX12_refused) := goodIn_app (goodIn_of _ (by decide +kernel)) ggX12_months_X12_refused
set_option maxRecDepth 20000 in
theorem ggX12_months_X12_isMonthEnd : GoodIn wsX12_months wsX12_isMonthEnd := goodIn_r _ [22, 11, 12, 4, 13] (by decide +kernel) (by decide +kernel)
set_option maxRecDepth 20000 in
theorem gX12_months_X12_isMonthEnd : GoodIn wsX12_months (va_wsS RX12 180 yX12_isMonthEnd wsX12_isMonthEnd) := goodIn_app (goodIn_of _ (by decide +kernel)) ggX12_months_X12_isMonthEnd
set_option maxRecDepth 20000 in
theorem ggX12_months_X12_monthsFrom : GoodIn wsX12_months wsX12_monthsFrom := goodIn_r _ [25, 11, 12, 4, 13] (by decide +kernel) (by decide +kernel)
set_option maxRecDepth 20000 in
theorem gX12_months_X12_monthsFrom : GoodIn wsX12_months (va_wsS RX12 183 yX12_monthsFrom wsX12_monthsFrom) := goodIn_app (goodIn_of _ (by decide +kernel)) ggX12_months_X12_monthsFrom
set_option maxRecDepth 20000 in
theorem ggX12_months_X12_good : GoodIn wsX12_months wsX12_good := goodIn_r _ [29, 18, 19, 30, 31, 32, 33, 34, 35, 36, 37, 38, 39, 40, 41, 42, 43, 44, 45, 46, 47, 48, 49, 50, 51, 52, 53, 54, 55, 56, 57, 58, 59, 60, 61, 62, 63, 64, 65, 66, 67, 68, 69, 70, 71, 72, 73, 74, 75, 76, 77, 78, 79, 80, 81, 82, 83, 84, 85, 86, 87, 88, 89, 90, 91, 92, 93, 94, 95, 96, 97, 98] (by decide +kernel) (by decide +kernel)
set_option maxRecDepth 20000 in
theorem gX12_months_X12_good : GoodIn wsX12_months (wsV RX12 117 RX12 yX12_good wsX12_good) := goodIn_app (goodIn_of _ (by decide +kernel)) ggX12_months_X12_good
theorem dX12_months_0 : decode cX12_months 0 = .ok (.aload_n 0, 1) := by decide +kernel
theorem dX12_months_1 : decode cX12_months 1 = .ok (.iconst 0, 1) := by decide +kernel
theorem dX12_months_2 : decode cX12_months 2 = .ok (.putfield 107, 3) := by decide +kernel
theorem dX12_months_5 : decode cX12_months 5 = .ok (.iload_n 1, 1) := by decide +kernel
theorem dX12_months_6 : decode cX12_months 6 = .ok (.invokestatic 246, 3) := by decide +kernel
theorem dX12_months_9 : decode cX12_months 9 = .ok (.ifCond .eq 14, 3) := by decide +kernel
theorem dX12_months_12 : decode cX12_months 12 = .ok (.iload_n 2, 1) := by decide +kernel
theorem dX12_months_13 : decode cX12_months 13 = .ok (.bipush (-120), 2) := by decide +kernel
theorem dX12_months_15 : decode cX12_months 15 = .ok (.bipush 120, 2) := by decide +kernel
theorem dX12_months_17 : decode cX12_months 17 = .ok (.invokestatic 132, 3) := by decide +kernel
theorem dX12_months_20 : decode cX12_months 20 = .ok (.ifCond .ne 9, 3) := by decide +kernel
theorem dX12_months_23 : decode cX12_months 23 = .ok (.aload_n 0, 1) := by decide +kernel
theorem dX12_months_24 : decode cX12_months 24 = .ok (.iconst 2, 1) := by decide +kernel
theorem dX12_months_25 : decode cX12_months 25 = .ok (.invokevirtual 113, 3) := by decide +kernel
theorem dX12_months_28 : decode cX12_months 28 = .ok (.ireturn, 1) := by decide +kernel
theorem dX12_months_29 : decode cX12_months 29 = .ok (.aload_n 0, 1) := by decide +kernel
theorem dX12_months_30 : decode cX12_months 30 = .ok (.iload_n 1, 1) := by decide +kernel
theorem dX12_months_31 : decode cX12_months 31 = .ok (.iload_n 2, 1) := by decide +kernel
theorem dX12_months_32 : decode cX12_months 32 = .ok (.iload_n 3, 1) := by decide +kernel
theorem dX12_months_33 : decode cX12_months 33 = .ok (.ifCond .eq 14, 3) := by decide +kernel
theorem dX12_months_36 : decode cX12_months 36 = .ok (.iload_n 1, 1) := by decide +kernel
theorem dX12_months_37 : decode cX12_months 37 = .ok (.invokestatic 180, 3) := by decide +kernel
theorem dX12_months_40 : decode cX12_months 40 = .ok (.ifCond .eq 7, 3) := by decide +kernel
theorem dX12_months_43 : decode cX12_months 43 = .ok (.iconst 1, 1) := by decide +kernel
theorem dX12_months_44 : decode cX12_months 44 = .ok (.goto 4, 3) := by decide +kernel
theorem dX12_months_47 : decode cX12_months 47 = .ok (.iconst 0, 1) := by decide +kernel
theorem dX12_months_48 : decode cX12_months 48 = .ok (.invokestatic 183, 3) := by decide +kernel
theorem dX12_months_51 : decode cX12_months 51 = .ok (.invokevirtual 117, 3) := by decide +kernel
theorem dX12_months_54 : decode cX12_months 54 = .ok (.ireturn, 1) := by decide +kernel
theorem dX12_isBond_0 : decode cX12_isBond 0 = .ok (.iload_n 1, 1) := by decide +kernel
theorem dX12_isBond_1 : decode cX12_isBond 1 = .ok (.ifCond .lt 15, 3) := by decide +kernel
theorem dX12_isBond_4 : decode cX12_isBond 4 = .ok (.iload_n 1, 1) := by decide +kernel
theorem dX12_isBond_5 : decode cX12_isBond 5 = .ok (.aload_n 0, 1) := by decide +kernel
theorem dX12_isBond_6 : decode cX12_isBond 6 = .ok (.getfield 358, 3) := by decide +kernel
theorem dX12_isBond_9 : decode cX12_isBond 9 = .ok (.if_icmp .ge 7, 3) := by decide +kernel
theorem dX12_isBond_12 : decode cX12_isBond 12 = .ok (.iconst 1, 1) := by decide +kernel
theorem dX12_isBond_13 : decode cX12_isBond 13 = .ok (.goto 4, 3) := by decide +kernel
theorem dX12_isBond_16 : decode cX12_isBond 16 = .ok (.iconst 0, 1) := by decide +kernel
theorem dX12_isBond_17 : decode cX12_isBond 17 = .ok (.ireturn, 1) := by decide +kernel
set_option maxRecDepth 20000 in
theorem ggX12_isPeriod_X12_isBond : GoodIn wsX12_isPeriod wsX12_isBond := goodIn_r _ [6, 7, 8, 9, 10, 11, 12, 13, 14, 15, 16, 17, 18, 19, 20, 21, 22, 23, 24, 25, 26, 27, 28, 29, 30, 31, 32, 33, 34, 35, 36, 37, 38, 39, 40, 41, 42, 43, 44, 45, 46, 47, 48, 49, 50, 51, 52, 53, 54, 55, 56, 57, 58, 59, 60, 61, 62, 63, 64, 65, 66, 67, 68, 69, 70, 71, 72, 73, 74, 75, 76] (by decide +kernel) (by decide +kernel)
set_option maxRecDepth 20000 in
theorem gX12_isPeriod_X12_isBond : GoodIn wsX12_isPeriod (wsV RX12 438 RX12 yX12_isBond wsX12_isBond) := goodIn_app (goodIn_of _ (by decide +kernel)) ggX12_isPeriod_X12_isBond
