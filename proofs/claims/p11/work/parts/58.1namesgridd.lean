set_option maxRecDepth 20000 in
theorem ggX12_gridDate_X12_isMonthEnd : GoodIn wsX12_gridDate wsX12_isMonthEnd := goodIn_r _ [7, 8, 9, 6, 10] (by decide +kernel) (by decide +kernel)
set_option maxRecDepth 20000 in
theorem gX12_gridDate_X12_isMonthEnd : GoodIn wsX12_gridDate (va_wsS RX12 180 yX12_isMonthEnd wsX12_isMonthEnd) := goodIn_app (goodIn_of _ (by decide +kernel)) ggX12_gridDate_X12_isMonthEnd
set_option maxRecDepth 20000 in
theorem ggX12_gridDate_X12_monthsFrom : GoodIn wsX12_gridDate wsX12_monthsFrom := goodIn_r _ [13, 8, 9, 6, 10] (by decide +kernel) (by decide +kernel)
set_option maxRecDepth 20000 in
theorem gX12_gridDate_X12_monthsFrom : GoodIn wsX12_gridDate (va_wsS RX12 183 yX12_monthsFrom wsX12_monthsFrom) := goodIn_app (goodIn_of _ (by decide +kernel)) ggX12_gridDate_X12_monthsFrom
theorem dX12_gridDate_0 : decode cX12_gridDate 0 = .ok (.aload_n 0, 1) := by decide +kernel
theorem dX12_gridDate_1 : decode cX12_gridDate 1 = .ok (.getfield 26, 3) := by decide +kernel
theorem dX12_gridDate_4 : decode cX12_gridDate 4 = .ok (.iload_n 1, 1) := by decide +kernel
theorem dX12_gridDate_5 : decode cX12_gridDate 5 = .ok (.iaload, 1) := by decide +kernel
theorem dX12_gridDate_6 : decode cX12_gridDate 6 = .ok (.bipush 12, 2) := by decide +kernel
theorem dX12_gridDate_8 : decode cX12_gridDate 8 = .ok (.aload_n 0, 1) := by decide +kernel
theorem dX12_gridDate_9 : decode cX12_gridDate 9 = .ok (.getfield 17, 3) := by decide +kernel
theorem dX12_gridDate_12 : decode cX12_gridDate 12 = .ok (.iload_n 1, 1) := by decide +kernel
theorem dX12_gridDate_13 : decode cX12_gridDate 13 = .ok (.iaload, 1) := by decide +kernel
theorem dX12_gridDate_14 : decode cX12_gridDate 14 = .ok (.idiv, 1) := by decide +kernel
theorem dX12_gridDate_15 : decode cX12_gridDate 15 = .ok (.iload_n 2, 1) := by decide +kernel
theorem dX12_gridDate_16 : decode cX12_gridDate 16 = .ok (.imul, 1) := by decide +kernel
theorem dX12_gridDate_17 : decode cX12_gridDate 17 = .ok (.aload_n 0, 1) := by decide +kernel
theorem dX12_gridDate_18 : decode cX12_gridDate 18 = .ok (.getfield 41, 3) := by decide +kernel
theorem dX12_gridDate_21 : decode cX12_gridDate 21 = .ok (.iload_n 1, 1) := by decide +kernel
theorem dX12_gridDate_22 : decode cX12_gridDate 22 = .ok (.baload, 1) := by decide +kernel
theorem dX12_gridDate_23 : decode cX12_gridDate 23 = .ok (.ifCond .eq 19, 3) := by decide +kernel
theorem dX12_gridDate_26 : decode cX12_gridDate 26 = .ok (.aload_n 0, 1) := by decide +kernel
theorem dX12_gridDate_27 : decode cX12_gridDate 27 = .ok (.getfield 26, 3) := by decide +kernel
theorem dX12_gridDate_30 : decode cX12_gridDate 30 = .ok (.iload_n 1, 1) := by decide +kernel
theorem dX12_gridDate_31 : decode cX12_gridDate 31 = .ok (.iaload, 1) := by decide +kernel
theorem dX12_gridDate_32 : decode cX12_gridDate 32 = .ok (.invokestatic 180, 3) := by decide +kernel
theorem dX12_gridDate_35 : decode cX12_gridDate 35 = .ok (.ifCond .eq 7, 3) := by decide +kernel
theorem dX12_gridDate_38 : decode cX12_gridDate 38 = .ok (.iconst 1, 1) := by decide +kernel
theorem dX12_gridDate_39 : decode cX12_gridDate 39 = .ok (.goto 4, 3) := by decide +kernel
theorem dX12_gridDate_42 : decode cX12_gridDate 42 = .ok (.iconst 0, 1) := by decide +kernel
theorem dX12_gridDate_43 : decode cX12_gridDate 43 = .ok (.invokestatic 183, 3) := by decide +kernel
theorem dX12_gridDate_46 : decode cX12_gridDate 46 = .ok (.ireturn, 1) := by decide +kernel
