set_option maxRecDepth 20000 in
theorem ggX12_quote_X12_refused : GoodIn wsX12_quote wsX12_refused := goodIn_r _ [13, 14, 15, 20, 21, 22, 23, 24, 25, 26, 27, 28, 29, 30, 31, 32, 33, 34, 35, 36, 37, 38, 39, 40, 41, 42, 43, 44, 45, 46, 47, 48, 49, 50, 51, 52, 53, 54, 55, 56, 57, 58, 59, 60, 61, 62, 63, 64, 65, 66, 67, 68, 69, 70, 71, 72, 73, 74, 75, 76, 77, 78, 79, 80, 81, 82, 83, 84, 85, 86, 87, 88] (by decide +kernel) (by decide +kernel)
set_option maxRecDepth 20000 in
theorem gX12_quote_X12_refused : GoodIn wsX12_quote (wsV RX12 113 RX12 yX12_refused wsX12_refused) := goodIn_app (goodIn_of _ (by decide +kernel)) ggX12_quote_X12_refused
theorem dX12_quote_0 : decode cX12_quote 0 = .ok (.aload_n 0, 1) := by decide +kernel
theorem dX12_quote_1 : decode cX12_quote 1 = .ok (.iconst 0, 1) := by decide +kernel
theorem dX12_quote_2 : decode cX12_quote 2 = .ok (.putfield 107, 3) := by decide +kernel
theorem dX12_quote_5 : decode cX12_quote 5 = .ok (.iload_n 1, 1) := by decide +kernel
theorem dX12_quote_6 : decode cX12_quote 6 = .ok (.ifCond .lt 20, 3) := by decide +kernel
theorem dX12_quote_9 : decode cX12_quote 9 = .ok (.iload_n 1, 1) := by decide +kernel
theorem dX12_quote_10 : decode cX12_quote 10 = .ok (.aload_n 0, 1) := by decide +kernel
theorem dX12_quote_11 : decode cX12_quote 11 = .ok (.getfield 364, 3) := by decide +kernel
theorem dX12_quote_14 : decode cX12_quote 14 = .ok (.if_icmp .ge 12, 3) := by decide +kernel
theorem dX12_quote_26 : decode cX12_quote 26 = .ok (.aload_n 0, 1) := by decide +kernel
theorem dX12_quote_27 : decode cX12_quote 27 = .ok (.iconst 1, 1) := by decide +kernel
theorem dX12_quote_28 : decode cX12_quote 28 = .ok (.invokevirtual 113, 3) := by decide +kernel
theorem dX12_quote_31 : decode cX12_quote 31 = .ok (.ireturn, 1) := by decide +kernel
