set_option maxRecDepth 20000 in
theorem ggX12_isPoints_X12_in : GoodIn wsX12_isPoints wsX12_in := goodIn_r _ [4] (by decide +kernel) (by decide +kernel)
set_option maxRecDepth 20000 in
theorem gX12_isPoints_X12_in : GoodIn wsX12_isPoints (va_wsS RX12 132 yX12_in wsX12_in) := goodIn_app (goodIn_of _ (by decide +kernel)) ggX12_isPoints_X12_in
theorem dX12_isPoints_0 : decode cX12_isPoints 0 = .ok (.iload_n 0, 1) := by decide +kernel
theorem dX12_isPoints_1 : decode cX12_isPoints 1 = .ok (.sipush (-2000), 3) := by decide +kernel
theorem dX12_isPoints_4 : decode cX12_isPoints 4 = .ok (.sipush 10000, 3) := by decide +kernel
theorem dX12_isPoints_7 : decode cX12_isPoints 7 = .ok (.invokestatic 132, 3) := by decide +kernel
theorem dX12_isPoints_10 : decode cX12_isPoints 10 = .ok (.ireturn, 1) := by decide +kernel
