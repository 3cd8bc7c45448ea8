theorem dX12_gridDay_0 : decode cX12_gridDay 0 = .ok (.aload_n 0, 1) := by decide +kernel
theorem dX12_gridDay_1 : decode cX12_gridDay 1 = .ok (.getfield 38, 3) := by decide +kernel
theorem dX12_gridDay_4 : decode cX12_gridDay 4 = .ok (.bipush 96, 2) := by decide +kernel
theorem dX12_gridDay_6 : decode cX12_gridDay 6 = .ok (.iload_n 1, 1) := by decide +kernel
theorem dX12_gridDay_7 : decode cX12_gridDay 7 = .ok (.imul, 1) := by decide +kernel
theorem dX12_gridDay_8 : decode cX12_gridDay 8 = .ok (.bipush 91, 2) := by decide +kernel
theorem dX12_gridDay_10 : decode cX12_gridDay 10 = .ok (.iadd, 1) := by decide +kernel
theorem dX12_gridDay_11 : decode cX12_gridDay 11 = .ok (.iload_n 2, 1) := by decide +kernel
theorem dX12_gridDay_12 : decode cX12_gridDay 12 = .ok (.iadd, 1) := by decide +kernel
theorem dX12_gridDay_13 : decode cX12_gridDay 13 = .ok (.iaload, 1) := by decide +kernel
theorem dX12_gridDay_14 : decode cX12_gridDay 14 = .ok (.ireturn, 1) := by decide +kernel
theorem dX12_startOf_0 : decode cX12_startOf 0 = .ok (.iload_n 2, 1) := by decide +kernel
theorem dX12_startOf_1 : decode cX12_startOf 1 = .ok (.ifCond .ne 12, 3) := by decide +kernel
theorem dX12_startOf_4 : decode cX12_startOf 4 = .ok (.aload_n 0, 1) := by decide +kernel
theorem dX12_startOf_5 : decode cX12_startOf 5 = .ok (.getfield 29, 3) := by decide +kernel
theorem dX12_startOf_8 : decode cX12_startOf 8 = .ok (.iload_n 1, 1) := by decide +kernel
theorem dX12_startOf_9 : decode cX12_startOf 9 = .ok (.iaload, 1) := by decide +kernel
theorem dX12_startOf_10 : decode cX12_startOf 10 = .ok (.goto 16, 3) := by decide +kernel
theorem dX12_startOf_13 : decode cX12_startOf 13 = .ok (.aload_n 0, 1) := by decide +kernel
theorem dX12_startOf_14 : decode cX12_startOf 14 = .ok (.getfield 67, 3) := by decide +kernel
theorem dX12_startOf_17 : decode cX12_startOf 17 = .ok (.bipush 82, 2) := by decide +kernel
theorem dX12_startOf_19 : decode cX12_startOf 19 = .ok (.iload_n 1, 1) := by decide +kernel
theorem dX12_startOf_20 : decode cX12_startOf 20 = .ok (.imul, 1) := by decide +kernel
theorem dX12_startOf_21 : decode cX12_startOf 21 = .ok (.iload_n 2, 1) := by decide +kernel
theorem dX12_startOf_22 : decode cX12_startOf 22 = .ok (.iadd, 1) := by decide +kernel
theorem dX12_startOf_23 : decode cX12_startOf 23 = .ok (.iconst 1, 1) := by decide +kernel
theorem dX12_startOf_24 : decode cX12_startOf 24 = .ok (.isub, 1) := by decide +kernel
theorem dX12_startOf_25 : decode cX12_startOf 25 = .ok (.iaload, 1) := by decide +kernel
theorem dX12_startOf_26 : decode cX12_startOf 26 = .ok (.ireturn, 1) := by decide +kernel
theorem dX12_endOf_0 : decode cX12_endOf 0 = .ok (.aload_n 0, 1) := by decide +kernel
theorem dX12_endOf_1 : decode cX12_endOf 1 = .ok (.getfield 67, 3) := by decide +kernel
theorem dX12_endOf_4 : decode cX12_endOf 4 = .ok (.bipush 82, 2) := by decide +kernel
theorem dX12_endOf_6 : decode cX12_endOf 6 = .ok (.iload_n 1, 1) := by decide +kernel
theorem dX12_endOf_7 : decode cX12_endOf 7 = .ok (.imul, 1) := by decide +kernel
theorem dX12_endOf_8 : decode cX12_endOf 8 = .ok (.iload_n 2, 1) := by decide +kernel
theorem dX12_endOf_9 : decode cX12_endOf 9 = .ok (.iadd, 1) := by decide +kernel
theorem dX12_endOf_10 : decode cX12_endOf 10 = .ok (.iaload, 1) := by decide +kernel
theorem dX12_endOf_11 : decode cX12_endOf 11 = .ok (.ireturn, 1) := by decide +kernel
