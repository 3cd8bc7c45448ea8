theorem dX11_holiday_0 : decode cX11_holiday 0 = .ok (.iload_n 1, 1) := by decide +kernel
theorem dX11_holiday_1 : decode cX11_holiday 1 = .ok (.ifCond .lt 32, 3) := by decide +kernel
theorem dX11_holiday_4 : decode cX11_holiday 4 = .ok (.iload_n 1, 1) := by decide +kernel
theorem dX11_holiday_5 : decode cX11_holiday 5 = .ok (.aload_n 0, 1) := by decide +kernel
theorem dX11_holiday_6 : decode cX11_holiday 6 = .ok (.getfield 60, 3) := by decide +kernel
theorem dX11_holiday_9 : decode cX11_holiday 9 = .ok (.getfield 146, 3) := by decide +kernel
theorem dX11_holiday_12 : decode cX11_holiday 12 = .ok (.getfield 378, 3) := by decide +kernel
theorem dX11_holiday_15 : decode cX11_holiday 15 = .ok (.if_icmp .ge 18, 3) := by decide +kernel
theorem dX11_holiday_33 : decode cX11_holiday 33 = .ok (.new 384, 3) := by decide +kernel
theorem dX11_holiday_36 : decode cX11_holiday 36 = .ok (.dup, 1) := by decide +kernel
theorem dX11_holiday_37 : decode cX11_holiday 37 = .ok (.ldc_w 386, 3) := by decide +kernel
theorem dX11_holiday_40 : decode cX11_holiday 40 = .ok (.invokespecial 388, 3) := by decide +kernel
theorem dX11_holiday_43 : decode cX11_holiday 43 = .ok (.athrow, 1) := by decide +kernel
theorem dX12_thrown_0 : decode cX12_thrown 0 = .ok (.aload_n 0, 1) := by decide +kernel
theorem dX12_thrown_1 : decode cX12_thrown 1 = .ok (.getfield 107, 3) := by decide +kernel
theorem dX12_thrown_4 : decode cX12_thrown 4 = .ok (.ireturn, 1) := by decide +kernel
theorem dX12_holiday_0 : decode cX12_holiday 0 = .ok (.aload_n 0, 1) := by decide +kernel
theorem dX12_holiday_1 : decode cX12_holiday 1 = .ok (.iconst 0, 1) := by decide +kernel
theorem dX12_holiday_2 : decode cX12_holiday 2 = .ok (.putfield 107, 3) := by decide +kernel
theorem dX12_holiday_5 : decode cX12_holiday 5 = .ok (.iload_n 1, 1) := by decide +kernel
theorem dX12_holiday_6 : decode cX12_holiday 6 = .ok (.ifCond .lt 21, 3) := by decide +kernel
theorem dX12_holiday_9 : decode cX12_holiday 9 = .ok (.iload_n 1, 1) := by decide +kernel
theorem dX12_holiday_10 : decode cX12_holiday 10 = .ok (.aload_n 0, 1) := by decide +kernel
theorem dX12_holiday_11 : decode cX12_holiday 11 = .ok (.getfield 150, 3) := by decide +kernel
theorem dX12_holiday_14 : decode cX12_holiday 14 = .ok (.if_icmp .ge 13, 3) := by decide +kernel
theorem dX12_holiday_27 : decode cX12_holiday 27 = .ok (.aload_n 0, 1) := by decide +kernel
theorem dX12_holiday_28 : decode cX12_holiday 28 = .ok (.iconst 1, 1) := by decide +kernel
theorem dX12_holiday_29 : decode cX12_holiday 29 = .ok (.putfield 107, 3) := by decide +kernel
theorem dX12_holiday_32 : decode cX12_holiday 32 = .ok (.iconst 0, 1) := by decide +kernel
theorem dX12_holiday_33 : decode cX12_holiday 33 = .ok (.ireturn, 1) := by decide +kernel
theorem dL_holiday_0 : decode cL_holiday 0 = .ok (.aload_n 2, 1) := by decide +kernel
theorem dL_holiday_1 : decode cL_holiday 1 = .ok (.iconst 0, 1) := by decide +kernel
theorem dL_holiday_2 : decode cL_holiday 2 = .ok (.aload_n 0, 1) := by decide +kernel
theorem dL_holiday_3 : decode cL_holiday 3 = .ok (.iload_n 1, 1) := by decide +kernel
theorem dL_holiday_4 : decode cL_holiday 4 = .ok (.invokevirtual 7, 3) := by decide +kernel
theorem dL_holiday_12 : decode cL_holiday 12 = .ok (.astore_n 3, 1) := by decide +kernel
theorem dL_holiday_13 : decode cL_holiday 13 = .ok (.iconst 1, 1) := by decide +kernel
theorem dL_holiday_14 : decode cL_holiday 14 = .ok (.ireturn, 1) := by decide +kernel
