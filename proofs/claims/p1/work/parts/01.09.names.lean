theorem dX3_numberOf_108 : decode cX3_numberOf 108 = .ok (.isub, 1) := by decide +kernel
theorem dX3_numberOf_109 : decode cX3_numberOf 109 = .ok (.istore 8, 2) := by decide +kernel
theorem dX3_numberOf_111 : decode cX3_numberOf 111 = .ok (.iload_n 2, 1) := by decide +kernel
theorem dX3_numberOf_112 : decode cX3_numberOf 112 = .ok (.sipush 400, 3) := by decide +kernel
theorem dX3_numberOf_115 : decode cX3_numberOf 115 = .ok (.imul, 1) := by decide +kernel
theorem dX3_numberOf_116 : decode cX3_numberOf 116 = .ok (.iload 4, 2) := by decide +kernel
theorem dX3_numberOf_118 : decode cX3_numberOf 118 = .ok (.iadd, 1) := by decide +kernel
theorem dX3_numberOf_119 : decode cX3_numberOf 119 = .ok (.iload 8, 2) := by decide +kernel
theorem dX3_numberOf_121 : decode cX3_numberOf 121 = .ok (.iconst 2, 1) := by decide +kernel
theorem dX3_numberOf_122 : decode cX3_numberOf 122 = .ok (.if_icmp .gt 7, 3) := by decide +kernel
theorem dX3_numberOf_125 : decode cX3_numberOf 125 = .ok (.iconst 1, 1) := by decide +kernel
theorem dX3_numberOf_126 : decode cX3_numberOf 126 = .ok (.goto 4, 3) := by decide +kernel
theorem dX3_numberOf_129 : decode cX3_numberOf 129 = .ok (.iconst 0, 1) := by decide +kernel
theorem dX3_numberOf_130 : decode cX3_numberOf 130 = .ok (.iadd, 1) := by decide +kernel
theorem dX3_numberOf_131 : decode cX3_numberOf 131 = .ok (.istore 9, 2) := by decide +kernel
theorem dX3_numberOf_133 : decode cX3_numberOf 133 = .ok (.iload 9, 2) := by decide +kernel
theorem dX3_numberOf_135 : decode cX3_numberOf 135 = .ok (.sipush 10000, 3) := by decide +kernel
theorem dX3_numberOf_138 : decode cX3_numberOf 138 = .ok (.imul, 1) := by decide +kernel
theorem dX3_numberOf_139 : decode cX3_numberOf 139 = .ok (.iload 8, 2) := by decide +kernel
theorem dX3_numberOf_141 : decode cX3_numberOf 141 = .ok (.bipush 100, 2) := by decide +kernel
theorem dX3_numberOf_143 : decode cX3_numberOf 143 = .ok (.imul, 1) := by decide +kernel
theorem dX3_numberOf_144 : decode cX3_numberOf 144 = .ok (.iadd, 1) := by decide +kernel
theorem dX3_numberOf_145 : decode cX3_numberOf 145 = .ok (.iload 7, 2) := by decide +kernel
theorem dX3_numberOf_147 : decode cX3_numberOf 147 = .ok (.iadd, 1) := by decide +kernel
theorem dX3_numberOf_148 : decode cX3_numberOf 148 = .ok (.ireturn, 1) := by decide +kernel
set_option maxRecDepth 20000 in
theorem ggX3_weekdayOf_J9_floorMod_7cf53 : GoodIn wsX3_weekdayOf wsJ9_floorMod_7cf53 := goodIn_r _ [4] (by decide +kernel) (by decide +kernel)
set_option maxRecDepth 20000 in
theorem gX3_weekdayOf_J9_floorMod_7cf53 : GoodIn wsX3_weekdayOf (va_wsS RX3 19 yJ9_floorMod_7cf53 wsJ9_floorMod_7cf53) := goodIn_app (goodIn_of _ (by decide +kernel)) ggX3_weekdayOf_J9_floorMod_7cf53
theorem dX3_weekdayOf_0 : decode cX3_weekdayOf 0 = .ok (.iload_n 0, 1) := by decide +kernel
theorem dX3_weekdayOf_1 : decode cX3_weekdayOf 1 = .ok (.iconst 1, 1) := by decide +kernel
theorem dX3_weekdayOf_2 : decode cX3_weekdayOf 2 = .ok (.iadd, 1) := by decide +kernel
theorem dX3_weekdayOf_3 : decode cX3_weekdayOf 3 = .ok (.bipush 7, 2) := by decide +kernel
theorem dX3_weekdayOf_5 : decode cX3_weekdayOf 5 = .ok (.invokestatic 19, 3) := by decide +kernel
theorem dX3_weekdayOf_8 : decode cX3_weekdayOf 8 = .ok (.ireturn, 1) := by decide +kernel
set_option maxRecDepth 20000 in
theorem ggX3_monthsFrom_X3_lengthOfMonth : GoodIn wsX3_monthsFrom wsX3_lengthOfMonth := goodIn_r _ [4] (by decide +kernel) (by decide +kernel)
set_option maxRecDepth 20000 in
theorem gX3_monthsFrom_X3_lengthOfMonth : GoodIn wsX3_monthsFrom (va_wsS RX3 11 yX3_lengthOfMonth wsX3_lengthOfMonth) := goodIn_app (goodIn_of _ (by decide +kernel)) ggX3_monthsFrom_X3_lengthOfMonth
theorem dX3_monthsFrom_0 : decode cX3_monthsFrom 0 = .ok (.iload_n 0, 1) := by decide +kernel
theorem dX3_monthsFrom_1 : decode cX3_monthsFrom 1 = .ok (.sipush 10000, 3) := by decide +kernel
theorem dX3_monthsFrom_4 : decode cX3_monthsFrom 4 = .ok (.idiv, 1) := by decide +kernel
theorem dX3_monthsFrom_5 : decode cX3_monthsFrom 5 = .ok (.istore_n 3, 1) := by decide +kernel
theorem dX3_monthsFrom_6 : decode cX3_monthsFrom 6 = .ok (.iload_n 0, 1) := by decide +kernel
theorem dX3_monthsFrom_7 : decode cX3_monthsFrom 7 = .ok (.bipush 100, 2) := by decide +kernel
theorem dX3_monthsFrom_9 : decode cX3_monthsFrom 9 = .ok (.idiv, 1) := by decide +kernel
theorem dX3_monthsFrom_10 : decode cX3_monthsFrom 10 = .ok (.bipush 100, 2) := by decide +kernel
theorem dX3_monthsFrom_12 : decode cX3_monthsFrom 12 = .ok (.irem, 1) := by decide +kernel
theorem dX3_monthsFrom_13 : decode cX3_monthsFrom 13 = .ok (.istore 4, 2) := by decide +kernel
theorem dX3_monthsFrom_15 : decode cX3_monthsFrom 15 = .ok (.iload_n 0, 1) := by decide +kernel
theorem dX3_monthsFrom_16 : decode cX3_monthsFrom 16 = .ok (.bipush 100, 2) := by decide +kernel
theorem dX3_monthsFrom_18 : decode cX3_monthsFrom 18 = .ok (.irem, 1) := by decide +kernel
theorem dX3_monthsFrom_19 : decode cX3_monthsFrom 19 = .ok (.istore 5, 2) := by decide +kernel
theorem dX3_monthsFrom_21 : decode cX3_monthsFrom 21 = .ok (.iload_n 3, 1) := by decide +kernel
theorem dX3_monthsFrom_22 : decode cX3_monthsFrom 22 = .ok (.bipush 12, 2) := by decide +kernel
theorem dX3_monthsFrom_24 : decode cX3_monthsFrom 24 = .ok (.imul, 1) := by decide +kernel
theorem dX3_monthsFrom_25 : decode cX3_monthsFrom 25 = .ok (.iload 4, 2) := by decide +kernel
theorem dX3_monthsFrom_27 : decode cX3_monthsFrom 27 = .ok (.iadd, 1) := by decide +kernel
theorem dX3_monthsFrom_28 : decode cX3_monthsFrom 28 = .ok (.iconst 1, 1) := by decide +kernel
theorem dX3_monthsFrom_29 : decode cX3_monthsFrom 29 = .ok (.isub, 1) := by decide +kernel
theorem dX3_monthsFrom_30 : decode cX3_monthsFrom 30 = .ok (.iload_n 1, 1) := by decide +kernel
theorem dX3_monthsFrom_31 : decode cX3_monthsFrom 31 = .ok (.iadd, 1) := by decide +kernel
theorem dX3_monthsFrom_32 : decode cX3_monthsFrom 32 = .ok (.istore 6, 2) := by decide +kernel
theorem dX3_monthsFrom_34 : decode cX3_monthsFrom 34 = .ok (.iload 6, 2) := by decide +kernel
theorem dX3_monthsFrom_36 : decode cX3_monthsFrom 36 = .ok (.bipush 12, 2) := by decide +kernel
theorem dX3_monthsFrom_38 : decode cX3_monthsFrom 38 = .ok (.idiv, 1) := by decide +kernel
theorem dX3_monthsFrom_39 : decode cX3_monthsFrom 39 = .ok (.istore 7, 2) := by decide +kernel
theorem dX3_monthsFrom_41 : decode cX3_monthsFrom 41 = .ok (.iload 6, 2) := by decide +kernel
theorem dX3_monthsFrom_43 : decode cX3_monthsFrom 43 = .ok (.bipush 12, 2) := by decide +kernel
theorem dX3_monthsFrom_45 : decode cX3_monthsFrom 45 = .ok (.irem, 1) := by decide +kernel
theorem dX3_monthsFrom_46 : decode cX3_monthsFrom 46 = .ok (.iconst 1, 1) := by decide +kernel
theorem dX3_monthsFrom_47 : decode cX3_monthsFrom 47 = .ok (.iadd, 1) := by decide +kernel
theorem dX3_monthsFrom_48 : decode cX3_monthsFrom 48 = .ok (.istore 8, 2) := by decide +kernel
theorem dX3_monthsFrom_50 : decode cX3_monthsFrom 50 = .ok (.iload 7, 2) := by decide +kernel
theorem dX3_monthsFrom_52 : decode cX3_monthsFrom 52 = .ok (.iload 8, 2) := by decide +kernel
theorem dX3_monthsFrom_54 : decode cX3_monthsFrom 54 = .ok (.invokestatic 11, 3) := by decide +kernel
theorem dX3_monthsFrom_57 : decode cX3_monthsFrom 57 = .ok (.istore 9, 2) := by decide +kernel
theorem dX3_monthsFrom_59 : decode cX3_monthsFrom 59 = .ok (.iload 5, 2) := by decide +kernel
theorem dX3_monthsFrom_61 : decode cX3_monthsFrom 61 = .ok (.iload 9, 2) := by decide +kernel
theorem dX3_monthsFrom_63 : decode cX3_monthsFrom 63 = .ok (.if_icmp .gt 18, 3) := by decide +kernel
theorem dX3_monthsFrom_66 : decode cX3_monthsFrom 66 = .ok (.iload_n 2, 1) := by decide +kernel
theorem dX3_monthsFrom_67 : decode cX3_monthsFrom 67 = .ok (.ifCond .eq 18, 3) := by decide +kernel
theorem dX3_monthsFrom_70 : decode cX3_monthsFrom 70 = .ok (.iload 5, 2) := by decide +kernel
theorem dX3_monthsFrom_72 : decode cX3_monthsFrom 72 = .ok (.iload_n 3, 1) := by decide +kernel
theorem dX3_monthsFrom_73 : decode cX3_monthsFrom 73 = .ok (.iload 4, 2) := by decide +kernel
theorem dX3_monthsFrom_75 : decode cX3_monthsFrom 75 = .ok (.invokestatic 11, 3) := by decide +kernel
theorem dX3_monthsFrom_78 : decode cX3_monthsFrom 78 = .ok (.if_icmp .ne 7, 3) := by decide +kernel
theorem dX3_monthsFrom_81 : decode cX3_monthsFrom 81 = .ok (.iconst 1, 1) := by decide +kernel
theorem dX3_monthsFrom_82 : decode cX3_monthsFrom 82 = .ok (.goto 4, 3) := by decide +kernel
theorem dX3_monthsFrom_85 : decode cX3_monthsFrom 85 = .ok (.iconst 0, 1) := by decide +kernel
theorem dX3_monthsFrom_86 : decode cX3_monthsFrom 86 = .ok (.istore 10, 2) := by decide +kernel
theorem dX3_monthsFrom_88 : decode cX3_monthsFrom 88 = .ok (.iload 7, 2) := by decide +kernel
theorem dX3_monthsFrom_90 : decode cX3_monthsFrom 90 = .ok (.sipush 10000, 3) := by decide +kernel
theorem dX3_monthsFrom_93 : decode cX3_monthsFrom 93 = .ok (.imul, 1) := by decide +kernel
theorem dX3_monthsFrom_94 : decode cX3_monthsFrom 94 = .ok (.iload 8, 2) := by decide +kernel
theorem dX3_monthsFrom_96 : decode cX3_monthsFrom 96 = .ok (.bipush 100, 2) := by decide +kernel
theorem dX3_monthsFrom_98 : decode cX3_monthsFrom 98 = .ok (.imul, 1) := by decide +kernel
theorem dX3_monthsFrom_99 : decode cX3_monthsFrom 99 = .ok (.iadd, 1) := by decide +kernel
theorem dX3_monthsFrom_100 : decode cX3_monthsFrom 100 = .ok (.iload 10, 2) := by decide +kernel
theorem dX3_monthsFrom_102 : decode cX3_monthsFrom 102 = .ok (.ifCond .eq 8, 3) := by decide +kernel
theorem dX3_monthsFrom_105 : decode cX3_monthsFrom 105 = .ok (.iload 9, 2) := by decide +kernel
theorem dX3_monthsFrom_107 : decode cX3_monthsFrom 107 = .ok (.goto 5, 3) := by decide +kernel
theorem dX3_monthsFrom_110 : decode cX3_monthsFrom 110 = .ok (.iload 5, 2) := by decide +kernel
theorem dX3_monthsFrom_112 : decode cX3_monthsFrom 112 = .ok (.iadd, 1) := by decide +kernel
theorem dX3_monthsFrom_113 : decode cX3_monthsFrom 113 = .ok (.ireturn, 1) := by decide +kernel
theorem dX12_in_0 : decode cX12_in 0 = .ok (.iload_n 0, 1) := by decide +kernel
theorem dX12_in_1 : decode cX12_in 1 = .ok (.iload_n 1, 1) := by decide +kernel
theorem dX12_in_2 : decode cX12_in 2 = .ok (.if_icmp .lt 12, 3) := by decide +kernel
theorem dX12_in_5 : decode cX12_in 5 = .ok (.iload_n 0, 1) := by decide +kernel
theorem dX12_in_6 : decode cX12_in 6 = .ok (.iload_n 2, 1) := by decide +kernel
theorem dX12_in_7 : decode cX12_in 7 = .ok (.if_icmp .gt 7, 3) := by decide +kernel
theorem dX12_in_10 : decode cX12_in 10 = .ok (.iconst 1, 1) := by decide +kernel
theorem dX12_in_11 : decode cX12_in 11 = .ok (.goto 4, 3) := by decide +kernel
theorem dX12_in_14 : decode cX12_in 14 = .ok (.iconst 0, 1) := by decide +kernel
theorem dX12_in_15 : decode cX12_in 15 = .ok (.ireturn, 1) := by decide +kernel
theorem dX12_daysIn_0 : decode cX12_daysIn 0 = .ok (.iload_n 1, 1) := by decide +kernel
theorem dX12_daysIn_1 : decode cX12_daysIn 1 = .ok (.iconst 2, 1) := by decide +kernel
theorem dX12_daysIn_2 : decode cX12_daysIn 2 = .ok (.if_icmp .ne 32, 3) := by decide +kernel
theorem dX12_daysIn_5 : decode cX12_daysIn 5 = .ok (.iload_n 0, 1) := by decide +kernel
theorem dX12_daysIn_6 : decode cX12_daysIn 6 = .ok (.iconst 4, 1) := by decide +kernel
theorem dX12_daysIn_7 : decode cX12_daysIn 7 = .ok (.irem, 1) := by decide +kernel
theorem dX12_daysIn_8 : decode cX12_daysIn 8 = .ok (.ifCond .ne 23, 3) := by decide +kernel
theorem dX12_daysIn_11 : decode cX12_daysIn 11 = .ok (.iload_n 0, 1) := by decide +kernel
theorem dX12_daysIn_12 : decode cX12_daysIn 12 = .ok (.bipush 100, 2) := by decide +kernel
theorem dX12_daysIn_14 : decode cX12_daysIn 14 = .ok (.irem, 1) := by decide +kernel
theorem dX12_daysIn_15 : decode cX12_daysIn 15 = .ok (.ifCond .ne 11, 3) := by decide +kernel
theorem dX12_daysIn_18 : decode cX12_daysIn 18 = .ok (.iload_n 0, 1) := by decide +kernel
theorem dX12_daysIn_19 : decode cX12_daysIn 19 = .ok (.sipush 400, 3) := by decide +kernel
theorem dX12_daysIn_22 : decode cX12_daysIn 22 = .ok (.irem, 1) := by decide +kernel
theorem dX12_daysIn_23 : decode cX12_daysIn 23 = .ok (.ifCond .ne 8, 3) := by decide +kernel
theorem dX12_daysIn_26 : decode cX12_daysIn 26 = .ok (.bipush 29, 2) := by decide +kernel
theorem dX12_daysIn_28 : decode cX12_daysIn 28 = .ok (.goto 5, 3) := by decide +kernel
theorem dX12_daysIn_31 : decode cX12_daysIn 31 = .ok (.bipush 28, 2) := by decide +kernel
theorem dX12_daysIn_33 : decode cX12_daysIn 33 = .ok (.ireturn, 1) := by decide +kernel
theorem dX12_daysIn_34 : decode cX12_daysIn 34 = .ok (.iload_n 1, 1) := by decide +kernel
theorem dX12_daysIn_35 : decode cX12_daysIn 35 = .ok (.iconst 4, 1) := by decide +kernel
theorem dX12_daysIn_36 : decode cX12_daysIn 36 = .ok (.if_icmp .eq 21, 3) := by decide +kernel
theorem dX12_daysIn_39 : decode cX12_daysIn 39 = .ok (.iload_n 1, 1) := by decide +kernel
theorem dX12_daysIn_40 : decode cX12_daysIn 40 = .ok (.bipush 6, 2) := by decide +kernel
theorem dX12_daysIn_42 : decode cX12_daysIn 42 = .ok (.if_icmp .eq 15, 3) := by decide +kernel
theorem dX12_daysIn_45 : decode cX12_daysIn 45 = .ok (.iload_n 1, 1) := by decide +kernel
theorem dX12_daysIn_46 : decode cX12_daysIn 46 = .ok (.bipush 9, 2) := by decide +kernel
theorem dX12_daysIn_48 : decode cX12_daysIn 48 = .ok (.if_icmp .eq 9, 3) := by decide +kernel
theorem dX12_daysIn_51 : decode cX12_daysIn 51 = .ok (.iload_n 1, 1) := by decide +kernel
theorem dX12_daysIn_52 : decode cX12_daysIn 52 = .ok (.bipush 11, 2) := by decide +kernel
theorem dX12_daysIn_54 : decode cX12_daysIn 54 = .ok (.if_icmp .ne 8, 3) := by decide +kernel
theorem dX12_daysIn_57 : decode cX12_daysIn 57 = .ok (.bipush 30, 2) := by decide +kernel
theorem dX12_daysIn_59 : decode cX12_daysIn 59 = .ok (.goto 5, 3) := by decide +kernel
theorem dX12_daysIn_62 : decode cX12_daysIn 62 = .ok (.bipush 31, 2) := by decide +kernel
theorem dX12_daysIn_64 : decode cX12_daysIn 64 = .ok (.ireturn, 1) := by decide +kernel
set_option maxRecDepth 20000 in
theorem ggX12_isDate_X12_in : GoodIn wsX12_isDate wsX12_in := goodIn_r _ [6] (by decide +kernel) (by decide +kernel)
set_option maxRecDepth 20000 in
theorem gX12_isDate_X12_in : GoodIn wsX12_isDate (va_wsS RX12 132 yX12_in wsX12_in) := goodIn_app (goodIn_of _ (by decide +kernel)) ggX12_isDate_X12_in
set_option maxRecDepth 20000 in
theorem ggX12_isDate_X12_daysIn : GoodIn wsX12_isDate wsX12_daysIn := goodIn_r _ [9] (by decide +kernel) (by decide +kernel)
set_option maxRecDepth 20000 in
theorem gX12_isDate_X12_daysIn : GoodIn wsX12_isDate (va_wsS RX12 136 yX12_daysIn wsX12_daysIn) := goodIn_app (goodIn_of _ (by decide +kernel)) ggX12_isDate_X12_daysIn
theorem dX12_isDate_0 : decode cX12_isDate 0 = .ok (.iload_n 0, 1) := by decide +kernel
theorem dX12_isDate_1 : decode cX12_isDate 1 = .ok (.sipush 10000, 3) := by decide +kernel
theorem dX12_isDate_4 : decode cX12_isDate 4 = .ok (.idiv, 1) := by decide +kernel
theorem dX12_isDate_5 : decode cX12_isDate 5 = .ok (.istore_n 1, 1) := by decide +kernel
theorem dX12_isDate_6 : decode cX12_isDate 6 = .ok (.iload_n 0, 1) := by decide +kernel
theorem dX12_isDate_7 : decode cX12_isDate 7 = .ok (.bipush 100, 2) := by decide +kernel
theorem dX12_isDate_9 : decode cX12_isDate 9 = .ok (.idiv, 1) := by decide +kernel
theorem dX12_isDate_10 : decode cX12_isDate 10 = .ok (.bipush 100, 2) := by decide +kernel
theorem dX12_isDate_12 : decode cX12_isDate 12 = .ok (.irem, 1) := by decide +kernel
theorem dX12_isDate_13 : decode cX12_isDate 13 = .ok (.istore_n 2, 1) := by decide +kernel
theorem dX12_isDate_14 : decode cX12_isDate 14 = .ok (.iload_n 0, 1) := by decide +kernel
theorem dX12_isDate_15 : decode cX12_isDate 15 = .ok (.ldc 130, 2) := by decide +kernel
theorem dX12_isDate_17 : decode cX12_isDate 17 = .ok (.ldc 131, 2) := by decide +kernel
theorem dX12_isDate_19 : decode cX12_isDate 19 = .ok (.invokestatic 132, 3) := by decide +kernel
theorem dX12_isDate_22 : decode cX12_isDate 22 = .ok (.ifCond .eq 33, 3) := by decide +kernel
theorem dX12_isDate_25 : decode cX12_isDate 25 = .ok (.iload_n 2, 1) := by decide +kernel
theorem dX12_isDate_26 : decode cX12_isDate 26 = .ok (.iconst 1, 1) := by decide +kernel
theorem dX12_isDate_27 : decode cX12_isDate 27 = .ok (.bipush 12, 2) := by decide +kernel
theorem dX12_isDate_29 : decode cX12_isDate 29 = .ok (.invokestatic 132, 3) := by decide +kernel
theorem dX12_isDate_32 : decode cX12_isDate 32 = .ok (.ifCond .eq 23, 3) := by decide +kernel
theorem dX12_isDate_35 : decode cX12_isDate 35 = .ok (.iload_n 0, 1) := by decide +kernel
theorem dX12_isDate_36 : decode cX12_isDate 36 = .ok (.bipush 100, 2) := by decide +kernel
theorem dX12_isDate_38 : decode cX12_isDate 38 = .ok (.irem, 1) := by decide +kernel
theorem dX12_isDate_39 : decode cX12_isDate 39 = .ok (.iconst 1, 1) := by decide +kernel
theorem dX12_isDate_40 : decode cX12_isDate 40 = .ok (.iload_n 1, 1) := by decide +kernel
theorem dX12_isDate_41 : decode cX12_isDate 41 = .ok (.iload_n 2, 1) := by decide +kernel
theorem dX12_isDate_42 : decode cX12_isDate 42 = .ok (.invokestatic 136, 3) := by decide +kernel
theorem dX12_isDate_45 : decode cX12_isDate 45 = .ok (.invokestatic 132, 3) := by decide +kernel
theorem dX12_isDate_48 : decode cX12_isDate 48 = .ok (.ifCond .eq 7, 3) := by decide +kernel
theorem dX12_isDate_51 : decode cX12_isDate 51 = .ok (.iconst 1, 1) := by decide +kernel
theorem dX12_isDate_52 : decode cX12_isDate 52 = .ok (.goto 4, 3) := by decide +kernel
theorem dX12_isDate_55 : decode cX12_isDate 55 = .ok (.iconst 0, 1) := by decide +kernel
theorem dX12_isDate_56 : decode cX12_isDate 56 = .ok (.ireturn, 1) := by decide +kernel
theorem dX12_march_0 : decode cX12_march 0 = .ok (.sipush 365, 3) := by decide +kernel
theorem dX12_march_3 : decode cX12_march 3 = .ok (.iload_n 0, 1) := by decide +kernel
theorem dX12_march_4 : decode cX12_march 4 = .ok (.imul, 1) := by decide +kernel
theorem dX12_march_5 : decode cX12_march 5 = .ok (.iload_n 0, 1) := by decide +kernel
theorem dX12_march_6 : decode cX12_march 6 = .ok (.iconst 4, 1) := by decide +kernel
theorem dX12_march_7 : decode cX12_march 7 = .ok (.idiv, 1) := by decide +kernel
theorem dX12_march_8 : decode cX12_march 8 = .ok (.iadd, 1) := by decide +kernel
theorem dX12_march_9 : decode cX12_march 9 = .ok (.iload_n 0, 1) := by decide +kernel
theorem dX12_march_10 : decode cX12_march 10 = .ok (.bipush 100, 2) := by decide +kernel
theorem dX12_march_12 : decode cX12_march 12 = .ok (.idiv, 1) := by decide +kernel
theorem dX12_march_13 : decode cX12_march 13 = .ok (.isub, 1) := by decide +kernel
theorem dX12_march_14 : decode cX12_march 14 = .ok (.iload_n 0, 1) := by decide +kernel
theorem dX12_march_15 : decode cX12_march 15 = .ok (.sipush 400, 3) := by decide +kernel
theorem dX12_march_18 : decode cX12_march 18 = .ok (.idiv, 1) := by decide +kernel
theorem dX12_march_19 : decode cX12_march 19 = .ok (.iadd, 1) := by decide +kernel
theorem dX12_march_20 : decode cX12_march 20 = .ok (.ireturn, 1) := by decide +kernel
set_option maxRecDepth 20000 in
theorem ggX12_dayOf_X12_march : GoodIn wsX12_dayOf wsX12_march := goodIn_r _ [4] (by decide +kernel) (by decide +kernel)
set_option maxRecDepth 20000 in
theorem gX12_dayOf_X12_march : GoodIn wsX12_dayOf (va_wsS RX12 140 yX12_march wsX12_march) := goodIn_app (goodIn_of _ (by decide +kernel)) ggX12_dayOf_X12_march
theorem dX12_dayOf_0 : decode cX12_dayOf 0 = .ok (.iload_n 0, 1) := by decide +kernel
theorem dX12_dayOf_1 : decode cX12_dayOf 1 = .ok (.bipush 100, 2) := by decide +kernel
theorem dX12_dayOf_3 : decode cX12_dayOf 3 = .ok (.idiv, 1) := by decide +kernel
theorem dX12_dayOf_4 : decode cX12_dayOf 4 = .ok (.bipush 100, 2) := by decide +kernel
theorem dX12_dayOf_6 : decode cX12_dayOf 6 = .ok (.irem, 1) := by decide +kernel
theorem dX12_dayOf_7 : decode cX12_dayOf 7 = .ok (.istore_n 1, 1) := by decide +kernel
theorem dX12_dayOf_8 : decode cX12_dayOf 8 = .ok (.iload_n 1, 1) := by decide +kernel
theorem dX12_dayOf_9 : decode cX12_dayOf 9 = .ok (.iconst 3, 1) := by decide +kernel
theorem dX12_dayOf_10 : decode cX12_dayOf 10 = .ok (.if_icmp .ge 13, 3) := by decide +kernel
