theorem dX3_numberOf_108 : decode cX3_numberOf 108 = .ok (.isub, 1) := by decide +kernel
theorem dX3_numberOf_109 : decode cX3_numberOf 109 = .ok (.istore 8, 2) := by decide +kernel
theorem dX3_numberOf_111 : decode cX3_numberOf 111 = .ok (.iload_n 2, 1) := by decide +kernel
theorem dX3_numberOf_112 : decode cX3_numberOf 112 = .ok (.sipush 400, 3) := by decide +kernel
theorem dX3_numberOf_115 : decode cX3_numberOf 115 = .ok (.imul, 1) := by decide +kernel
theorem dX3_numberOf_116 : decode cX3_numberOf 116 = .ok (.iload 4, 2) := by decide +kernel
theorem dX3_numberOf_118 : decode cX3_numberOf 118 = .ok (.iadd, 1) := by decide +kernel
theorem dX3_numberOf_119 : decode cX3_numberOf 119 = .ok (.iload 8, 2) := by decide +kernel
theorem dX3_numberOf_121 : decode cX3_numberOf 121 = .ok (.iconst 2, 1) := by decide +kernel
theorem dX3_numberOf_122 : decode cX3_numberOf 122 = .ok (.if_icmp .gt 7, 3) := by decide +kernel
theorem dX3_numberOf_125 : decode cX3_numberOf 125 = .ok (.iconst 1, 1) := by decide +kernel
theorem dX3_numberOf_126 : decode cX3_numberOf 126 = .ok (.goto 4, 3) := by decide +kernel
theorem dX3_numberOf_129 : decode cX3_numberOf 129 = .ok (.iconst 0, 1) := by decide +kernel
theorem dX3_numberOf_130 : decode cX3_numberOf 130 = .ok (.iadd, 1) := by decide +kernel
theorem dX3_numberOf_131 : decode cX3_numberOf 131 = .ok (.istore 9, 2) := by decide +kernel
theorem dX3_numberOf_133 : decode cX3_numberOf 133 = .ok (.iload 9, 2) := by decide +kernel
theorem dX3_numberOf_135 : decode cX3_numberOf 135 = .ok (.sipush 10000, 3) := by decide +kernel
theorem dX3_numberOf_138 : decode cX3_numberOf 138 = .ok (.imul, 1) := by decide +kernel
theorem dX3_numberOf_139 : decode cX3_numberOf 139 = .ok (.iload 8, 2) := by decide +kernel
theorem dX3_numberOf_141 : decode cX3_numberOf 141 = .ok (.bipush 100, 2) := by decide +kernel
theorem dX3_numberOf_143 : decode cX3_numberOf 143 = .ok (.imul, 1) := by decide +kernel
theorem dX3_numberOf_144 : decode cX3_numberOf 144 = .ok (.iadd, 1) := by decide +kernel
theorem dX3_numberOf_145 : decode cX3_numberOf 145 = .ok (.iload 7, 2) := by decide +kernel
theorem dX3_numberOf_147 : decode cX3_numberOf 147 = .ok (.iadd, 1) := by decide +kernel
theorem dX3_numberOf_148 : decode cX3_numberOf 148 = .ok (.ireturn, 1) := by decide +kernel
set_option maxRecDepth 20000 in
theorem ggX3_weekdayOf_J9_floorMod_7cf53 : GoodIn wsX3_weekdayOf wsJ9_floorMod_7cf53 := goodIn_r _ [4] (by decide +kernel) (by decide +kernel)
set_option maxRecDepth 20000 in
theorem gX3_weekdayOf_J9_floorMod_7cf53 : GoodIn wsX3_weekdayOf (va_wsS RX3 19 yJ9_floorMod_7cf53 wsJ9_floorMod_7cf53) := goodIn_app (goodIn_of _ (by decide +kernel)) ggX3_weekdayOf_J9_floorMod_7cf53
theorem dX3_weekdayOf_0 : decode cX3_weekdayOf 0 = .ok (.iload_n 0, 1) := by decide +kernel
theorem dX3_weekdayOf_1 : decode cX3_weekdayOf 1 = .ok (.iconst 1, 1) := by decide +kernel
theorem dX3_weekdayOf_2 : decode cX3_weekdayOf 2 = .ok (.iadd, 1) := by decide +kernel
theorem dX3_weekdayOf_3 : decode cX3_weekdayOf 3 = .ok (.bipush 7, 2) := by decide +kernel
theorem dX3_weekdayOf_5 : decode cX3_weekdayOf 5 = .ok (.invokestatic 19, 3) := by decide +kernel
theorem dX3_weekdayOf_8 : decode cX3_weekdayOf 8 = .ok (.ireturn, 1) := by decide +kernel
set_option maxRecDepth 20000 in
theorem ggX3_monthsFrom_X3_lengthOfMonth : GoodIn wsX3_monthsFrom wsX3_lengthOfMonth := goodIn_r _ [4] (by decide +kernel) (by decide +kernel)
set_option maxRecDepth 20000 in
theorem gX3_monthsFrom_X3_lengthOfMonth : GoodIn wsX3_monthsFrom (va_wsS RX3 11 yX3_lengthOfMonth wsX3_lengthOfMonth) := goodIn_app (goodIn_of _ (by decide +kernel)) ggX3_monthsFrom_X3_lengthOfMonth
theorem dX3_monthsFrom_0 : decode cX3_monthsFrom 0 = .ok (.iload_n 0, 1) := by decide +kernel
theorem dX3_monthsFrom_1 : decode cX3_monthsFrom 1 = .ok (.sipush 10000, 3) := by decide +kernel
theorem dX3_monthsFrom_4 : decode cX3_monthsFrom 4 = .ok (.idiv, 1) := by decide +kernel
theorem dX3_monthsFrom_5 : decode cX3_monthsFrom 5 = .ok (.istore_n 3, 1) := by decide +kernel
theorem dX3_monthsFrom_6 : decode cX3_monthsFrom 6 = .ok (.iload_n 0, 1) := by decide +kernel
theorem dX3_monthsFrom_7 : decode cX3_monthsFrom 7 = .ok (.bipush 100, 2) := by decide +kernel
theorem dX3_monthsFrom_9 : decode cX3_monthsFrom 9 = .ok (.idiv, 1) := by decide +kernel
theorem dX3_monthsFrom_10 : decode cX3_monthsFrom 10 = .ok (.bipush 100, 2) := by decide +kernel
theorem dX3_monthsFrom_12 : decode cX3_monthsFrom 12 = .ok (.irem, 1) := by decide +kernel
theorem dX3_monthsFrom_13 : decode cX3_monthsFrom 13 = .ok (.istore 4, 2) := by decide +kernel
theorem dX3_monthsFrom_15 : decode cX3_monthsFrom 15 = .ok (.iload_n 0, 1) := by decide +kernel
theorem dX3_monthsFrom_16 : decode cX3_monthsFrom 16 = .ok (.bipush 100, 2) := by decide +kernel
theorem dX3_monthsFrom_18 : decode cX3_monthsFrom 18 = .ok (.irem, 1) := by decide +kernel
theorem dX3_monthsFrom_19 : decode cX3_monthsFrom 19 = .ok (.istore 5, 2) := by decide +kernel
theorem dX3_monthsFrom_21 : decode cX3_monthsFrom 21 = .ok (.iload_n 3, 1) := by decide +kernel
theorem dX3_monthsFrom_22 : decode cX3_monthsFrom 22 = .ok (.bipush 12, 2) := by decide +kernel
theorem dX3_monthsFrom_24 : decode cX3_monthsFrom 24 = .ok (.imul, 1) := by decide +kernel
theorem dX3_monthsFrom_25 : decode cX3_monthsFrom 25 = .ok (.iload 4, 2) := by decide +kernel
theorem dX3_monthsFrom_27 : decode cX3_monthsFrom 27 = .ok (.iadd, 1) := by decide +kernel
theorem dX3_monthsFrom_28 : decode cX3_monthsFrom 28 = .ok (.iconst 1, 1) := by decide +kernel
theorem dX3_monthsFrom_29 : decode cX3_monthsFrom 29 = .ok (.isub, 1) := by decide +kernel
theorem dX3_monthsFrom_30 : decode cX3_monthsFrom 30 = .ok (.iload_n 1, 1) := by decide +kernel
theorem dX3_monthsFrom_31 : decode cX3_monthsFrom 31 = .ok (.iadd, 1) := by decide +kernel
theorem dX3_monthsFrom_32 : decode cX3_monthsFrom 32 = .ok (.istore 6, 2) := by decide +kernel
theorem dX3_monthsFrom_34 : decode cX3_monthsFrom 34 = .ok (.iload 6, 2) := by decide +kernel
theorem dX3_monthsFrom_36 : decode cX3_monthsFrom 36 = .ok (.bipush 12, 2) := by decide +kernel
theorem dX3_monthsFrom_38 : decode cX3_monthsFrom 38 = .ok (.idiv, 1) := by decide +kernel
theorem dX3_monthsFrom_39 : decode cX3_monthsFrom 39 = .ok (.istore 7, 2) := by decide +kernel
theorem dX3_monthsFrom_41 : decode cX3_monthsFrom 41 = .ok (.iload 6, 2) := by decide +kernel
theorem dX3_monthsFrom_43 : decode cX3_monthsFrom 43 = .ok (.bipush 12, 2) := by decide +kernel
theorem dX3_monthsFrom_45 : decode cX3_monthsFrom 45 = .ok (.irem, 1) := by decide +kernel
theorem dX3_monthsFrom_46 : decode cX3_monthsFrom 46 = .ok (.iconst 1, 1) := by decide +kernel
theorem dX3_monthsFrom_47 : decode cX3_monthsFrom 47 = .ok (.iadd, 1) := by decide +kernel
theorem dX3_monthsFrom_48 : decode cX3_monthsFrom 48 = .ok (.istore 8, 2) := by decide +kernel
theorem dX3_monthsFrom_50 : decode cX3_monthsFrom 50 = .ok (.iload 7, 2) := by decide +kernel
theorem dX3_monthsFrom_52 : decode cX3_monthsFrom 52 = .ok (.iload 8, 2) := by decide +kernel
theorem dX3_monthsFrom_54 : decode cX3_monthsFrom 54 = .ok (.invokestatic 11, 3) := by decide +kernel
theorem dX3_monthsFrom_57 : decode cX3_monthsFrom 57 = .ok (.istore 9, 2) := by decide +kernel
theorem dX3_monthsFrom_59 : decode cX3_monthsFrom 59 = .ok (.iload 5, 2) := by decide +kernel
theorem dX3_monthsFrom_61 : decode cX3_monthsFrom 61 = .ok (.iload 9, 2) := by decide +kernel
theorem dX3_monthsFrom_63 : decode cX3_monthsFrom 63 = .ok (.if_icmp .gt 18, 3) := by decide +kernel
theorem dX3_monthsFrom_66 : decode cX3_monthsFrom 66 = .ok (.iload_n 2, 1) := by decide +kernel
theorem dX3_monthsFrom_67 : decode cX3_monthsFrom 67 = .ok (.ifCond .eq 18, 3) := by decide +kernel
theorem dX3_monthsFrom_70 : decode cX3_monthsFrom 70 = .ok (.iload 5, 2) := by decide +kernel
theorem dX3_monthsFrom_72 : decode cX3_monthsFrom 72 = .ok (.iload_n 3, 1) := by decide +kernel
theorem dX3_monthsFrom_73 : decode cX3_monthsFrom 73 = .ok (.iload 4, 2) := by decide +kernel
theorem dX3_monthsFrom_75 : decode cX3_monthsFrom 75 = .ok (.invokestatic 11, 3) := by decide +kernel
theorem dX3_monthsFrom_78 : decode cX3_monthsFrom 78 = .ok (.if_icmp .ne 7, 3) := by decide +kernel
theorem dX3_monthsFrom_81 : decode cX3_monthsFrom 81 = .ok (.iconst 1, 1) := by decide +kernel
theorem dX3_monthsFrom_82 : decode cX3_monthsFrom 82 = .ok (.goto 4, 3) := by decide +kernel
theorem dX3_monthsFrom_85 : decode cX3_monthsFrom 85 = .ok (.iconst 0, 1) := by decide +kernel
theorem dX3_monthsFrom_86 : decode cX3_monthsFrom 86 = .ok (.istore 10, 2) := by decide +kernel
theorem dX3_monthsFrom_88 : decode cX3_monthsFrom 88 = .ok (.iload 7, 2) := by decide +kernel
theorem dX3_monthsFrom_90 : decode cX3_monthsFrom 90 = .ok (.sipush 10000, 3) := by decide +kernel
theorem dX3_monthsFrom_93 : decode cX3_monthsFrom 93 = .ok (.imul, 1) := by decide +kernel
theorem dX3_monthsFrom_94 : decode cX3_monthsFrom 94 = .ok (.iload 8, 2) := by decide +kernel
theorem dX3_monthsFrom_96 : decode cX3_monthsFrom 96 = .ok (.bipush 100, 2) := by decide +kernel
theorem dX3_monthsFrom_98 : decode cX3_monthsFrom 98 = .ok (.imul, 1) := by decide +kernel
theorem dX3_monthsFrom_99 : decode cX3_monthsFrom 99 = .ok (.iadd, 1) := by decide +kernel
theorem dX3_monthsFrom_100 : decode cX3_monthsFrom 100 = .ok (.iload 10, 2) := by decide +kernel
theorem dX3_monthsFrom_102 : decode cX3_monthsFrom 102 = .ok (.ifCond .eq 8, 3) := by decide +kernel
theorem dX3_monthsFrom_105 : decode cX3_monthsFrom 105 = .ok (.iload 9, 2) := by decide +kernel
theorem dX3_monthsFrom_107 : decode cX3_monthsFrom 107 = .ok (.goto 5, 3) := by decide +kernel
theorem dX3_monthsFrom_110 : decode cX3_monthsFrom 110 = .ok (.iload 5, 2) := by decide +kernel
theorem dX3_monthsFrom_112 : decode cX3_monthsFrom 112 = .ok (.iadd, 1) := by decide +kernel
theorem dX3_monthsFrom_113 : decode cX3_monthsFrom 113 = .ok (.ireturn, 1) := by decide +kernel
theorem dX6_thirtyDays_0 : decode cX6_thirtyDays 0 = .ok (.iload_n 1, 1) := by decide +kernel
theorem dX6_thirtyDays_1 : decode cX6_thirtyDays 1 = .ok (.bipush 100, 2) := by decide +kernel
theorem dX6_thirtyDays_3 : decode cX6_thirtyDays 3 = .ok (.irem, 1) := by decide +kernel
theorem dX6_thirtyDays_4 : decode cX6_thirtyDays 4 = .ok (.bipush 30, 2) := by decide +kernel
theorem dX6_thirtyDays_6 : decode cX6_thirtyDays 6 = .ok (.invokestatic 40, 3) := by decide +kernel
theorem dX6_thirtyDays_9 : decode cX6_thirtyDays 9 = .ok (.istore_n 3, 1) := by decide +kernel
theorem dX6_thirtyDays_10 : decode cX6_thirtyDays 10 = .ok (.iload_n 2, 1) := by decide +kernel
theorem dX6_thirtyDays_11 : decode cX6_thirtyDays 11 = .ok (.bipush 100, 2) := by decide +kernel
theorem dX6_thirtyDays_13 : decode cX6_thirtyDays 13 = .ok (.irem, 1) := by decide +kernel
theorem dX6_thirtyDays_14 : decode cX6_thirtyDays 14 = .ok (.istore 4, 2) := by decide +kernel
theorem dX6_thirtyDays_16 : decode cX6_thirtyDays 16 = .ok (.iload 4, 2) := by decide +kernel
theorem dX6_thirtyDays_18 : decode cX6_thirtyDays 18 = .ok (.bipush 31, 2) := by decide +kernel
theorem dX6_thirtyDays_20 : decode cX6_thirtyDays 20 = .ok (.if_icmp .ne 18, 3) := by decide +kernel
theorem dX6_thirtyDays_23 : decode cX6_thirtyDays 23 = .ok (.iload_n 0, 1) := by decide +kernel
theorem dX6_thirtyDays_24 : decode cX6_thirtyDays 24 = .ok (.iconst 1, 1) := by decide +kernel
theorem dX6_thirtyDays_25 : decode cX6_thirtyDays 25 = .ok (.if_icmp .eq 9, 3) := by decide +kernel
theorem dX6_thirtyDays_28 : decode cX6_thirtyDays 28 = .ok (.iload_n 3, 1) := by decide +kernel
theorem dX6_thirtyDays_29 : decode cX6_thirtyDays 29 = .ok (.bipush 30, 2) := by decide +kernel
theorem dX6_thirtyDays_31 : decode cX6_thirtyDays 31 = .ok (.if_icmp .ne 7, 3) := by decide +kernel
theorem dX6_thirtyDays_34 : decode cX6_thirtyDays 34 = .ok (.bipush 30, 2) := by decide +kernel
theorem dX6_thirtyDays_36 : decode cX6_thirtyDays 36 = .ok (.istore 4, 2) := by decide +kernel
theorem dX6_thirtyDays_38 : decode cX6_thirtyDays 38 = .ok (.iload_n 2, 1) := by decide +kernel
theorem dX6_thirtyDays_39 : decode cX6_thirtyDays 39 = .ok (.sipush 10000, 3) := by decide +kernel
theorem dX6_thirtyDays_42 : decode cX6_thirtyDays 42 = .ok (.idiv, 1) := by decide +kernel
theorem dX6_thirtyDays_43 : decode cX6_thirtyDays 43 = .ok (.iload_n 1, 1) := by decide +kernel
theorem dX6_thirtyDays_44 : decode cX6_thirtyDays 44 = .ok (.sipush 10000, 3) := by decide +kernel
theorem dX6_thirtyDays_47 : decode cX6_thirtyDays 47 = .ok (.idiv, 1) := by decide +kernel
theorem dX6_thirtyDays_48 : decode cX6_thirtyDays 48 = .ok (.isub, 1) := by decide +kernel
theorem dX6_thirtyDays_49 : decode cX6_thirtyDays 49 = .ok (.istore 5, 2) := by decide +kernel
theorem dX6_thirtyDays_51 : decode cX6_thirtyDays 51 = .ok (.iload_n 2, 1) := by decide +kernel
theorem dX6_thirtyDays_52 : decode cX6_thirtyDays 52 = .ok (.bipush 100, 2) := by decide +kernel
theorem dX6_thirtyDays_54 : decode cX6_thirtyDays 54 = .ok (.idiv, 1) := by decide +kernel
theorem dX6_thirtyDays_55 : decode cX6_thirtyDays 55 = .ok (.bipush 100, 2) := by decide +kernel
theorem dX6_thirtyDays_57 : decode cX6_thirtyDays 57 = .ok (.irem, 1) := by decide +kernel
theorem dX6_thirtyDays_58 : decode cX6_thirtyDays 58 = .ok (.iload_n 1, 1) := by decide +kernel
theorem dX6_thirtyDays_59 : decode cX6_thirtyDays 59 = .ok (.bipush 100, 2) := by decide +kernel
theorem dX6_thirtyDays_61 : decode cX6_thirtyDays 61 = .ok (.idiv, 1) := by decide +kernel
theorem dX6_thirtyDays_62 : decode cX6_thirtyDays 62 = .ok (.bipush 100, 2) := by decide +kernel
theorem dX6_thirtyDays_64 : decode cX6_thirtyDays 64 = .ok (.irem, 1) := by decide +kernel
theorem dX6_thirtyDays_65 : decode cX6_thirtyDays 65 = .ok (.isub, 1) := by decide +kernel
theorem dX6_thirtyDays_66 : decode cX6_thirtyDays 66 = .ok (.istore 6, 2) := by decide +kernel
theorem dX6_thirtyDays_68 : decode cX6_thirtyDays 68 = .ok (.sipush 360, 3) := by decide +kernel
theorem dX6_thirtyDays_71 : decode cX6_thirtyDays 71 = .ok (.iload 5, 2) := by decide +kernel
theorem dX6_thirtyDays_73 : decode cX6_thirtyDays 73 = .ok (.imul, 1) := by decide +kernel
theorem dX6_thirtyDays_74 : decode cX6_thirtyDays 74 = .ok (.bipush 30, 2) := by decide +kernel
theorem dX6_thirtyDays_76 : decode cX6_thirtyDays 76 = .ok (.iload 6, 2) := by decide +kernel
theorem dX6_thirtyDays_78 : decode cX6_thirtyDays 78 = .ok (.imul, 1) := by decide +kernel
theorem dX6_thirtyDays_79 : decode cX6_thirtyDays 79 = .ok (.iadd, 1) := by decide +kernel
theorem dX6_thirtyDays_80 : decode cX6_thirtyDays 80 = .ok (.iload 4, 2) := by decide +kernel
theorem dX6_thirtyDays_82 : decode cX6_thirtyDays 82 = .ok (.iadd, 1) := by decide +kernel
theorem dX6_thirtyDays_83 : decode cX6_thirtyDays 83 = .ok (.iload_n 3, 1) := by decide +kernel
theorem dX6_thirtyDays_84 : decode cX6_thirtyDays 84 = .ok (.isub, 1) := by decide +kernel
theorem dX6_thirtyDays_85 : decode cX6_thirtyDays 85 = .ok (.ireturn, 1) := by decide +kernel
theorem dX6_commonDivisor_0 : decode cX6_commonDivisor 0 = .ok (.lload_n 0, 1) := by decide +kernel
theorem dX6_commonDivisor_1 : decode cX6_commonDivisor 1 = .ok (.lstore 4, 2) := by decide +kernel
theorem dX6_commonDivisor_3 : decode cX6_commonDivisor 3 = .ok (.lload_n 2, 1) := by decide +kernel
theorem dX6_commonDivisor_4 : decode cX6_commonDivisor 4 = .ok (.lstore 6, 2) := by decide +kernel
theorem dX6_commonDivisor_6 : decode cX6_commonDivisor 6 = .ok (.iconst 0, 1) := by decide +kernel
theorem dX6_commonDivisor_7 : decode cX6_commonDivisor 7 = .ok (.istore 8, 2) := by decide +kernel
theorem dX6_commonDivisor_9 : decode cX6_commonDivisor 9 = .ok (.iload 8, 2) := by decide +kernel
theorem dX6_commonDivisor_11 : decode cX6_commonDivisor 11 = .ok (.sipush 200, 3) := by decide +kernel
theorem dX6_commonDivisor_14 : decode cX6_commonDivisor 14 = .ok (.if_icmp .ge 31, 3) := by decide +kernel
theorem dX6_commonDivisor_17 : decode cX6_commonDivisor 17 = .ok (.lload 6, 2) := by decide +kernel
theorem dX6_commonDivisor_19 : decode cX6_commonDivisor 19 = .ok (.lconst 0, 1) := by decide +kernel
theorem dX6_commonDivisor_20 : decode cX6_commonDivisor 20 = .ok (.lcmp, 1) := by decide +kernel
theorem dX6_commonDivisor_21 : decode cX6_commonDivisor 21 = .ok (.ifCond .eq 24, 3) := by decide +kernel
theorem dX6_commonDivisor_24 : decode cX6_commonDivisor 24 = .ok (.lload 4, 2) := by decide +kernel
theorem dX6_commonDivisor_26 : decode cX6_commonDivisor 26 = .ok (.lload 6, 2) := by decide +kernel
theorem dX6_commonDivisor_28 : decode cX6_commonDivisor 28 = .ok (.lrem, 1) := by decide +kernel
theorem dX6_commonDivisor_29 : decode cX6_commonDivisor 29 = .ok (.lstore 9, 2) := by decide +kernel
theorem dX6_commonDivisor_31 : decode cX6_commonDivisor 31 = .ok (.lload 6, 2) := by decide +kernel
theorem dX6_commonDivisor_33 : decode cX6_commonDivisor 33 = .ok (.lstore 4, 2) := by decide +kernel
theorem dX6_commonDivisor_35 : decode cX6_commonDivisor 35 = .ok (.lload 9, 2) := by decide +kernel
theorem dX6_commonDivisor_37 : decode cX6_commonDivisor 37 = .ok (.lstore 6, 2) := by decide +kernel
theorem dX6_commonDivisor_39 : decode cX6_commonDivisor 39 = .ok (.iinc 8 1, 3) := by decide +kernel
theorem dX6_commonDivisor_42 : decode cX6_commonDivisor 42 = .ok (.goto (-33), 3) := by decide +kernel
theorem dX6_commonDivisor_45 : decode cX6_commonDivisor 45 = .ok (.lload 4, 2) := by decide +kernel
theorem dX6_commonDivisor_47 : decode cX6_commonDivisor 47 = .ok (.lreturn, 1) := by decide +kernel
set_option maxRecDepth 20000 in
theorem ggX11_holiday_X3_numberOf : GoodIn wsX11_holiday wsX3_numberOf := goodIn_r _ [10, 11, 12, 13, 14] (by decide +kernel) (by decide +kernel)
set_option maxRecDepth 20000 in
theorem gX11_holiday_X3_numberOf : GoodIn wsX11_holiday (va_wsS RX11 159 yX3_numberOf wsX3_numberOf) := goodIn_app (goodIn_of _ (by decide +kernel)) ggX11_holiday_X3_numberOf
theorem dX11_holiday_0 : decode cX11_holiday 0 = .ok (.iload_n 1, 1) := by decide +kernel
theorem dX11_holiday_1 : decode cX11_holiday 1 = .ok (.ifCond .lt 32, 3) := by decide +kernel
theorem dX11_holiday_4 : decode cX11_holiday 4 = .ok (.iload_n 1, 1) := by decide +kernel
theorem dX11_holiday_5 : decode cX11_holiday 5 = .ok (.aload_n 0, 1) := by decide +kernel
theorem dX11_holiday_6 : decode cX11_holiday 6 = .ok (.getfield 60, 3) := by decide +kernel
theorem dX11_holiday_9 : decode cX11_holiday 9 = .ok (.getfield 146, 3) := by decide +kernel
theorem dX11_holiday_12 : decode cX11_holiday 12 = .ok (.getfield 378, 3) := by decide +kernel
theorem dX11_holiday_15 : decode cX11_holiday 15 = .ok (.if_icmp .ge 18, 3) := by decide +kernel
theorem dX11_holiday_18 : decode cX11_holiday 18 = .ok (.iload_n 1, 1) := by decide +kernel
theorem dX11_holiday_19 : decode cX11_holiday 19 = .ok (.aload_n 0, 1) := by decide +kernel
theorem dX11_holiday_20 : decode cX11_holiday 20 = .ok (.getfield 60, 3) := by decide +kernel
theorem dX11_holiday_23 : decode cX11_holiday 23 = .ok (.getfield 146, 3) := by decide +kernel
theorem dX11_holiday_26 : decode cX11_holiday 26 = .ok (.getfield 381, 3) := by decide +kernel
theorem dX11_holiday_29 : decode cX11_holiday 29 = .ok (.arraylength, 1) := by decide +kernel
theorem dX11_holiday_30 : decode cX11_holiday 30 = .ok (.if_icmp .lt 14, 3) := by decide +kernel
theorem dX11_holiday_33 : decode cX11_holiday 33 = .ok (.new 384, 3) := by decide +kernel
theorem dX11_holiday_36 : decode cX11_holiday 36 = .ok (.dup, 1) := by decide +kernel
theorem dX11_holiday_37 : decode cX11_holiday 37 = .ok (.ldc_w 386, 3) := by decide +kernel
theorem dX11_holiday_40 : decode cX11_holiday 40 = .ok (.invokespecial 388, 3) := by decide +kernel
theorem dX11_holiday_43 : decode cX11_holiday 43 = .ok (.athrow, 1) := by decide +kernel
theorem dX11_holiday_44 : decode cX11_holiday 44 = .ok (.aload_n 0, 1) := by decide +kernel
theorem dX11_holiday_45 : decode cX11_holiday 45 = .ok (.getfield 60, 3) := by decide +kernel
theorem dX11_holiday_48 : decode cX11_holiday 48 = .ok (.getfield 146, 3) := by decide +kernel
theorem dX11_holiday_51 : decode cX11_holiday 51 = .ok (.getfield 381, 3) := by decide +kernel
theorem dX11_holiday_54 : decode cX11_holiday 54 = .ok (.iload_n 1, 1) := by decide +kernel
theorem dX11_holiday_55 : decode cX11_holiday 55 = .ok (.iaload, 1) := by decide +kernel
theorem dX11_holiday_56 : decode cX11_holiday 56 = .ok (.invokestatic 159, 3) := by decide +kernel
theorem dX11_holiday_59 : decode cX11_holiday 59 = .ok (.ireturn, 1) := by decide +kernel
theorem dX12_in_0 : decode cX12_in 0 = .ok (.iload_n 0, 1) := by decide +kernel
theorem dX12_in_1 : decode cX12_in 1 = .ok (.iload_n 1, 1) := by decide +kernel
theorem dX12_in_2 : decode cX12_in 2 = .ok (.if_icmp .lt 12, 3) := by decide +kernel
theorem dX12_in_5 : decode cX12_in 5 = .ok (.iload_n 0, 1) := by decide +kernel
theorem dX12_in_6 : decode cX12_in 6 = .ok (.iload_n 2, 1) := by decide +kernel
