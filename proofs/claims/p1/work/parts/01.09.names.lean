theorem dX3_numberOf_108 : decode cX3_numberOf 108 = .ok (.isub, 1) := by decide +kernel
theorem dX3_numberOf_109 : decode cX3_numberOf 109 = .ok (.istore 8, 2) := by decide +kernel
theorem dX3_numberOf_111 : decode cX3_numberOf 111 = .ok (.iload_n 2, 1) := by decide +kernel
theorem dX3_numberOf_112 : decode cX3_numberOf 112 = .ok (.sipush 400, 3) := by decide +kernel
theorem dX3_numberOf_115 : decode cX3_numberOf 115 = .ok (.imul, 1) := by decide +kernel
theorem dX3_numberOf_116 : decode cX3_numberOf 116 = .ok (.iload 4, 2) := by decide +kernel
theorem dX3_numberOf_118 : decode cX3_numberOf 118 = .ok (.iadd, 1) := by decide +kernel
theorem dX3_numberOf_119 : decode cX3_numberOf 119 = .ok (.iload 8, 2) := by decide +kernel
theorem dX3_numberOf_121 : decode cX3_numberOf 121 = .ok (.iconst 2, 1) := by decide +kernel
theorem dX3_numberOf_122 : decode cX3_numberOf 122 = .ok (.if_icmp .gt 7, 3) := by decide +kernel
theorem dX3_numberOf_125 : decode cX3_numberOf 125 = .ok (.iconst 1, 1) := by decide +kernel
theorem dX3_numberOf_126 : decode cX3_numberOf 126 = .ok (.goto 4, 3) := by decide +kernel
theorem dX3_numberOf_129 : decode cX3_numberOf 129 = .ok (.iconst 0, 1) := by decide +kernel
theorem dX3_numberOf_130 : decode cX3_numberOf 130 = .ok (.iadd, 1) := by decide +kernel
theorem dX3_numberOf_131 : decode cX3_numberOf 131 = .ok (.istore 9, 2) := by decide +kernel
theorem dX3_numberOf_133 : decode cX3_numberOf 133 = .ok (.iload 9, 2) := by decide +kernel
theorem dX3_numberOf_135 : decode cX3_numberOf 135 = .ok (.sipush 10000, 3) := by decide +kernel
theorem dX3_numberOf_138 : decode cX3_numberOf 138 = .ok (.imul, 1) := by decide +kernel
theorem dX3_numberOf_139 : decode cX3_numberOf 139 = .ok (.iload 8, 2) := by decide +kernel
theorem dX3_numberOf_141 : decode cX3_numberOf 141 = .ok (.bipush 100, 2) := by decide +kernel
theorem dX3_numberOf_143 : decode cX3_numberOf 143 = .ok (.imul, 1) := by decide +kernel
theorem dX3_numberOf_144 : decode cX3_numberOf 144 = .ok (.iadd, 1) := by decide +kernel
theorem dX3_numberOf_145 : decode cX3_numberOf 145 = .ok (.iload 7, 2) := by decide +kernel
theorem dX3_numberOf_147 : decode cX3_numberOf 147 = .ok (.iadd, 1) := by decide +kernel
theorem dX3_numberOf_148 : decode cX3_numberOf 148 = .ok (.ireturn, 1) := by decide +kernel
set_option maxRecDepth 20000 in
theorem ggX3_weekdayOf_J9_floorMod_7cf53 : GoodIn wsX3_weekdayOf wsJ9_floorMod_7cf53 := goodIn_r _ [4] (by decide +kernel) (by decide +kernel)
set_option maxRecDepth 20000 in
theorem gX3_weekdayOf_J9_floorMod_7cf53 : GoodIn wsX3_weekdayOf (va_wsS RX3 19 yJ9_floorMod_7cf53 wsJ9_floorMod_7cf53) := goodIn_app (goodIn_of _ (by decide +kernel)) ggX3_weekdayOf_J9_floorMod_7cf53
theorem dX3_weekdayOf_0 : decode cX3_weekdayOf 0 = .ok (.iload_n 0, 1) := by decide +kernel
theorem dX3_weekdayOf_1 : decode cX3_weekdayOf 1 = .ok (.iconst 1, 1) := by decide +kernel
theorem dX3_weekdayOf_2 : decode cX3_weekdayOf 2 = .ok (.iadd, 1) := by decide +kernel
theorem dX3_weekdayOf_3 : decode cX3_weekdayOf 3 = .ok (.bipush 7, 2) := by decide +kernel
theorem dX3_weekdayOf_5 : decode cX3_weekdayOf 5 = .ok (.invokestatic 19, 3) := by decide +kernel
theorem dX3_weekdayOf_8 : decode cX3_weekdayOf 8 = .ok (.ireturn, 1) := by decide +kernel
set_option maxRecDepth 20000 in
theorem ggX3_monthsFrom_X3_lengthOfMonth : GoodIn wsX3_monthsFrom wsX3_lengthOfMonth := goodIn_r _ [4] (by decide +kernel) (by decide +kernel)
set_option maxRecDepth 20000 in
theorem gX3_monthsFrom_X3_lengthOfMonth : GoodIn wsX3_monthsFrom (va_wsS RX3 11 yX3_lengthOfMonth wsX3_lengthOfMonth) := goodIn_app (goodIn_of _ (by decide +kernel)) ggX3_monthsFrom_X3_lengthOfMonth
theorem dX3_monthsFrom_0 : decode cX3_monthsFrom 0 = .ok (.iload_n 0, 1) := by decide +kernel
theorem dX3_monthsFrom_1 : decode cX3_monthsFrom 1 = .ok (.sipush 10000, 3) := by decide +kernel
theorem dX3_monthsFrom_4 : decode cX3_monthsFrom 4 = .ok (.idiv, 1) := by decide +kernel
theorem dX3_monthsFrom_5 : decode cX3_monthsFrom 5 = .ok (.istore_n 3, 1) := by decide +kernel
theorem dX3_monthsFrom_6 : decode cX3_monthsFrom 6 = .ok (.iload_n 0, 1) := by decide +kernel
theorem dX3_monthsFrom_7 : decode cX3_monthsFrom 7 = .ok (.bipush 100, 2) := by decide +kernel
theorem dX3_monthsFrom_9 : decode cX3_monthsFrom 9 = .ok (.idiv, 1) := by decide +kernel
theorem dX3_monthsFrom_10 : decode cX3_monthsFrom 10 = .ok (.bipush 100, 2) := by decide +kernel
theorem dX3_monthsFrom_12 : decode cX3_monthsFrom 12 = .ok (.irem, 1) := by decide +kernel
theorem dX3_monthsFrom_13 : decode cX3_monthsFrom 13 = .ok (.istore 4, 2) := by decide +kernel
theorem dX3_monthsFrom_15 : decode cX3_monthsFrom 15 = .ok (.iload_n 0, 1) := by decide +kernel
theorem dX3_monthsFrom_16 : decode cX3_monthsFrom 16 = .ok (.bipush 100, 2) := by decide +kernel
theorem dX3_monthsFrom_18 : decode cX3_monthsFrom 18 = .ok (.irem, 1) := by decide +kernel
theorem dX3_monthsFrom_19 : decode cX3_monthsFrom 19 = .ok (.istore 5, 2) := by decide +kernel
theorem dX3_monthsFrom_21 : decode cX3_monthsFrom 21 = .ok (.iload_n 3, 1) := by decide +kernel
theorem dX3_monthsFrom_22 : decode cX3_monthsFrom 22 = .ok (.bipush 12, 2) := by decide +kernel
theorem dX3_monthsFrom_24 : decode cX3_monthsFrom 24 = .ok (.imul, 1) := by decide +kernel
theorem dX3_monthsFrom_25 : decode cX3_monthsFrom 25 = .ok (.iload 4, 2) := by decide +kernel
theorem dX3_monthsFrom_27 : decode cX3_monthsFrom 27 = .ok (.iadd, 1) := by decide +kernel
theorem dX3_monthsFrom_28 : decode cX3_monthsFrom 28 = .ok (.iconst 1, 1) := by decide +kernel
theorem dX3_monthsFrom_29 : decode cX3_monthsFrom 29 = .ok (.isub, 1) := by decide +kernel
theorem dX3_monthsFrom_30 : decode cX3_monthsFrom 30 = .ok (.iload_n 1, 1) := by decide +kernel
theorem dX3_monthsFrom_31 : decode cX3_monthsFrom 31 = .ok (.iadd, 1) := by decide +kernel
theorem dX3_monthsFrom_32 : decode cX3_monthsFrom 32 = .ok (.istore 6, 2) := by decide +kernel
theorem dX3_monthsFrom_34 : decode cX3_monthsFrom 34 = .ok (.iload 6, 2) := by decide +kernel
theorem dX3_monthsFrom_36 : decode cX3_monthsFrom 36 = .ok (.bipush 12, 2) := by decide +kernel
theorem dX3_monthsFrom_38 : decode cX3_monthsFrom 38 = .ok (.idiv, 1) := by decide +kernel
theorem dX3_monthsFrom_39 : decode cX3_monthsFrom 39 = .ok (.istore 7, 2) := by decide +kernel
theorem dX3_monthsFrom_41 : decode cX3_monthsFrom 41 = .ok (.iload 6, 2) := by decide +kernel
theorem dX3_monthsFrom_43 : decode cX3_monthsFrom 43 = .ok (.bipush 12, 2) := by decide +kernel
theorem dX3_monthsFrom_45 : decode cX3_monthsFrom 45 = .ok (.irem, 1) := by decide +kernel
theorem dX3_monthsFrom_46 : decode cX3_monthsFrom 46 = .ok (.iconst 1, 1) := by decide +kernel
theorem dX3_monthsFrom_47 : decode cX3_monthsFrom 47 = .ok (.iadd, 1) := by decide +kernel
theorem dX3_monthsFrom_48 : decode cX3_monthsFrom 48 = .ok (.istore 8, 2) := by decide +kernel
theorem dX3_monthsFrom_50 : decode cX3_monthsFrom 50 = .ok (.iload 7, 2) := by decide +kernel
theorem dX3_monthsFrom_52 : decode cX3_monthsFrom 52 = .ok (.iload 8, 2) := by decide +kernel
theorem dX3_monthsFrom_54 : decode cX3_monthsFrom 54 = .ok (.invokestatic 11, 3) := by decide +kernel
theorem dX3_monthsFrom_57 : decode cX3_monthsFrom 57 = .ok (.istore 9, 2) := by decide +kernel
theorem dX3_monthsFrom_59 : decode cX3_monthsFrom 59 = .ok (.iload 5, 2) := by decide +kernel
theorem dX3_monthsFrom_61 : decode cX3_monthsFrom 61 = .ok (.iload 9, 2) := by decide +kernel
theorem dX3_monthsFrom_63 : decode cX3_monthsFrom 63 = .ok (.if_icmp .gt 18, 3) := by decide +kernel
theorem dX3_monthsFrom_66 : decode cX3_monthsFrom 66 = .ok (.iload_n 2, 1) := by decide +kernel
theorem dX3_monthsFrom_67 : decode cX3_monthsFrom 67 = .ok (.ifCond .eq 18, 3) := by decide +kernel
theorem dX3_monthsFrom_70 : decode cX3_monthsFrom 70 = .ok (.iload 5, 2) := by decide +kernel
theorem dX3_monthsFrom_72 : decode cX3_monthsFrom 72 = .ok (.iload_n 3, 1) := by decide +kernel
theorem dX3_monthsFrom_73 : decode cX3_monthsFrom 73 = .ok (.iload 4, 2) := by decide +kernel
theorem dX3_monthsFrom_75 : decode cX3_monthsFrom 75 = .ok (.invokestatic 11, 3) := by decide +kernel
theorem dX3_monthsFrom_78 : decode cX3_monthsFrom 78 = .ok (.if_icmp .ne 7, 3) := by decide +kernel
theorem dX3_monthsFrom_81 : decode cX3_monthsFrom 81 = .ok (.iconst 1, 1) := by decide +kernel
theorem dX3_monthsFrom_82 : decode cX3_monthsFrom 82 = .ok (.goto 4, 3) := by decide +kernel
theorem dX3_monthsFrom_85 : decode cX3_monthsFrom 85 = .ok (.iconst 0, 1) := by decide +kernel
theorem dX3_monthsFrom_86 : decode cX3_monthsFrom 86 = .ok (.istore 10, 2) := by decide +kernel
theorem dX3_monthsFrom_88 : decode cX3_monthsFrom 88 = .ok (.iload 7, 2) := by decide +kernel
theorem dX3_monthsFrom_90 : decode cX3_monthsFrom 90 = .ok (.sipush 10000, 3) := by decide +kernel
theorem dX3_monthsFrom_93 : decode cX3_monthsFrom 93 = .ok (.imul, 1) := by decide +kernel
theorem dX3_monthsFrom_94 : decode cX3_monthsFrom 94 = .ok (.iload 8, 2) := by decide +kernel
theorem dX3_monthsFrom_96 : decode cX3_monthsFrom 96 = .ok (.bipush 100, 2) := by decide +kernel
theorem dX3_monthsFrom_98 : decode cX3_monthsFrom 98 = .ok (.imul, 1) := by decide +kernel
theorem dX3_monthsFrom_99 : decode cX3_monthsFrom 99 = .ok (.iadd, 1) := by decide +kernel
theorem dX3_monthsFrom_100 : decode cX3_monthsFrom 100 = .ok (.iload 10, 2) := by decide +kernel
theorem dX3_monthsFrom_102 : decode cX3_monthsFrom 102 = .ok (.ifCond .eq 8, 3) := by decide +kernel
theorem dX3_monthsFrom_105 : decode cX3_monthsFrom 105 = .ok (.iload 9, 2) := by decide +kernel
theorem dX3_monthsFrom_107 : decode cX3_monthsFrom 107 = .ok (.goto 5, 3) := by decide +kernel
theorem dX3_monthsFrom_110 : decode cX3_monthsFrom 110 = .ok (.iload 5, 2) := by decide +kernel
theorem dX3_monthsFrom_112 : decode cX3_monthsFrom 112 = .ok (.iadd, 1) := by decide +kernel
theorem dX3_monthsFrom_113 : decode cX3_monthsFrom 113 = .ok (.ireturn, 1) := by decide +kernel
set_option maxRecDepth 20000 in
theorem ggX6_set_X6_commonDivisor : GoodIn wsX6_set wsX6_commonDivisor := goodIn_r _ [6] (by decide +kernel) (by decide +kernel)
set_option maxRecDepth 20000 in
theorem gX6_set_X6_commonDivisor : GoodIn wsX6_set (va_wsS RX6 16 yX6_commonDivisor wsX6_commonDivisor) := goodIn_app (goodIn_of _ (by decide +kernel)) ggX6_set_X6_commonDivisor
theorem dX6_set_0 : decode cX6_set 0 = .ok (.lload_n 1, 1) := by decide +kernel
theorem dX6_set_1 : decode cX6_set 1 = .ok (.lconst 0, 1) := by decide +kernel
theorem dX6_set_2 : decode cX6_set 2 = .ok (.lcmp, 1) := by decide +kernel
theorem dX6_set_3 : decode cX6_set 3 = .ok (.ifCond .ge 8, 3) := by decide +kernel
theorem dX6_set_6 : decode cX6_set 6 = .ok (.lload_n 1, 1) := by decide +kernel
theorem dX6_set_7 : decode cX6_set 7 = .ok (.lneg, 1) := by decide +kernel
theorem dX6_set_8 : decode cX6_set 8 = .ok (.goto 4, 3) := by decide +kernel
theorem dX6_set_11 : decode cX6_set 11 = .ok (.lload_n 1, 1) := by decide +kernel
theorem dX6_set_12 : decode cX6_set 12 = .ok (.lload_n 3, 1) := by decide +kernel
theorem dX6_set_13 : decode cX6_set 13 = .ok (.invokestatic 16, 3) := by decide +kernel
theorem dX6_set_16 : decode cX6_set 16 = .ok (.lstore 5, 2) := by decide +kernel
theorem dX6_set_18 : decode cX6_set 18 = .ok (.lload 5, 2) := by decide +kernel
theorem dX6_set_20 : decode cX6_set 20 = .ok (.lconst 1, 1) := by decide +kernel
theorem dX6_set_21 : decode cX6_set 21 = .ok (.lcmp, 1) := by decide +kernel
theorem dX6_set_22 : decode cX6_set 22 = .ok (.ifCond .ge 14, 3) := by decide +kernel
theorem dX6_set_25 : decode cX6_set 25 = .ok (.aload_n 0, 1) := by decide +kernel
theorem dX6_set_26 : decode cX6_set 26 = .ok (.lconst 0, 1) := by decide +kernel
theorem dX6_set_27 : decode cX6_set 27 = .ok (.putfield 7, 3) := by decide +kernel
theorem dX6_set_30 : decode cX6_set 30 = .ok (.aload_n 0, 1) := by decide +kernel
theorem dX6_set_31 : decode cX6_set 31 = .ok (.lconst 1, 1) := by decide +kernel
theorem dX6_set_32 : decode cX6_set 32 = .ok (.putfield 13, 3) := by decide +kernel
theorem dX6_set_35 : decode cX6_set 35 = .ok (.return_, 1) := by decide +kernel
theorem dX6_set_36 : decode cX6_set 36 = .ok (.aload_n 0, 1) := by decide +kernel
theorem dX6_set_37 : decode cX6_set 37 = .ok (.lload_n 1, 1) := by decide +kernel
theorem dX6_set_38 : decode cX6_set 38 = .ok (.lload 5, 2) := by decide +kernel
theorem dX6_set_40 : decode cX6_set 40 = .ok (.ldiv, 1) := by decide +kernel
theorem dX6_set_41 : decode cX6_set 41 = .ok (.putfield 7, 3) := by decide +kernel
theorem dX6_set_44 : decode cX6_set 44 = .ok (.aload_n 0, 1) := by decide +kernel
theorem dX6_set_45 : decode cX6_set 45 = .ok (.lload_n 3, 1) := by decide +kernel
theorem dX6_set_46 : decode cX6_set 46 = .ok (.lload 5, 2) := by decide +kernel
theorem dX6_set_48 : decode cX6_set 48 = .ok (.ldiv, 1) := by decide +kernel
theorem dX6_set_49 : decode cX6_set 49 = .ok (.putfield 13, 3) := by decide +kernel
theorem dX6_set_52 : decode cX6_set 52 = .ok (.return_, 1) := by decide +kernel
theorem dX6_commonDivisor_0 : decode cX6_commonDivisor 0 = .ok (.lload_n 0, 1) := by decide +kernel
theorem dX6_commonDivisor_1 : decode cX6_commonDivisor 1 = .ok (.lstore 4, 2) := by decide +kernel
theorem dX6_commonDivisor_3 : decode cX6_commonDivisor 3 = .ok (.lload_n 2, 1) := by decide +kernel
theorem dX6_commonDivisor_4 : decode cX6_commonDivisor 4 = .ok (.lstore 6, 2) := by decide +kernel
theorem dX6_commonDivisor_6 : decode cX6_commonDivisor 6 = .ok (.iconst 0, 1) := by decide +kernel
theorem dX6_commonDivisor_7 : decode cX6_commonDivisor 7 = .ok (.istore 8, 2) := by decide +kernel
theorem dX6_commonDivisor_9 : decode cX6_commonDivisor 9 = .ok (.iload 8, 2) := by decide +kernel
theorem dX6_commonDivisor_11 : decode cX6_commonDivisor 11 = .ok (.sipush 200, 3) := by decide +kernel
theorem dX6_commonDivisor_14 : decode cX6_commonDivisor 14 = .ok (.if_icmp .ge 31, 3) := by decide +kernel
theorem dX6_commonDivisor_17 : decode cX6_commonDivisor 17 = .ok (.lload 6, 2) := by decide +kernel
theorem dX6_commonDivisor_19 : decode cX6_commonDivisor 19 = .ok (.lconst 0, 1) := by decide +kernel
theorem dX6_commonDivisor_20 : decode cX6_commonDivisor 20 = .ok (.lcmp, 1) := by decide +kernel
theorem dX6_commonDivisor_21 : decode cX6_commonDivisor 21 = .ok (.ifCond .eq 24, 3) := by decide +kernel
theorem dX6_commonDivisor_24 : decode cX6_commonDivisor 24 = .ok (.lload 4, 2) := by decide +kernel
theorem dX6_commonDivisor_26 : decode cX6_commonDivisor 26 = .ok (.lload 6, 2) := by decide +kernel
theorem dX6_commonDivisor_28 : decode cX6_commonDivisor 28 = .ok (.lrem, 1) := by decide +kernel
theorem dX6_commonDivisor_29 : decode cX6_commonDivisor 29 = .ok (.lstore 9, 2) := by decide +kernel
theorem dX6_commonDivisor_31 : decode cX6_commonDivisor 31 = .ok (.lload 6, 2) := by decide +kernel
theorem dX6_commonDivisor_33 : decode cX6_commonDivisor 33 = .ok (.lstore 4, 2) := by decide +kernel
theorem dX6_commonDivisor_35 : decode cX6_commonDivisor 35 = .ok (.lload 9, 2) := by decide +kernel
theorem dX6_commonDivisor_37 : decode cX6_commonDivisor 37 = .ok (.lstore 6, 2) := by decide +kernel
theorem dX6_commonDivisor_39 : decode cX6_commonDivisor 39 = .ok (.iinc 8 1, 3) := by decide +kernel
theorem dX6_commonDivisor_42 : decode cX6_commonDivisor 42 = .ok (.goto (-33), 3) := by decide +kernel
theorem dX6_commonDivisor_45 : decode cX6_commonDivisor 45 = .ok (.lload 4, 2) := by decide +kernel
theorem dX6_commonDivisor_47 : decode cX6_commonDivisor 47 = .ok (.lreturn, 1) := by decide +kernel
theorem dX11_fault_0 : decode cX11_fault 0 = .ok (.aload_n 0, 1) := by decide +kernel
theorem dX11_fault_1 : decode cX11_fault 1 = .ok (.getfield 78, 3) := by decide +kernel
theorem dX11_fault_4 : decode cX11_fault 4 = .ok (.ireturn, 1) := by decide +kernel
theorem dX11_where_0 : decode cX11_where 0 = .ok (.aload_n 0, 1) := by decide +kernel
theorem dX11_where_1 : decode cX11_where 1 = .ok (.getfield 74, 3) := by decide +kernel
theorem dX11_where_4 : decode cX11_where 4 = .ok (.iconst 4, 1) := by decide +kernel
theorem dX11_where_5 : decode cX11_where 5 = .ok (.if_icmp .ne 10, 3) := by decide +kernel
theorem dX11_where_8 : decode cX11_where 8 = .ok (.aload_n 0, 1) := by decide +kernel
theorem dX11_where_9 : decode cX11_where 9 = .ok (.getfield 81, 3) := by decide +kernel
theorem dX11_where_12 : decode cX11_where 12 = .ok (.goto 4, 3) := by decide +kernel
theorem dX11_where_15 : decode cX11_where 15 = .ok (.iconst (-1), 1) := by decide +kernel
theorem dX11_where_16 : decode cX11_where 16 = .ok (.ireturn, 1) := by decide +kernel
set_option maxRecDepth 20000 in
theorem ggX11_days_X3_isDate : GoodIn wsX11_days wsX3_isDate := goodIn_r _ [6, 7, 8, 9, 10, 5, 11] (by decide +kernel) (by decide +kernel)
set_option maxRecDepth 20000 in
theorem gX11_days_X3_isDate : GoodIn wsX11_days (va_wsS RX11 127 yX3_isDate wsX3_isDate) := goodIn_app (goodIn_of _ (by decide +kernel)) ggX11_days_X3_isDate
set_option maxRecDepth 20000 in
theorem ggX11_days_X3_dayOf : GoodIn wsX11_days wsX3_dayOf := goodIn_r _ [14, 15] (by decide +kernel) (by decide +kernel)
set_option maxRecDepth 20000 in
theorem gX11_days_X3_dayOf : GoodIn wsX11_days (va_wsS RX11 136 yX3_dayOf wsX3_dayOf) := goodIn_app (goodIn_of _ (by decide +kernel)) ggX11_days_X3_dayOf
theorem dX11_days_0 : decode cX11_days 0 = .ok (.iload_n 1, 1) := by decide +kernel
theorem dX11_days_1 : decode cX11_days 1 = .ok (.invokestatic 127, 3) := by decide +kernel
theorem dX11_days_4 : decode cX11_days 4 = .ok (.ifCond .eq 10, 3) := by decide +kernel
theorem dX11_days_7 : decode cX11_days 7 = .ok (.iload_n 2, 1) := by decide +kernel
theorem dX11_days_8 : decode cX11_days 8 = .ok (.invokestatic 127, 3) := by decide +kernel
theorem dX11_days_11 : decode cX11_days 11 = .ok (.ifCond .ne 11, 3) := by decide +kernel
theorem dX11_days_14 : decode cX11_days 14 = .ok (.aload_n 0, 1) := by decide +kernel
theorem dX11_days_15 : decode cX11_days 15 = .ok (.iconst 2, 1) := by decide +kernel
theorem dX11_days_16 : decode cX11_days 16 = .ok (.putfield 74, 3) := by decide +kernel
theorem dX11_days_19 : decode cX11_days 19 = .ok (.ldc 135, 2) := by decide +kernel
theorem dX11_days_21 : decode cX11_days 21 = .ok (.ireturn, 1) := by decide +kernel
theorem dX11_days_22 : decode cX11_days 22 = .ok (.aload_n 0, 1) := by decide +kernel
theorem dX11_days_23 : decode cX11_days 23 = .ok (.iconst 0, 1) := by decide +kernel
theorem dX11_days_24 : decode cX11_days 24 = .ok (.putfield 74, 3) := by decide +kernel
theorem dX11_days_27 : decode cX11_days 27 = .ok (.iload_n 2, 1) := by decide +kernel
theorem dX11_days_28 : decode cX11_days 28 = .ok (.invokestatic 136, 3) := by decide +kernel
theorem dX11_days_31 : decode cX11_days 31 = .ok (.iload_n 1, 1) := by decide +kernel
theorem dX11_days_32 : decode cX11_days 32 = .ok (.invokestatic 136, 3) := by decide +kernel
theorem dX11_days_35 : decode cX11_days 35 = .ok (.isub, 1) := by decide +kernel
theorem dX11_days_36 : decode cX11_days 36 = .ok (.ireturn, 1) := by decide +kernel
set_option maxRecDepth 20000 in
theorem ggX11_weekday_X3_isDate : GoodIn wsX11_weekday wsX3_isDate := goodIn_r _ [5, 6, 7, 8, 9, 4, 10] (by decide +kernel) (by decide +kernel)
set_option maxRecDepth 20000 in
theorem gX11_weekday_X3_isDate : GoodIn wsX11_weekday (va_wsS RX11 127 yX3_isDate wsX3_isDate) := goodIn_app (goodIn_of _ (by decide +kernel)) ggX11_weekday_X3_isDate
set_option maxRecDepth 20000 in
theorem ggX11_weekday_X11_refuse : GoodIn wsX11_weekday wsX11_refuse := goodIn_r _ [15, 1, 27, 28, 29, 30, 31, 32, 33, 34, 35, 36, 37, 38, 39, 40, 41] (by decide +kernel) (by decide +kernel)
set_option maxRecDepth 20000 in
theorem gX11_weekday_X11_refuse : GoodIn wsX11_weekday (wsV RX11 97 RX11 yX11_refuse wsX11_refuse) := goodIn_app (goodIn_of _ (by decide +kernel)) ggX11_weekday_X11_refuse
set_option maxRecDepth 20000 in
theorem ggX11_weekday_X3_dayOf : GoodIn wsX11_weekday wsX3_dayOf := goodIn_r _ [18, 19] (by decide +kernel) (by decide +kernel)
set_option maxRecDepth 20000 in
theorem gX11_weekday_X3_dayOf : GoodIn wsX11_weekday (va_wsS RX11 136 yX3_dayOf wsX3_dayOf) := goodIn_app (goodIn_of _ (by decide +kernel)) ggX11_weekday_X3_dayOf
set_option maxRecDepth 20000 in
theorem ggX11_weekday_X3_weekdayOf : GoodIn wsX11_weekday wsX3_weekdayOf := goodIn_r _ [22, 23, 24, 25, 26] (by decide +kernel) (by decide +kernel)
