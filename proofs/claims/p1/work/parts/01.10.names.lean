set_option maxRecDepth 20000 in
theorem gX11_weekday_X3_weekdayOf : GoodIn wsX11_weekday (va_wsS RX11 139 yX3_weekdayOf wsX3_weekdayOf) := goodIn_app (goodIn_of _ (by decide +kernel)) ggX11_weekday_X3_weekdayOf
theorem dX11_weekday_0 : decode cX11_weekday 0 = .ok (.iload_n 1, 1) := by decide +kernel
theorem dX11_weekday_1 : decode cX11_weekday 1 = .ok (.invokestatic 127, 3) := by decide +kernel
theorem dX11_weekday_4 : decode cX11_weekday 4 = .ok (.ifCond .ne 9, 3) := by decide +kernel
theorem dX11_weekday_7 : decode cX11_weekday 7 = .ok (.aload_n 0, 1) := by decide +kernel
theorem dX11_weekday_8 : decode cX11_weekday 8 = .ok (.iconst 2, 1) := by decide +kernel
theorem dX11_weekday_9 : decode cX11_weekday 9 = .ok (.invokevirtual 97, 3) := by decide +kernel
theorem dX11_weekday_12 : decode cX11_weekday 12 = .ok (.ireturn, 1) := by decide +kernel
theorem dX11_weekday_13 : decode cX11_weekday 13 = .ok (.aload_n 0, 1) := by decide +kernel
theorem dX11_weekday_14 : decode cX11_weekday 14 = .ok (.iconst 0, 1) := by decide +kernel
theorem dX11_weekday_15 : decode cX11_weekday 15 = .ok (.putfield 74, 3) := by decide +kernel
theorem dX11_weekday_18 : decode cX11_weekday 18 = .ok (.iload_n 1, 1) := by decide +kernel
theorem dX11_weekday_19 : decode cX11_weekday 19 = .ok (.invokestatic 136, 3) := by decide +kernel
theorem dX11_weekday_22 : decode cX11_weekday 22 = .ok (.invokestatic 139, 3) := by decide +kernel
theorem dX11_weekday_25 : decode cX11_weekday 25 = .ok (.ireturn, 1) := by decide +kernel
set_option maxRecDepth 20000 in
theorem ggX11_months_X3_isDate : GoodIn wsX11_months wsX3_isDate := goodIn_r _ [5, 6, 7, 8, 9, 4, 10] (by decide +kernel) (by decide +kernel)
set_option maxRecDepth 20000 in
theorem gX11_months_X3_isDate : GoodIn wsX11_months (va_wsS RX11 127 yX3_isDate wsX3_isDate) := goodIn_app (goodIn_of _ (by decide +kernel)) ggX11_months_X3_isDate
set_option maxRecDepth 20000 in
theorem ggX11_months_X11_refuse : GoodIn wsX11_months wsX11_refuse := goodIn_r _ [15, 1, 19, 20, 21, 22, 23, 24, 25, 26, 27, 28, 29, 30, 31, 32, 33] (by decide +kernel) (by decide +kernel)
set_option maxRecDepth 20000 in
theorem gX11_months_X11_refuse : GoodIn wsX11_months (wsV RX11 97 RX11 yX11_refuse wsX11_refuse) := goodIn_app (goodIn_of _ (by decide +kernel)) ggX11_months_X11_refuse
set_option maxRecDepth 20000 in
theorem ggX11_months_X3_monthsFrom : GoodIn wsX11_months wsX3_monthsFrom := goodIn_r _ [18, 8, 9, 4, 10] (by decide +kernel) (by decide +kernel)
set_option maxRecDepth 20000 in
theorem gX11_months_X3_monthsFrom : GoodIn wsX11_months (va_wsS RX11 142 yX3_monthsFrom wsX3_monthsFrom) := goodIn_app (goodIn_of _ (by decide +kernel)) ggX11_months_X3_monthsFrom
theorem dX11_months_0 : decode cX11_months 0 = .ok (.iload_n 1, 1) := by decide +kernel
theorem dX11_months_1 : decode cX11_months 1 = .ok (.invokestatic 127, 3) := by decide +kernel
theorem dX11_months_4 : decode cX11_months 4 = .ok (.ifCond .eq 15, 3) := by decide +kernel
theorem dX11_months_7 : decode cX11_months 7 = .ok (.iload_n 2, 1) := by decide +kernel
theorem dX11_months_8 : decode cX11_months 8 = .ok (.bipush (-120), 2) := by decide +kernel
theorem dX11_months_10 : decode cX11_months 10 = .ok (.if_icmp .lt 9, 3) := by decide +kernel
theorem dX11_months_13 : decode cX11_months 13 = .ok (.iload_n 2, 1) := by decide +kernel
theorem dX11_months_14 : decode cX11_months 14 = .ok (.bipush 120, 2) := by decide +kernel
theorem dX11_months_16 : decode cX11_months 16 = .ok (.if_icmp .le 9, 3) := by decide +kernel
theorem dX11_months_19 : decode cX11_months 19 = .ok (.aload_n 0, 1) := by decide +kernel
theorem dX11_months_20 : decode cX11_months 20 = .ok (.iconst 2, 1) := by decide +kernel
theorem dX11_months_21 : decode cX11_months 21 = .ok (.invokevirtual 97, 3) := by decide +kernel
theorem dX11_months_24 : decode cX11_months 24 = .ok (.ireturn, 1) := by decide +kernel
theorem dX11_months_25 : decode cX11_months 25 = .ok (.aload_n 0, 1) := by decide +kernel
theorem dX11_months_26 : decode cX11_months 26 = .ok (.iconst 0, 1) := by decide +kernel
theorem dX11_months_27 : decode cX11_months 27 = .ok (.putfield 74, 3) := by decide +kernel
theorem dX11_months_30 : decode cX11_months 30 = .ok (.iload_n 1, 1) := by decide +kernel
theorem dX11_months_31 : decode cX11_months 31 = .ok (.iload_n 2, 1) := by decide +kernel
theorem dX11_months_32 : decode cX11_months 32 = .ok (.iload_n 3, 1) := by decide +kernel
theorem dX11_months_33 : decode cX11_months 33 = .ok (.invokestatic 142, 3) := by decide +kernel
theorem dX11_months_36 : decode cX11_months 36 = .ok (.ireturn, 1) := by decide +kernel
set_option maxRecDepth 20000 in
theorem ggX11_bond_X11_bondOf : GoodIn wsX11_bond wsX11_bondOf := goodIn_r _ [15, 16, 17, 18, 19, 32, 33, 34, 35, 36, 37, 38, 39, 40, 41, 42, 43, 44, 45, 46, 63, 64, 65, 66, 67, 68, 69, 70, 71, 72, 73, 74] (by decide +kernel) (by decide +kernel)
set_option maxRecDepth 20000 in
theorem gX11_bond_X11_bondOf : GoodIn wsX11_bond (wsV RX11 172 RX11 yX11_bondOf wsX11_bondOf) := goodIn_app (goodIn_of _ (by decide +kernel)) ggX11_bond_X11_bondOf
set_option maxRecDepth 20000 in
theorem ggX11_bond_X11_refuse : GoodIn wsX11_bond wsX11_refuse := goodIn_r _ [23, 1, 32, 33, 34, 35, 36, 37, 38, 39, 40, 41, 42, 43, 44, 45, 46] (by decide +kernel) (by decide +kernel)
set_option maxRecDepth 20000 in
theorem gX11_bond_X11_refuse : GoodIn wsX11_bond (wsV RX11 97 RX11 yX11_refuse wsX11_refuse) := goodIn_app (goodIn_of _ (by decide +kernel)) ggX11_bond_X11_refuse
set_option maxRecDepth 20000 in
theorem ggX11_bond_X3_numberOf : GoodIn wsX11_bond wsX3_numberOf := goodIn_r _ [27, 28, 29, 30, 31] (by decide +kernel) (by decide +kernel)
set_option maxRecDepth 20000 in
theorem gX11_bond_X3_numberOf : GoodIn wsX11_bond (va_wsS RX11 159 yX3_numberOf wsX3_numberOf) := goodIn_app (goodIn_of _ (by decide +kernel)) ggX11_bond_X3_numberOf
theorem dX11_bond_0 : decode cX11_bond 0 = .ok (.aload_n 0, 1) := by decide +kernel
theorem dX11_bond_1 : decode cX11_bond 1 = .ok (.iload_n 1, 1) := by decide +kernel
theorem dX11_bond_2 : decode cX11_bond 2 = .ok (.invokevirtual 172, 3) := by decide +kernel
theorem dX11_bond_5 : decode cX11_bond 5 = .ok (.astore_n 3, 1) := by decide +kernel
theorem dX11_bond_6 : decode cX11_bond 6 = .ok (.aload_n 3, 1) := by decide +kernel
theorem dX11_bond_7 : decode cX11_bond 7 = .ok (.ifnull 13, 3) := by decide +kernel
theorem dX11_bond_10 : decode cX11_bond 10 = .ok (.iload_n 2, 1) := by decide +kernel
theorem dX11_bond_11 : decode cX11_bond 11 = .ok (.ifCond .lt 9, 3) := by decide +kernel
theorem dX11_bond_14 : decode cX11_bond 14 = .ok (.iload_n 2, 1) := by decide +kernel
theorem dX11_bond_15 : decode cX11_bond 15 = .ok (.bipush 8, 2) := by decide +kernel
theorem dX11_bond_17 : decode cX11_bond 17 = .ok (.if_icmp .le 9, 3) := by decide +kernel
theorem dX11_bond_20 : decode cX11_bond 20 = .ok (.aload_n 0, 1) := by decide +kernel
theorem dX11_bond_21 : decode cX11_bond 21 = .ok (.iconst 1, 1) := by decide +kernel
theorem dX11_bond_22 : decode cX11_bond 22 = .ok (.invokevirtual 97, 3) := by decide +kernel
theorem dX11_bond_25 : decode cX11_bond 25 = .ok (.ireturn, 1) := by decide +kernel
theorem dX11_bond_26 : decode cX11_bond 26 = .ok (.aload_n 0, 1) := by decide +kernel
theorem dX11_bond_27 : decode cX11_bond 27 = .ok (.iconst 0, 1) := by decide +kernel
theorem dX11_bond_28 : decode cX11_bond 28 = .ok (.putfield 74, 3) := by decide +kernel
theorem dX11_bond_31 : decode cX11_bond 31 = .ok (.iload_n 2, 1) := by decide +kernel
theorem dX11_bond_32 : decode cX11_bond 32 = .ok (.tableswitch 105 0 7 #[48, 53, 58, 63, 71, 79, 87, 100], 48) := by decide +kernel
theorem dX11_bond_80 : decode cX11_bond 80 = .ok (.aload_n 3, 1) := by decide +kernel
theorem dX11_bond_81 : decode cX11_bond 81 = .ok (.getfield 176, 3) := by decide +kernel
theorem dX11_bond_84 : decode cX11_bond 84 = .ok (.ireturn, 1) := by decide +kernel
theorem dX11_bond_85 : decode cX11_bond 85 = .ok (.aload_n 3, 1) := by decide +kernel
theorem dX11_bond_86 : decode cX11_bond 86 = .ok (.getfield 179, 3) := by decide +kernel
theorem dX11_bond_89 : decode cX11_bond 89 = .ok (.ireturn, 1) := by decide +kernel
theorem dX11_bond_90 : decode cX11_bond 90 = .ok (.aload_n 3, 1) := by decide +kernel
theorem dX11_bond_91 : decode cX11_bond 91 = .ok (.getfield 182, 3) := by decide +kernel
theorem dX11_bond_94 : decode cX11_bond 94 = .ok (.ireturn, 1) := by decide +kernel
theorem dX11_bond_95 : decode cX11_bond 95 = .ok (.aload_n 3, 1) := by decide +kernel
theorem dX11_bond_96 : decode cX11_bond 96 = .ok (.getfield 185, 3) := by decide +kernel
theorem dX11_bond_99 : decode cX11_bond 99 = .ok (.invokestatic 159, 3) := by decide +kernel
theorem dX11_bond_102 : decode cX11_bond 102 = .ok (.ireturn, 1) := by decide +kernel
theorem dX11_bond_103 : decode cX11_bond 103 = .ok (.aload_n 3, 1) := by decide +kernel
theorem dX11_bond_104 : decode cX11_bond 104 = .ok (.getfield 188, 3) := by decide +kernel
theorem dX11_bond_107 : decode cX11_bond 107 = .ok (.invokestatic 159, 3) := by decide +kernel
theorem dX11_bond_110 : decode cX11_bond 110 = .ok (.ireturn, 1) := by decide +kernel
theorem dX11_bond_111 : decode cX11_bond 111 = .ok (.aload_n 3, 1) := by decide +kernel
theorem dX11_bond_112 : decode cX11_bond 112 = .ok (.getfield 191, 3) := by decide +kernel
theorem dX11_bond_115 : decode cX11_bond 115 = .ok (.invokestatic 159, 3) := by decide +kernel
theorem dX11_bond_118 : decode cX11_bond 118 = .ok (.ireturn, 1) := by decide +kernel
theorem dX11_bond_119 : decode cX11_bond 119 = .ok (.aload_n 3, 1) := by decide +kernel
theorem dX11_bond_120 : decode cX11_bond 120 = .ok (.getfield 194, 3) := by decide +kernel
theorem dX11_bond_123 : decode cX11_bond 123 = .ok (.ifCond .eq 7, 3) := by decide +kernel
theorem dX11_bond_126 : decode cX11_bond 126 = .ok (.iconst 1, 1) := by decide +kernel
theorem dX11_bond_127 : decode cX11_bond 127 = .ok (.goto 4, 3) := by decide +kernel
theorem dX11_bond_130 : decode cX11_bond 130 = .ok (.iconst 0, 1) := by decide +kernel
theorem dX11_bond_131 : decode cX11_bond 131 = .ok (.ireturn, 1) := by decide +kernel
theorem dX11_bond_132 : decode cX11_bond 132 = .ok (.aload_n 3, 1) := by decide +kernel
theorem dX11_bond_133 : decode cX11_bond 133 = .ok (.getfield 197, 3) := by decide +kernel
theorem dX11_bond_136 : decode cX11_bond 136 = .ok (.ireturn, 1) := by decide +kernel
theorem dX11_bond_137 : decode cX11_bond 137 = .ok (.aload_n 3, 1) := by decide +kernel
theorem dX11_bond_138 : decode cX11_bond 138 = .ok (.getfield 200, 3) := by decide +kernel
theorem dX11_bond_141 : decode cX11_bond 141 = .ok (.ireturn, 1) := by decide +kernel
set_option maxRecDepth 20000 in
theorem ggX11_grid_X11_bondOf : GoodIn wsX11_grid wsX11_bondOf := goodIn_r _ [7, 8, 9, 10, 11, 40, 41, 42, 43, 44, 45, 46, 47, 48, 49, 50, 51, 52, 53, 54, 55, 56, 57, 58, 59, 60, 61, 62, 63, 64, 65, 66] (by decide +kernel) (by decide +kernel)
set_option maxRecDepth 20000 in
theorem gX11_grid_X11_bondOf : GoodIn wsX11_grid (wsV RX11 172 RX11 yX11_bondOf wsX11_bondOf) := goodIn_app (goodIn_of _ (by decide +kernel)) ggX11_grid_X11_bondOf
set_option maxRecDepth 20000 in
theorem ggX11_grid_X11_refuse : GoodIn wsX11_grid wsX11_refuse := goodIn_r _ [15, 2, 40, 41, 42, 43, 44, 45, 46, 47, 48, 49, 50, 51, 52, 53, 54] (by decide +kernel) (by decide +kernel)
set_option maxRecDepth 20000 in
theorem gX11_grid_X11_refuse : GoodIn wsX11_grid (wsV RX11 97 RX11 yX11_refuse wsX11_refuse) := goodIn_app (goodIn_of _ (by decide +kernel)) ggX11_grid_X11_refuse
set_option maxRecDepth 20000 in
theorem ggX11_grid_X3_numberOf : GoodIn wsX11_grid wsX3_numberOf := goodIn_r _ [19, 20, 21, 22, 23] (by decide +kernel) (by decide +kernel)
set_option maxRecDepth 20000 in
theorem gX11_grid_X3_numberOf : GoodIn wsX11_grid (va_wsS RX11 159 yX3_numberOf wsX3_numberOf) := goodIn_app (goodIn_of _ (by decide +kernel)) ggX11_grid_X3_numberOf
theorem dX11_grid_0 : decode cX11_grid 0 = .ok (.aload_n 0, 1) := by decide +kernel
theorem dX11_grid_1 : decode cX11_grid 1 = .ok (.iload_n 1, 1) := by decide +kernel
theorem dX11_grid_2 : decode cX11_grid 2 = .ok (.invokevirtual 172, 3) := by decide +kernel
theorem dX11_grid_5 : decode cX11_grid 5 = .ok (.astore_n 3, 1) := by decide +kernel
theorem dX11_grid_6 : decode cX11_grid 6 = .ok (.aload_n 3, 1) := by decide +kernel
theorem dX11_grid_7 : decode cX11_grid 7 = .ok (.ifnonnull 9, 3) := by decide +kernel
theorem dX11_grid_10 : decode cX11_grid 10 = .ok (.aload_n 0, 1) := by decide +kernel
theorem dX11_grid_11 : decode cX11_grid 11 = .ok (.iconst 1, 1) := by decide +kernel
theorem dX11_grid_12 : decode cX11_grid 12 = .ok (.invokevirtual 97, 3) := by decide +kernel
theorem dX11_grid_15 : decode cX11_grid 15 = .ok (.ireturn, 1) := by decide +kernel
theorem dX11_grid_16 : decode cX11_grid 16 = .ok (.iload_n 2, 1) := by decide +kernel
theorem dX11_grid_17 : decode cX11_grid 17 = .ok (.bipush 90, 2) := by decide +kernel
theorem dX11_grid_19 : decode cX11_grid 19 = .ok (.iadd, 1) := by decide +kernel
theorem dX11_grid_20 : decode cX11_grid 20 = .ok (.istore 4, 2) := by decide +kernel
theorem dX11_grid_22 : decode cX11_grid 22 = .ok (.iload_n 2, 1) := by decide +kernel
theorem dX11_grid_23 : decode cX11_grid 23 = .ok (.bipush (-90), 2) := by decide +kernel
theorem dX11_grid_25 : decode cX11_grid 25 = .ok (.if_icmp .lt 18, 3) := by decide +kernel
theorem dX11_grid_28 : decode cX11_grid 28 = .ok (.iload_n 2, 1) := by decide +kernel
theorem dX11_grid_29 : decode cX11_grid 29 = .ok (.iconst 3, 1) := by decide +kernel
theorem dX11_grid_30 : decode cX11_grid 30 = .ok (.if_icmp .gt 13, 3) := by decide +kernel
theorem dX11_grid_33 : decode cX11_grid 33 = .ok (.iload 4, 2) := by decide +kernel
theorem dX11_grid_35 : decode cX11_grid 35 = .ok (.aload_n 3, 1) := by decide +kernel
theorem dX11_grid_36 : decode cX11_grid 36 = .ok (.getfield 203, 3) := by decide +kernel
theorem dX11_grid_39 : decode cX11_grid 39 = .ok (.arraylength, 1) := by decide +kernel
theorem dX11_grid_40 : decode cX11_grid 40 = .ok (.if_icmp .lt 9, 3) := by decide +kernel
theorem dX11_grid_43 : decode cX11_grid 43 = .ok (.aload_n 0, 1) := by decide +kernel
theorem dX11_grid_44 : decode cX11_grid 44 = .ok (.iconst 2, 1) := by decide +kernel
theorem dX11_grid_45 : decode cX11_grid 45 = .ok (.invokevirtual 97, 3) := by decide +kernel
theorem dX11_grid_48 : decode cX11_grid 48 = .ok (.ireturn, 1) := by decide +kernel
theorem dX11_grid_49 : decode cX11_grid 49 = .ok (.aload_n 0, 1) := by decide +kernel
theorem dX11_grid_50 : decode cX11_grid 50 = .ok (.iconst 0, 1) := by decide +kernel
theorem dX11_grid_51 : decode cX11_grid 51 = .ok (.putfield 74, 3) := by decide +kernel
theorem dX11_grid_54 : decode cX11_grid 54 = .ok (.aload_n 3, 1) := by decide +kernel
theorem dX11_grid_55 : decode cX11_grid 55 = .ok (.getfield 203, 3) := by decide +kernel
theorem dX11_grid_58 : decode cX11_grid 58 = .ok (.iload 4, 2) := by decide +kernel
theorem dX11_grid_60 : decode cX11_grid 60 = .ok (.iaload, 1) := by decide +kernel
theorem dX11_grid_61 : decode cX11_grid 61 = .ok (.invokestatic 159, 3) := by decide +kernel
theorem dX11_grid_64 : decode cX11_grid 64 = .ok (.ireturn, 1) := by decide +kernel
set_option maxRecDepth 20000 in
theorem ggX11_period_X11_bondOf : GoodIn wsX11_period wsX11_bondOf := goodIn_r _ [10, 11, 12, 13, 14, 52, 53, 54, 55, 56, 57, 58, 59, 60, 61, 62, 63, 64, 65, 66, 83, 84, 85, 86, 87, 88, 89, 90, 91, 92, 93, 94] (by decide +kernel) (by decide +kernel)
set_option maxRecDepth 20000 in
theorem gX11_period_X11_bondOf : GoodIn wsX11_period (wsV RX11 172 RX11 yX11_bondOf wsX11_bondOf) := goodIn_app (goodIn_of _ (by decide +kernel)) ggX11_period_X11_bondOf
set_option maxRecDepth 20000 in
theorem ggX11_period_X11_refuse : GoodIn wsX11_period wsX11_refuse := goodIn_r _ [25, 1, 52, 53, 54, 55, 56, 57, 58, 59, 60, 61, 62, 63, 64, 65, 66] (by decide +kernel) (by decide +kernel)
set_option maxRecDepth 20000 in
theorem gX11_period_X11_refuse : GoodIn wsX11_period (wsV RX11 97 RX11 yX11_refuse wsX11_refuse) := goodIn_app (goodIn_of _ (by decide +kernel)) ggX11_period_X11_refuse
set_option maxRecDepth 20000 in
theorem ggX11_period_X3_numberOf : GoodIn wsX11_period wsX3_numberOf := goodIn_r _ [34, 35, 36, 37, 38] (by decide +kernel) (by decide +kernel)
set_option maxRecDepth 20000 in
theorem gX11_period_X3_numberOf : GoodIn wsX11_period (va_wsS RX11 159 yX3_numberOf wsX3_numberOf) := goodIn_app (goodIn_of _ (by decide +kernel)) ggX11_period_X3_numberOf
theorem dX11_period_0 : decode cX11_period 0 = .ok (.aload_n 0, 1) := by decide +kernel
theorem dX11_period_1 : decode cX11_period 1 = .ok (.iload_n 1, 1) := by decide +kernel
theorem dX11_period_2 : decode cX11_period 2 = .ok (.invokevirtual 172, 3) := by decide +kernel
theorem dX11_period_5 : decode cX11_period 5 = .ok (.astore 4, 2) := by decide +kernel
theorem dX11_period_7 : decode cX11_period 7 = .ok (.aload 4, 2) := by decide +kernel
theorem dX11_period_9 : decode cX11_period 9 = .ok (.ifnull 22, 3) := by decide +kernel
theorem dX11_period_12 : decode cX11_period 12 = .ok (.aload 4, 2) := by decide +kernel
theorem dX11_period_14 : decode cX11_period 14 = .ok (.iload_n 2, 1) := by decide +kernel
theorem dX11_period_15 : decode cX11_period 15 = .ok (.invokevirtual 207, 3) := by decide +kernel
theorem dX11_period_18 : decode cX11_period 18 = .ok (.ifCond .eq 13, 3) := by decide +kernel
theorem dX11_period_21 : decode cX11_period 21 = .ok (.iload_n 3, 1) := by decide +kernel
theorem dX11_period_22 : decode cX11_period 22 = .ok (.ifCond .lt 9, 3) := by decide +kernel
theorem dX11_period_25 : decode cX11_period 25 = .ok (.iload_n 3, 1) := by decide +kernel
theorem dX11_period_26 : decode cX11_period 26 = .ok (.bipush 6, 2) := by decide +kernel
theorem dX11_period_28 : decode cX11_period 28 = .ok (.if_icmp .le 9, 3) := by decide +kernel
theorem dX11_period_31 : decode cX11_period 31 = .ok (.aload_n 0, 1) := by decide +kernel
theorem dX11_period_32 : decode cX11_period 32 = .ok (.iconst 1, 1) := by decide +kernel
theorem dX11_period_33 : decode cX11_period 33 = .ok (.invokevirtual 97, 3) := by decide +kernel
theorem dX11_period_36 : decode cX11_period 36 = .ok (.ireturn, 1) := by decide +kernel
theorem dX11_period_37 : decode cX11_period 37 = .ok (.aload_n 0, 1) := by decide +kernel
theorem dX11_period_38 : decode cX11_period 38 = .ok (.iconst 0, 1) := by decide +kernel
theorem dX11_period_39 : decode cX11_period 39 = .ok (.putfield 74, 3) := by decide +kernel
theorem dX11_period_42 : decode cX11_period 42 = .ok (.iload_n 3, 1) := by decide +kernel
theorem dX11_period_43 : decode cX11_period 43 = .ok (.tableswitch 110 0 5 #[37, 47, 58, 73, 84, 95], 37) := by decide +kernel
theorem dX11_period_80 : decode cX11_period 80 = .ok (.aload 4, 2) := by decide +kernel
theorem dX11_period_82 : decode cX11_period 82 = .ok (.iload_n 2, 1) := by decide +kernel
theorem dX11_period_83 : decode cX11_period 83 = .ok (.invokevirtual 210, 3) := by decide +kernel
theorem dX11_period_86 : decode cX11_period 86 = .ok (.invokestatic 159, 3) := by decide +kernel
theorem dX11_period_89 : decode cX11_period 89 = .ok (.ireturn, 1) := by decide +kernel
theorem dX11_period_90 : decode cX11_period 90 = .ok (.aload 4, 2) := by decide +kernel
theorem dX11_period_92 : decode cX11_period 92 = .ok (.getfield 213, 3) := by decide +kernel
theorem dX11_period_95 : decode cX11_period 95 = .ok (.iload_n 2, 1) := by decide +kernel
theorem dX11_period_96 : decode cX11_period 96 = .ok (.iaload, 1) := by decide +kernel
theorem dX11_period_97 : decode cX11_period 97 = .ok (.invokestatic 159, 3) := by decide +kernel
theorem dX11_period_100 : decode cX11_period 100 = .ok (.ireturn, 1) := by decide +kernel
theorem dX11_period_101 : decode cX11_period 101 = .ok (.aload 4, 2) := by decide +kernel
theorem dX11_period_103 : decode cX11_period 103 = .ok (.getfield 213, 3) := by decide +kernel
theorem dX11_period_106 : decode cX11_period 106 = .ok (.iload_n 2, 1) := by decide +kernel
theorem dX11_period_107 : decode cX11_period 107 = .ok (.iaload, 1) := by decide +kernel
theorem dX11_period_108 : decode cX11_period 108 = .ok (.aload 4, 2) := by decide +kernel
theorem dX11_period_110 : decode cX11_period 110 = .ok (.iload_n 2, 1) := by decide +kernel
theorem dX11_period_111 : decode cX11_period 111 = .ok (.invokevirtual 210, 3) := by decide +kernel
theorem dX11_period_114 : decode cX11_period 114 = .ok (.isub, 1) := by decide +kernel
