set_option maxRecDepth 20000 in
theorem ggX6_setCounted_X6_set : GoodIn wsX6_setCounted wsX6_set := goodIn_r _ [7, 8, 9, 10, 11, 6, 12, 28, 29] (by decide +kernel) (by decide +kernel)
set_option maxRecDepth 20000 in
theorem gX6_setCounted_X6_set : GoodIn wsX6_setCounted (wsV RX6 20 RX6 yX6_set wsX6_set) := goodIn_app (goodIn_of _ (by decide +kernel)) ggX6_setCounted_X6_set
set_option maxRecDepth 20000 in
theorem ggX6_setCounted_X3_numberOf : GoodIn wsX6_setCounted wsX3_numberOf := goodIn_r _ [16, 17, 18, 19, 20] (by decide +kernel) (by decide +kernel)
set_option maxRecDepth 20000 in
theorem gX6_setCounted_X3_numberOf : GoodIn wsX6_setCounted (va_wsS RX6 30 yX3_numberOf wsX3_numberOf) := goodIn_app (goodIn_of _ (by decide +kernel)) ggX6_setCounted_X3_numberOf
set_option maxRecDepth 20000 in
theorem ggX6_setCounted_X6_thirtyDays : GoodIn wsX6_setCounted wsX6_thirtyDays := goodIn_r _ [23, 24, 25, 26, 27] (by decide +kernel) (by decide +kernel)
set_option maxRecDepth 20000 in
theorem gX6_setCounted_X6_thirtyDays : GoodIn wsX6_setCounted (va_wsS RX6 36 yX6_thirtyDays wsX6_thirtyDays) := goodIn_app (goodIn_of _ (by decide +kernel)) ggX6_setCounted_X6_thirtyDays
theorem dX6_setCounted_0 : decode cX6_setCounted 0 = .ok (.iload_n 1, 1) := by decide +kernel
theorem dX6_setCounted_1 : decode cX6_setCounted 1 = .ok (.iconst 2, 1) := by decide +kernel
theorem dX6_setCounted_2 : decode cX6_setCounted 2 = .ok (.if_icmp .ne 17, 3) := by decide +kernel
theorem dX6_setCounted_5 : decode cX6_setCounted 5 = .ok (.aload_n 0, 1) := by decide +kernel
theorem dX6_setCounted_6 : decode cX6_setCounted 6 = .ok (.iload_n 3, 1) := by decide +kernel
theorem dX6_setCounted_7 : decode cX6_setCounted 7 = .ok (.iload_n 2, 1) := by decide +kernel
theorem dX6_setCounted_8 : decode cX6_setCounted 8 = .ok (.isub, 1) := by decide +kernel
theorem dX6_setCounted_9 : decode cX6_setCounted 9 = .ok (.i2l, 1) := by decide +kernel
theorem dX6_setCounted_10 : decode cX6_setCounted 10 = .ok (.ldc2_w 26, 3) := by decide +kernel
theorem dX6_setCounted_13 : decode cX6_setCounted 13 = .ok (.invokevirtual 20, 3) := by decide +kernel
theorem dX6_setCounted_16 : decode cX6_setCounted 16 = .ok (.goto 42, 3) := by decide +kernel
theorem dX6_setCounted_19 : decode cX6_setCounted 19 = .ok (.iload_n 1, 1) := by decide +kernel
theorem dX6_setCounted_20 : decode cX6_setCounted 20 = .ok (.iconst 3, 1) := by decide +kernel
theorem dX6_setCounted_21 : decode cX6_setCounted 21 = .ok (.if_icmp .ne 17, 3) := by decide +kernel
theorem dX6_setCounted_24 : decode cX6_setCounted 24 = .ok (.aload_n 0, 1) := by decide +kernel
theorem dX6_setCounted_25 : decode cX6_setCounted 25 = .ok (.iload_n 3, 1) := by decide +kernel
theorem dX6_setCounted_26 : decode cX6_setCounted 26 = .ok (.iload_n 2, 1) := by decide +kernel
theorem dX6_setCounted_27 : decode cX6_setCounted 27 = .ok (.isub, 1) := by decide +kernel
theorem dX6_setCounted_28 : decode cX6_setCounted 28 = .ok (.i2l, 1) := by decide +kernel
theorem dX6_setCounted_29 : decode cX6_setCounted 29 = .ok (.ldc2_w 28, 3) := by decide +kernel
theorem dX6_setCounted_32 : decode cX6_setCounted 32 = .ok (.invokevirtual 20, 3) := by decide +kernel
theorem dX6_setCounted_35 : decode cX6_setCounted 35 = .ok (.goto 23, 3) := by decide +kernel
theorem dX6_setCounted_38 : decode cX6_setCounted 38 = .ok (.aload_n 0, 1) := by decide +kernel
theorem dX6_setCounted_39 : decode cX6_setCounted 39 = .ok (.iload_n 1, 1) := by decide +kernel
theorem dX6_setCounted_40 : decode cX6_setCounted 40 = .ok (.iload_n 2, 1) := by decide +kernel
theorem dX6_setCounted_41 : decode cX6_setCounted 41 = .ok (.invokestatic 30, 3) := by decide +kernel
theorem dX6_setCounted_44 : decode cX6_setCounted 44 = .ok (.iload_n 3, 1) := by decide +kernel
theorem dX6_setCounted_45 : decode cX6_setCounted 45 = .ok (.invokestatic 30, 3) := by decide +kernel
theorem dX6_setCounted_48 : decode cX6_setCounted 48 = .ok (.invokestatic 36, 3) := by decide +kernel
theorem dX6_setCounted_51 : decode cX6_setCounted 51 = .ok (.i2l, 1) := by decide +kernel
theorem dX6_setCounted_52 : decode cX6_setCounted 52 = .ok (.ldc2_w 26, 3) := by decide +kernel
theorem dX6_setCounted_55 : decode cX6_setCounted 55 = .ok (.invokevirtual 20, 3) := by decide +kernel
theorem dX6_setCounted_58 : decode cX6_setCounted 58 = .ok (.return_, 1) := by decide +kernel
theorem dX6_thirtyDays_0 : decode cX6_thirtyDays 0 = .ok (.iload_n 1, 1) := by decide +kernel
theorem dX6_thirtyDays_1 : decode cX6_thirtyDays 1 = .ok (.bipush 100, 2) := by decide +kernel
theorem dX6_thirtyDays_3 : decode cX6_thirtyDays 3 = .ok (.irem, 1) := by decide +kernel
theorem dX6_thirtyDays_4 : decode cX6_thirtyDays 4 = .ok (.bipush 30, 2) := by decide +kernel
theorem dX6_thirtyDays_6 : decode cX6_thirtyDays 6 = .ok (.invokestatic 40, 3) := by decide +kernel
theorem dX6_thirtyDays_9 : decode cX6_thirtyDays 9 = .ok (.istore_n 3, 1) := by decide +kernel
theorem dX6_thirtyDays_10 : decode cX6_thirtyDays 10 = .ok (.iload_n 2, 1) := by decide +kernel
theorem dX6_thirtyDays_11 : decode cX6_thirtyDays 11 = .ok (.bipush 100, 2) := by decide +kernel
theorem dX6_thirtyDays_13 : decode cX6_thirtyDays 13 = .ok (.irem, 1) := by decide +kernel
theorem dX6_thirtyDays_14 : decode cX6_thirtyDays 14 = .ok (.istore 4, 2) := by decide +kernel
theorem dX6_thirtyDays_16 : decode cX6_thirtyDays 16 = .ok (.iload 4, 2) := by decide +kernel
theorem dX6_thirtyDays_18 : decode cX6_thirtyDays 18 = .ok (.bipush 31, 2) := by decide +kernel
theorem dX6_thirtyDays_20 : decode cX6_thirtyDays 20 = .ok (.if_icmp .ne 18, 3) := by decide +kernel
theorem dX6_thirtyDays_23 : decode cX6_thirtyDays 23 = .ok (.iload_n 0, 1) := by decide +kernel
theorem dX6_thirtyDays_24 : decode cX6_thirtyDays 24 = .ok (.iconst 1, 1) := by decide +kernel
theorem dX6_thirtyDays_25 : decode cX6_thirtyDays 25 = .ok (.if_icmp .eq 9, 3) := by decide +kernel
theorem dX6_thirtyDays_28 : decode cX6_thirtyDays 28 = .ok (.iload_n 3, 1) := by decide +kernel
theorem dX6_thirtyDays_29 : decode cX6_thirtyDays 29 = .ok (.bipush 30, 2) := by decide +kernel
theorem dX6_thirtyDays_31 : decode cX6_thirtyDays 31 = .ok (.if_icmp .ne 7, 3) := by decide +kernel
theorem dX6_thirtyDays_34 : decode cX6_thirtyDays 34 = .ok (.bipush 30, 2) := by decide +kernel
theorem dX6_thirtyDays_36 : decode cX6_thirtyDays 36 = .ok (.istore 4, 2) := by decide +kernel
theorem dX6_thirtyDays_38 : decode cX6_thirtyDays 38 = .ok (.iload_n 2, 1) := by decide +kernel
theorem dX6_thirtyDays_39 : decode cX6_thirtyDays 39 = .ok (.sipush 10000, 3) := by decide +kernel
theorem dX6_thirtyDays_42 : decode cX6_thirtyDays 42 = .ok (.idiv, 1) := by decide +kernel
theorem dX6_thirtyDays_43 : decode cX6_thirtyDays 43 = .ok (.iload_n 1, 1) := by decide +kernel
theorem dX6_thirtyDays_44 : decode cX6_thirtyDays 44 = .ok (.sipush 10000, 3) := by decide +kernel
theorem dX6_thirtyDays_47 : decode cX6_thirtyDays 47 = .ok (.idiv, 1) := by decide +kernel
theorem dX6_thirtyDays_48 : decode cX6_thirtyDays 48 = .ok (.isub, 1) := by decide +kernel
theorem dX6_thirtyDays_49 : decode cX6_thirtyDays 49 = .ok (.istore 5, 2) := by decide +kernel
theorem dX6_thirtyDays_51 : decode cX6_thirtyDays 51 = .ok (.iload_n 2, 1) := by decide +kernel
theorem dX6_thirtyDays_52 : decode cX6_thirtyDays 52 = .ok (.bipush 100, 2) := by decide +kernel
theorem dX6_thirtyDays_54 : decode cX6_thirtyDays 54 = .ok (.idiv, 1) := by decide +kernel
theorem dX6_thirtyDays_55 : decode cX6_thirtyDays 55 = .ok (.bipush 100, 2) := by decide +kernel
theorem dX6_thirtyDays_57 : decode cX6_thirtyDays 57 = .ok (.irem, 1) := by decide +kernel
theorem dX6_thirtyDays_58 : decode cX6_thirtyDays 58 = .ok (.iload_n 1, 1) := by decide +kernel
theorem dX6_thirtyDays_59 : decode cX6_thirtyDays 59 = .ok (.bipush 100, 2) := by decide +kernel
theorem dX6_thirtyDays_61 : decode cX6_thirtyDays 61 = .ok (.idiv, 1) := by decide +kernel
theorem dX6_thirtyDays_62 : decode cX6_thirtyDays 62 = .ok (.bipush 100, 2) := by decide +kernel
theorem dX6_thirtyDays_64 : decode cX6_thirtyDays 64 = .ok (.irem, 1) := by decide +kernel
theorem dX6_thirtyDays_65 : decode cX6_thirtyDays 65 = .ok (.isub, 1) := by decide +kernel
theorem dX6_thirtyDays_66 : decode cX6_thirtyDays 66 = .ok (.istore 6, 2) := by decide +kernel
theorem dX6_thirtyDays_68 : decode cX6_thirtyDays 68 = .ok (.sipush 360, 3) := by decide +kernel
theorem dX6_thirtyDays_71 : decode cX6_thirtyDays 71 = .ok (.iload 5, 2) := by decide +kernel
theorem dX6_thirtyDays_73 : decode cX6_thirtyDays 73 = .ok (.imul, 1) := by decide +kernel
theorem dX6_thirtyDays_74 : decode cX6_thirtyDays 74 = .ok (.bipush 30, 2) := by decide +kernel
theorem dX6_thirtyDays_76 : decode cX6_thirtyDays 76 = .ok (.iload 6, 2) := by decide +kernel
theorem dX6_thirtyDays_78 : decode cX6_thirtyDays 78 = .ok (.imul, 1) := by decide +kernel
theorem dX6_thirtyDays_79 : decode cX6_thirtyDays 79 = .ok (.iadd, 1) := by decide +kernel
theorem dX6_thirtyDays_80 : decode cX6_thirtyDays 80 = .ok (.iload 4, 2) := by decide +kernel
theorem dX6_thirtyDays_82 : decode cX6_thirtyDays 82 = .ok (.iadd, 1) := by decide +kernel
theorem dX6_thirtyDays_83 : decode cX6_thirtyDays 83 = .ok (.iload_n 3, 1) := by decide +kernel
theorem dX6_thirtyDays_84 : decode cX6_thirtyDays 84 = .ok (.isub, 1) := by decide +kernel
theorem dX6_thirtyDays_85 : decode cX6_thirtyDays 85 = .ok (.ireturn, 1) := by decide +kernel
theorem dX6_part_0 : decode cX6_part 0 = .ok (.iload_n 1, 1) := by decide +kernel
theorem dX6_part_1 : decode cX6_part 1 = .ok (.ifCond .eq 10, 3) := by decide +kernel
theorem dX6_part_4 : decode cX6_part 4 = .ok (.aload_n 0, 1) := by decide +kernel
theorem dX6_part_5 : decode cX6_part 5 = .ok (.getfield 13, 3) := by decide +kernel
theorem dX6_part_8 : decode cX6_part 8 = .ok (.goto 7, 3) := by decide +kernel
theorem dX6_part_11 : decode cX6_part 11 = .ok (.aload_n 0, 1) := by decide +kernel
theorem dX6_part_12 : decode cX6_part 12 = .ok (.getfield 7, 3) := by decide +kernel
theorem dX6_part_15 : decode cX6_part 15 = .ok (.lreturn, 1) := by decide +kernel
set_option maxRecDepth 20000 in
theorem ggX11_business_X3_isDate : GoodIn wsX11_business wsX3_isDate := goodIn_r _ [7, 8, 9, 10, 11, 6, 12] (by decide +kernel) (by decide +kernel)
set_option maxRecDepth 20000 in
theorem gX11_business_X3_isDate : GoodIn wsX11_business (va_wsS RX11 127 yX3_isDate wsX3_isDate) := goodIn_app (goodIn_of _ (by decide +kernel)) ggX11_business_X3_isDate
set_option maxRecDepth 20000 in
theorem ggX11_business_X11_refuse : GoodIn wsX11_business wsX11_refuse := goodIn_r _ [17, 1, 40, 41, 42, 43, 44, 45, 46, 47, 48, 49, 50, 51, 52, 53, 54] (by decide +kernel) (by decide +kernel)
set_option maxRecDepth 20000 in
theorem gX11_business_X11_refuse : GoodIn wsX11_business (wsV RX11 97 RX11 yX11_refuse wsX11_refuse) := goodIn_app (goodIn_of _ (by decide +kernel)) ggX11_business_X11_refuse
set_option maxRecDepth 20000 in
theorem ggX11_business_X3_dayOf : GoodIn wsX11_business wsX3_dayOf := goodIn_r _ [20, 21] (by decide +kernel) (by decide +kernel)
set_option maxRecDepth 20000 in
theorem gX11_business_X3_dayOf : GoodIn wsX11_business (va_wsS RX11 136 yX3_dayOf wsX3_dayOf) := goodIn_app (goodIn_of _ (by decide +kernel)) ggX11_business_X3_dayOf
set_option maxRecDepth 20000 in
theorem ggX11_business_X5_isBusinessDay : GoodIn wsX11_business wsX5_isBusinessDay := goodIn_r _ [26, 27, 28, 6, 29, 30, 31, 32, 33, 34, 35, 36, 25, 37, 38, 39, 67, 68] (by decide +kernel) (by decide +kernel)
set_option maxRecDepth 20000 in
theorem gX11_business_X5_isBusinessDay : GoodIn wsX11_business (wsV RX11 150 RX5 yX5_isBusinessDay wsX5_isBusinessDay) := goodIn_app (goodIn_of _ (by decide +kernel)) ggX11_business_X5_isBusinessDay
theorem dX11_business_0 : decode cX11_business 0 = .ok (.iload_n 1, 1) := by decide +kernel
theorem dX11_business_1 : decode cX11_business 1 = .ok (.invokestatic 127, 3) := by decide +kernel
theorem dX11_business_4 : decode cX11_business 4 = .ok (.ifCond .ne 9, 3) := by decide +kernel
theorem dX11_business_7 : decode cX11_business 7 = .ok (.aload_n 0, 1) := by decide +kernel
theorem dX11_business_8 : decode cX11_business 8 = .ok (.iconst 2, 1) := by decide +kernel
theorem dX11_business_9 : decode cX11_business 9 = .ok (.invokevirtual 97, 3) := by decide +kernel
theorem dX11_business_12 : decode cX11_business 12 = .ok (.ireturn, 1) := by decide +kernel
theorem dX11_business_13 : decode cX11_business 13 = .ok (.aload_n 0, 1) := by decide +kernel
theorem dX11_business_14 : decode cX11_business 14 = .ok (.iconst 0, 1) := by decide +kernel
theorem dX11_business_15 : decode cX11_business 15 = .ok (.putfield 74, 3) := by decide +kernel
theorem dX11_business_18 : decode cX11_business 18 = .ok (.aload_n 0, 1) := by decide +kernel
theorem dX11_business_19 : decode cX11_business 19 = .ok (.getfield 60, 3) := by decide +kernel
theorem dX11_business_22 : decode cX11_business 22 = .ok (.getfield 146, 3) := by decide +kernel
theorem dX11_business_25 : decode cX11_business 25 = .ok (.iload_n 1, 1) := by decide +kernel
theorem dX11_business_26 : decode cX11_business 26 = .ok (.invokestatic 136, 3) := by decide +kernel
theorem dX11_business_29 : decode cX11_business 29 = .ok (.invokevirtual 150, 3) := by decide +kernel
theorem dX11_business_32 : decode cX11_business 32 = .ok (.ifCond .eq 7, 3) := by decide +kernel
theorem dX11_business_35 : decode cX11_business 35 = .ok (.iconst 1, 1) := by decide +kernel
theorem dX11_business_36 : decode cX11_business 36 = .ok (.goto 4, 3) := by decide +kernel
theorem dX11_business_39 : decode cX11_business 39 = .ok (.iconst 0, 1) := by decide +kernel
theorem dX11_business_40 : decode cX11_business 40 = .ok (.ireturn, 1) := by decide +kernel
set_option maxRecDepth 20000 in
theorem ggX11_businessFrom_X3_isDate : GoodIn wsX11_businessFrom wsX3_isDate := goodIn_r _ [7, 8, 9, 10, 11, 6, 12] (by decide +kernel) (by decide +kernel)
set_option maxRecDepth 20000 in
theorem gX11_businessFrom_X3_isDate : GoodIn wsX11_businessFrom (va_wsS RX11 127 yX3_isDate wsX3_isDate) := goodIn_app (goodIn_of _ (by decide +kernel)) ggX11_businessFrom_X3_isDate
set_option maxRecDepth 20000 in
theorem ggX11_businessFrom_X11_refuse : GoodIn wsX11_businessFrom wsX11_refuse := goodIn_r _ [17, 1, 50, 51, 52, 53, 54, 55, 56, 57, 58, 59, 60, 61, 62, 63, 64] (by decide +kernel) (by decide +kernel)
set_option maxRecDepth 20000 in
theorem gX11_businessFrom_X11_refuse : GoodIn wsX11_businessFrom (wsV RX11 97 RX11 yX11_refuse wsX11_refuse) := goodIn_app (goodIn_of _ (by decide +kernel)) ggX11_businessFrom_X11_refuse
set_option maxRecDepth 20000 in
theorem ggX11_businessFrom_X3_dayOf : GoodIn wsX11_businessFrom wsX3_dayOf := goodIn_r _ [20, 21] (by decide +kernel) (by decide +kernel)
set_option maxRecDepth 20000 in
theorem gX11_businessFrom_X3_dayOf : GoodIn wsX11_businessFrom (va_wsS RX11 136 yX3_dayOf wsX3_dayOf) := goodIn_app (goodIn_of _ (by decide +kernel)) ggX11_businessFrom_X3_dayOf
set_option maxRecDepth 20000 in
theorem ggX11_businessFrom_X5_businessDaysFrom : GoodIn wsX11_businessFrom wsX5_businessDaysFrom := goodIn_r _ [26, 27, 28, 29, 25, 30, 31, 32, 6, 33, 34, 35, 36, 37, 38, 39, 40, 41, 42, 43, 77, 78] (by decide +kernel) (by decide +kernel)
set_option maxRecDepth 20000 in
theorem gX11_businessFrom_X5_businessDaysFrom : GoodIn wsX11_businessFrom (wsV RX11 155 RX5 yX5_businessDaysFrom wsX5_businessDaysFrom) := goodIn_app (goodIn_of _ (by decide +kernel)) ggX11_businessFrom_X5_businessDaysFrom
set_option maxRecDepth 20000 in
theorem ggX11_businessFrom_X3_numberOf : GoodIn wsX11_businessFrom wsX3_numberOf := goodIn_r _ [46, 21, 47, 48, 49] (by decide +kernel) (by decide +kernel)
set_option maxRecDepth 20000 in
theorem gX11_businessFrom_X3_numberOf : GoodIn wsX11_businessFrom (va_wsS RX11 159 yX3_numberOf wsX3_numberOf) := goodIn_app (goodIn_of _ (by decide +kernel)) ggX11_businessFrom_X3_numberOf
theorem dX11_businessFrom_0 : decode cX11_businessFrom 0 = .ok (.iload_n 1, 1) := by decide +kernel
theorem dX11_businessFrom_1 : decode cX11_businessFrom 1 = .ok (.invokestatic 127, 3) := by decide +kernel
theorem dX11_businessFrom_4 : decode cX11_businessFrom 4 = .ok (.ifCond .eq 15, 3) := by decide +kernel
theorem dX11_businessFrom_7 : decode cX11_businessFrom 7 = .ok (.iload_n 2, 1) := by decide +kernel
theorem dX11_businessFrom_8 : decode cX11_businessFrom 8 = .ok (.bipush (-60), 2) := by decide +kernel
theorem dX11_businessFrom_10 : decode cX11_businessFrom 10 = .ok (.if_icmp .lt 9, 3) := by decide +kernel
theorem dX11_businessFrom_13 : decode cX11_businessFrom 13 = .ok (.iload_n 2, 1) := by decide +kernel
theorem dX11_businessFrom_14 : decode cX11_businessFrom 14 = .ok (.bipush 60, 2) := by decide +kernel
theorem dX11_businessFrom_16 : decode cX11_businessFrom 16 = .ok (.if_icmp .le 9, 3) := by decide +kernel
theorem dX11_businessFrom_19 : decode cX11_businessFrom 19 = .ok (.aload_n 0, 1) := by decide +kernel
theorem dX11_businessFrom_20 : decode cX11_businessFrom 20 = .ok (.iconst 2, 1) := by decide +kernel
theorem dX11_businessFrom_21 : decode cX11_businessFrom 21 = .ok (.invokevirtual 97, 3) := by decide +kernel
theorem dX11_businessFrom_24 : decode cX11_businessFrom 24 = .ok (.ireturn, 1) := by decide +kernel
theorem dX11_businessFrom_25 : decode cX11_businessFrom 25 = .ok (.aload_n 0, 1) := by decide +kernel
theorem dX11_businessFrom_26 : decode cX11_businessFrom 26 = .ok (.iconst 0, 1) := by decide +kernel
theorem dX11_businessFrom_27 : decode cX11_businessFrom 27 = .ok (.putfield 74, 3) := by decide +kernel
theorem dX11_businessFrom_30 : decode cX11_businessFrom 30 = .ok (.aload_n 0, 1) := by decide +kernel
theorem dX11_businessFrom_31 : decode cX11_businessFrom 31 = .ok (.getfield 60, 3) := by decide +kernel
theorem dX11_businessFrom_34 : decode cX11_businessFrom 34 = .ok (.getfield 146, 3) := by decide +kernel
theorem dX11_businessFrom_37 : decode cX11_businessFrom 37 = .ok (.iload_n 1, 1) := by decide +kernel
theorem dX11_businessFrom_38 : decode cX11_businessFrom 38 = .ok (.invokestatic 136, 3) := by decide +kernel
theorem dX11_businessFrom_41 : decode cX11_businessFrom 41 = .ok (.iload_n 2, 1) := by decide +kernel
theorem dX11_businessFrom_42 : decode cX11_businessFrom 42 = .ok (.invokevirtual 155, 3) := by decide +kernel
theorem dX11_businessFrom_45 : decode cX11_businessFrom 45 = .ok (.invokestatic 159, 3) := by decide +kernel
theorem dX11_businessFrom_48 : decode cX11_businessFrom 48 = .ok (.ireturn, 1) := by decide +kernel
set_option maxRecDepth 20000 in
theorem ggX11_counted_X11_refuse : GoodIn wsX11_counted wsX11_refuse := goodIn_r _ [7, 1, 54, 55, 56, 57, 58, 59, 60, 61, 62, 63, 64, 65, 66, 67, 68] (by decide +kernel) (by decide +kernel)
set_option maxRecDepth 20000 in
theorem gX11_counted_X11_refuse : GoodIn wsX11_counted (wsV RX11 97 RX11 yX11_refuse wsX11_refuse) := goodIn_app (goodIn_of _ (by decide +kernel)) ggX11_counted_X11_refuse
set_option maxRecDepth 20000 in
theorem ggX11_counted_X3_isDate : GoodIn wsX11_counted wsX3_isDate := goodIn_r _ [11, 12, 13, 14, 15, 10, 16] (by decide +kernel) (by decide +kernel)
set_option maxRecDepth 20000 in
theorem gX11_counted_X3_isDate : GoodIn wsX11_counted (va_wsS RX11 127 yX3_isDate wsX3_isDate) := goodIn_app (goodIn_of _ (by decide +kernel)) ggX11_counted_X3_isDate
set_option maxRecDepth 20000 in
theorem ggX11_counted_X3_dayOf : GoodIn wsX11_counted wsX3_dayOf := goodIn_r _ [19, 20] (by decide +kernel) (by decide +kernel)
set_option maxRecDepth 20000 in
theorem gX11_counted_X3_dayOf : GoodIn wsX11_counted (va_wsS RX11 136 yX3_dayOf wsX3_dayOf) := goodIn_app (goodIn_of _ (by decide +kernel)) ggX11_counted_X3_dayOf
set_option maxRecDepth 20000 in
theorem ggX11_counted_X6_setCounted : GoodIn wsX11_counted wsX6_setCounted := goodIn_r _ [25, 26, 27, 28, 29, 30, 24, 31, 32, 33, 34, 35, 36, 37, 38, 10, 39, 20, 40, 41, 42, 43, 44, 45, 46, 47, 48, 49, 69, 70] (by decide +kernel) (by decide +kernel)
set_option maxRecDepth 20000 in
theorem gX11_counted_X6_setCounted : GoodIn wsX11_counted (wsV RX11 164 RX6 yX6_setCounted wsX6_setCounted) := goodIn_app (goodIn_of _ (by decide +kernel)) ggX11_counted_X6_setCounted
set_option maxRecDepth 20000 in
theorem ggX11_counted_X6_part : GoodIn wsX11_counted wsX6_part := goodIn_r _ [53, 33, 32, 69, 70] (by decide +kernel) (by decide +kernel)
set_option maxRecDepth 20000 in
theorem gX11_counted_X6_part : GoodIn wsX11_counted (wsV RX11 168 RX6 yX6_part wsX6_part) := goodIn_app (goodIn_of _ (by decide +kernel)) ggX11_counted_X6_part
theorem dX11_counted_0 : decode cX11_counted 0 = .ok (.iload_n 1, 1) := by decide +kernel
theorem dX11_counted_1 : decode cX11_counted 1 = .ok (.ifCond .lt 8, 3) := by decide +kernel
theorem dX11_counted_4 : decode cX11_counted 4 = .ok (.iload_n 1, 1) := by decide +kernel
theorem dX11_counted_5 : decode cX11_counted 5 = .ok (.iconst 3, 1) := by decide +kernel
theorem dX11_counted_6 : decode cX11_counted 6 = .ok (.if_icmp .le 10, 3) := by decide +kernel
theorem dX11_counted_9 : decode cX11_counted 9 = .ok (.aload_n 0, 1) := by decide +kernel
theorem dX11_counted_10 : decode cX11_counted 10 = .ok (.iconst 1, 1) := by decide +kernel
theorem dX11_counted_11 : decode cX11_counted 11 = .ok (.invokevirtual 97, 3) := by decide +kernel
theorem dX11_counted_14 : decode cX11_counted 14 = .ok (.i2l, 1) := by decide +kernel
theorem dX11_counted_15 : decode cX11_counted 15 = .ok (.lreturn, 1) := by decide +kernel
theorem dX11_counted_16 : decode cX11_counted 16 = .ok (.iload_n 2, 1) := by decide +kernel
theorem dX11_counted_17 : decode cX11_counted 17 = .ok (.invokestatic 127, 3) := by decide +kernel
theorem dX11_counted_20 : decode cX11_counted 20 = .ok (.ifCond .eq 15, 3) := by decide +kernel
theorem dX11_counted_23 : decode cX11_counted 23 = .ok (.iload_n 3, 1) := by decide +kernel
theorem dX11_counted_24 : decode cX11_counted 24 = .ok (.invokestatic 127, 3) := by decide +kernel
theorem dX11_counted_27 : decode cX11_counted 27 = .ok (.ifCond .eq 8, 3) := by decide +kernel
theorem dX11_counted_30 : decode cX11_counted 30 = .ok (.iload_n 3, 1) := by decide +kernel
theorem dX11_counted_31 : decode cX11_counted 31 = .ok (.iload_n 2, 1) := by decide +kernel
theorem dX11_counted_32 : decode cX11_counted 32 = .ok (.if_icmp .ge 10, 3) := by decide +kernel
theorem dX11_counted_35 : decode cX11_counted 35 = .ok (.aload_n 0, 1) := by decide +kernel
theorem dX11_counted_36 : decode cX11_counted 36 = .ok (.iconst 2, 1) := by decide +kernel
theorem dX11_counted_37 : decode cX11_counted 37 = .ok (.invokevirtual 97, 3) := by decide +kernel
theorem dX11_counted_40 : decode cX11_counted 40 = .ok (.i2l, 1) := by decide +kernel
theorem dX11_counted_41 : decode cX11_counted 41 = .ok (.lreturn, 1) := by decide +kernel
theorem dX11_counted_42 : decode cX11_counted 42 = .ok (.aload_n 0, 1) := by decide +kernel
theorem dX11_counted_43 : decode cX11_counted 43 = .ok (.iconst 0, 1) := by decide +kernel
theorem dX11_counted_44 : decode cX11_counted 44 = .ok (.putfield 74, 3) := by decide +kernel
theorem dX11_counted_47 : decode cX11_counted 47 = .ok (.aload_n 0, 1) := by decide +kernel
theorem dX11_counted_48 : decode cX11_counted 48 = .ok (.getfield 33, 3) := by decide +kernel
theorem dX11_counted_51 : decode cX11_counted 51 = .ok (.iload_n 1, 1) := by decide +kernel
theorem dX11_counted_52 : decode cX11_counted 52 = .ok (.iload_n 2, 1) := by decide +kernel
theorem dX11_counted_53 : decode cX11_counted 53 = .ok (.invokestatic 136, 3) := by decide +kernel
theorem dX11_counted_56 : decode cX11_counted 56 = .ok (.iload_n 3, 1) := by decide +kernel
theorem dX11_counted_57 : decode cX11_counted 57 = .ok (.invokestatic 136, 3) := by decide +kernel
theorem dX11_counted_60 : decode cX11_counted 60 = .ok (.invokevirtual 164, 3) := by decide +kernel
theorem dX11_counted_63 : decode cX11_counted 63 = .ok (.aload_n 0, 1) := by decide +kernel
theorem dX11_counted_64 : decode cX11_counted 64 = .ok (.getfield 33, 3) := by decide +kernel
theorem dX11_counted_67 : decode cX11_counted 67 = .ok (.iload 4, 2) := by decide +kernel
theorem dX11_counted_69 : decode cX11_counted 69 = .ok (.invokevirtual 168, 3) := by decide +kernel
theorem dX11_counted_72 : decode cX11_counted 72 = .ok (.lreturn, 1) := by decide +kernel
set_option maxRecDepth 20000 in
theorem ggX12_part_X12_goodLong : GoodIn wsX12_part wsX12_goodLong := goodIn_r _ [7, 8, 9, 10, 6, 11, 12, 13, 14, 15, 16, 17, 18, 19, 20, 21, 22, 23, 24, 25, 26, 27, 28, 29, 30, 31, 32, 33, 34, 35, 36, 37, 38, 39, 40, 41, 42, 43, 44, 45, 46, 47, 48, 49, 50, 51, 52, 53, 54, 55, 56, 57, 58, 59, 60, 61, 62, 63, 64, 65, 66, 67, 68, 69, 70, 71, 72, 73, 74, 75, 76, 77, 78, 79, 80, 81, 82] (by decide +kernel) (by decide +kernel)
set_option maxRecDepth 20000 in
theorem gX12_part_X12_goodLong : GoodIn wsX12_part (wsV RX12 126 RX12 yX12_goodLong wsX12_goodLong) := goodIn_app (goodIn_of _ (by decide +kernel)) ggX12_part_X12_goodLong
theorem dX12_part_0 : decode cX12_part 0 = .ok (.aload_n 0, 1) := by decide +kernel
theorem dX12_part_1 : decode cX12_part 1 = .ok (.iload_n 1, 1) := by decide +kernel
theorem dX12_part_2 : decode cX12_part 2 = .ok (.ifCond .eq 10, 3) := by decide +kernel
theorem dX12_part_5 : decode cX12_part 5 = .ok (.aload_n 0, 1) := by decide +kernel
theorem dX12_part_6 : decode cX12_part 6 = .ok (.getfield 165, 3) := by decide +kernel
theorem dX12_part_9 : decode cX12_part 9 = .ok (.goto 7, 3) := by decide +kernel
theorem dX12_part_12 : decode cX12_part 12 = .ok (.aload_n 0, 1) := by decide +kernel
theorem dX12_part_13 : decode cX12_part 13 = .ok (.getfield 161, 3) := by decide +kernel
theorem dX12_part_16 : decode cX12_part 16 = .ok (.invokevirtual 126, 3) := by decide +kernel
theorem dX12_part_19 : decode cX12_part 19 = .ok (.lreturn, 1) := by decide +kernel
set_option maxRecDepth 20000 in
theorem ggX12_countsPlain_X12_dayOf : GoodIn wsX12_countsPlain wsX12_dayOf := goodIn_r _ [6, 7, 8, 5, 9] (by decide +kernel) (by decide +kernel)
set_option maxRecDepth 20000 in
theorem gX12_countsPlain_X12_dayOf : GoodIn wsX12_countsPlain (va_wsS RX12 143 yX12_dayOf wsX12_dayOf) := goodIn_app (goodIn_of _ (by decide +kernel)) ggX12_countsPlain_X12_dayOf
set_option maxRecDepth 20000 in
theorem ggX12_countsPlain_X12_sets : GoodIn wsX12_countsPlain wsX12_sets := goodIn_r _ [13, 14, 15, 16, 17, 5, 18, 22, 23, 24, 25, 26, 27, 28, 29, 30, 31, 32, 33, 34, 35, 36, 37, 38, 39, 40, 41, 42, 43, 44, 45, 46, 47, 48, 49, 50, 51, 52, 53, 54, 55, 56, 57, 58, 59, 60, 61, 62, 63, 64, 65, 66, 67, 68, 69, 70, 71, 72, 73, 74, 75, 76, 77, 78, 79, 80, 81, 82, 83, 84, 85, 86, 87, 88, 89, 90] (by decide +kernel) (by decide +kernel)
set_option maxRecDepth 20000 in
theorem gX12_countsPlain_X12_sets : GoodIn wsX12_countsPlain (wsV RX12 168 RX12 yX12_sets wsX12_sets) := goodIn_app (goodIn_of _ (by decide +kernel)) ggX12_countsPlain_X12_sets
set_option maxRecDepth 20000 in
theorem ggX12_countsPlain_X12_thirties : GoodIn wsX12_countsPlain wsX12_thirties := goodIn_r _ [21] (by decide +kernel) (by decide +kernel)
set_option maxRecDepth 20000 in
theorem gX12_countsPlain_X12_thirties : GoodIn wsX12_countsPlain (va_wsS RX12 176 yX12_thirties wsX12_thirties) := goodIn_app (goodIn_of _ (by decide +kernel)) ggX12_countsPlain_X12_thirties
theorem dX12_countsPlain_0 : decode cX12_countsPlain 0 = .ok (.iload_n 3, 1) := by decide +kernel
theorem dX12_countsPlain_1 : decode cX12_countsPlain 1 = .ok (.invokestatic 143, 3) := by decide +kernel
theorem dX12_countsPlain_4 : decode cX12_countsPlain 4 = .ok (.iload_n 2, 1) := by decide +kernel
theorem dX12_countsPlain_5 : decode cX12_countsPlain 5 = .ok (.invokestatic 143, 3) := by decide +kernel
theorem dX12_countsPlain_8 : decode cX12_countsPlain 8 = .ok (.isub, 1) := by decide +kernel
theorem dX12_countsPlain_9 : decode cX12_countsPlain 9 = .ok (.istore 4, 2) := by decide +kernel
theorem dX12_countsPlain_11 : decode cX12_countsPlain 11 = .ok (.iload_n 1, 1) := by decide +kernel
theorem dX12_countsPlain_12 : decode cX12_countsPlain 12 = .ok (.iconst 2, 1) := by decide +kernel
theorem dX12_countsPlain_13 : decode cX12_countsPlain 13 = .ok (.if_icmp .ne 16, 3) := by decide +kernel
theorem dX12_countsPlain_16 : decode cX12_countsPlain 16 = .ok (.aload_n 0, 1) := by decide +kernel
theorem dX12_countsPlain_17 : decode cX12_countsPlain 17 = .ok (.iload 4, 2) := by decide +kernel
theorem dX12_countsPlain_19 : decode cX12_countsPlain 19 = .ok (.i2l, 1) := by decide +kernel
theorem dX12_countsPlain_20 : decode cX12_countsPlain 20 = .ok (.ldc2_w 172, 3) := by decide +kernel
theorem dX12_countsPlain_23 : decode cX12_countsPlain 23 = .ok (.invokevirtual 168, 3) := by decide +kernel
theorem dX12_countsPlain_26 : decode cX12_countsPlain 26 = .ok (.goto 44, 3) := by decide +kernel
theorem dX12_countsPlain_29 : decode cX12_countsPlain 29 = .ok (.iload_n 1, 1) := by decide +kernel
theorem dX12_countsPlain_30 : decode cX12_countsPlain 30 = .ok (.iconst 3, 1) := by decide +kernel
theorem dX12_countsPlain_31 : decode cX12_countsPlain 31 = .ok (.if_icmp .ne 16, 3) := by decide +kernel
theorem dX12_countsPlain_34 : decode cX12_countsPlain 34 = .ok (.aload_n 0, 1) := by decide +kernel
theorem dX12_countsPlain_35 : decode cX12_countsPlain 35 = .ok (.iload 4, 2) := by decide +kernel
theorem dX12_countsPlain_37 : decode cX12_countsPlain 37 = .ok (.i2l, 1) := by decide +kernel
theorem dX12_countsPlain_38 : decode cX12_countsPlain 38 = .ok (.ldc2_w 174, 3) := by decide +kernel
theorem dX12_countsPlain_41 : decode cX12_countsPlain 41 = .ok (.invokevirtual 168, 3) := by decide +kernel
theorem dX12_countsPlain_44 : decode cX12_countsPlain 44 = .ok (.goto 26, 3) := by decide +kernel
theorem dX12_countsPlain_47 : decode cX12_countsPlain 47 = .ok (.aload_n 0, 1) := by decide +kernel
theorem dX12_countsPlain_48 : decode cX12_countsPlain 48 = .ok (.iload_n 2, 1) := by decide +kernel
theorem dX12_countsPlain_49 : decode cX12_countsPlain 49 = .ok (.iload_n 3, 1) := by decide +kernel
theorem dX12_countsPlain_50 : decode cX12_countsPlain 50 = .ok (.iload_n 1, 1) := by decide +kernel
theorem dX12_countsPlain_51 : decode cX12_countsPlain 51 = .ok (.iconst 1, 1) := by decide +kernel
theorem dX12_countsPlain_52 : decode cX12_countsPlain 52 = .ok (.if_icmp .ne 7, 3) := by decide +kernel
theorem dX12_countsPlain_55 : decode cX12_countsPlain 55 = .ok (.iconst 1, 1) := by decide +kernel
theorem dX12_countsPlain_56 : decode cX12_countsPlain 56 = .ok (.goto 4, 3) := by decide +kernel
theorem dX12_countsPlain_59 : decode cX12_countsPlain 59 = .ok (.iconst 0, 1) := by decide +kernel
theorem dX12_countsPlain_60 : decode cX12_countsPlain 60 = .ok (.invokestatic 176, 3) := by decide +kernel
theorem dX12_countsPlain_63 : decode cX12_countsPlain 63 = .ok (.i2l, 1) := by decide +kernel
theorem dX12_countsPlain_64 : decode cX12_countsPlain 64 = .ok (.ldc2_w 172, 3) := by decide +kernel
theorem dX12_countsPlain_67 : decode cX12_countsPlain 67 = .ok (.invokevirtual 168, 3) := by decide +kernel
theorem dX12_countsPlain_70 : decode cX12_countsPlain 70 = .ok (.return_, 1) := by decide +kernel
set_option maxRecDepth 20000 in
theorem ggX12_business_X12_isDate : GoodIn wsX12_business wsX12_isDate := goodIn_r _ [5, 6, 7, 8, 9, 4, 10, 11, 12, 13] (by decide +kernel) (by decide +kernel)
set_option maxRecDepth 20000 in
theorem gX12_business_X12_isDate : GoodIn wsX12_business (va_wsS RX12 246 yX12_isDate wsX12_isDate) := goodIn_app (goodIn_of _ (by decide +kernel)) ggX12_business_X12_isDate
set_option maxRecDepth 20000 in
theorem ggX12_business_X12_refused : GoodIn wsX12_business wsX12_refused := goodIn_r _ [17, 18, 19, 40, 41, 42, 43, 44, 45, 46, 47, 48, 49, 50, 51, 52, 53, 54, 55, 56, 57, 58, 59, 60, 61, 62, 63, 64, 65, 66, 67, 68, 69, 70, 71, 72, 73, 74, 75, 76, 77, 78, 79, 80, 81, 82, 83, 84, 85, 86, 87, 88, 89, 90, 91, 92, 93, 94, 95, 96, 97, 98, 99, 100, 101, 102, 103, 104, 105, 106, 107, 108] (by decide +kernel) (by decide +kernel)
set_option maxRecDepth 20000 in
theorem gX12_business_X12_refused : GoodIn wsX12_business (wsV RX12 113 RX12 yX12_refused wsX12_refused) := goodIn_app (goodIn_of _ (by decide +kernel)) ggX12_business_X12_refused
set_option maxRecDepth 20000 in
theorem ggX12_business_X12_dayOf : GoodIn wsX12_business wsX12_dayOf := goodIn_r _ [22, 23, 24, 4, 25] (by decide +kernel) (by decide +kernel)
set_option maxRecDepth 20000 in
theorem gX12_business_X12_dayOf : GoodIn wsX12_business (va_wsS RX12 143 yX12_dayOf wsX12_dayOf) := goodIn_app (goodIn_of _ (by decide +kernel)) ggX12_business_X12_dayOf
set_option maxRecDepth 20000 in
theorem ggX12_business_X12_isBusiness : GoodIn wsX12_business wsX12_isBusiness := goodIn_r _ [29, 30, 31, 32, 33, 4, 34, 6, 35, 20, 21, 22, 23, 24, 25, 40, 41, 42, 43, 44, 45, 46, 47, 48, 49, 50, 51, 52, 53, 54, 55, 56, 57, 58, 59, 60, 61, 62, 63, 64, 65, 66, 67, 68, 69, 70, 71, 72, 73, 74, 75, 76, 77, 78, 79, 80, 81, 82, 83, 84, 85, 86, 87, 88, 89, 90, 91, 92, 93, 94, 95, 96, 97, 98, 99, 100, 101, 102, 103, 104, 105, 106, 107, 108] (by decide +kernel) (by decide +kernel)
set_option maxRecDepth 20000 in
theorem gX12_business_X12_isBusiness : GoodIn wsX12_business (wsV RX12 153 RX12 yX12_isBusiness wsX12_isBusiness) := goodIn_app (goodIn_of _ (by decide +kernel)) ggX12_business_X12_isBusiness
set_option maxRecDepth 20000 in
theorem ggX12_business_X12_good : GoodIn wsX12_business wsX12_good := goodIn_r _ [39, 18, 19, 40, 41, 42, 43, 44, 45, 46, 47, 48, 49, 50, 51, 52, 53, 54, 55, 56, 57, 58, 59, 60, 61, 62, 63, 64, 65, 66, 67, 68, 69, 70, 71, 72, 73, 74, 75, 76, 77, 78, 79, 80, 81, 82, 83, 84, 85, 86, 87, 88, 89, 90, 91, 92, 93, 94, 95, 96, 97, 98, 99, 100, 101, 102, 103, 104, 105, 106, 107, 108] (by decide +kernel) (by decide +kernel)
set_option maxRecDepth 20000 in
theorem gX12_business_X12_good : GoodIn wsX12_business (wsV RX12 117 RX12 yX12_good wsX12_good) := goodIn_app (goodIn_of _ (by decide +kernel)) ggX12_business_X12_good
theorem dX12_business_0 : decode cX12_business 0 = .ok (.aload_n 0, 1) := by decide +kernel
theorem dX12_business_1 : decode cX12_business 1 = .ok (.iconst 0, 1) := by decide +kernel
theorem dX12_business_2 : decode cX12_business 2 = .ok (.putfield 107, 3) := by decide +kernel
theorem dX12_business_5 : decode cX12_business 5 = .ok (.iload_n 1, 1) := by decide +kernel
theorem dX12_business_6 : decode cX12_business 6 = .ok (.invokestatic 246, 3) := by decide +kernel
theorem dX12_business_9 : decode cX12_business 9 = .ok (.ifCond .ne 9, 3) := by decide +kernel
theorem dX12_business_12 : decode cX12_business 12 = .ok (.aload_n 0, 1) := by decide +kernel
theorem dX12_business_13 : decode cX12_business 13 = .ok (.iconst 2, 1) := by decide +kernel
theorem dX12_business_14 : decode cX12_business 14 = .ok (.invokevirtual 113, 3) := by decide +kernel
theorem dX12_business_17 : decode cX12_business 17 = .ok (.ireturn, 1) := by decide +kernel
theorem dX12_business_18 : decode cX12_business 18 = .ok (.aload_n 0, 1) := by decide +kernel
theorem dX12_business_19 : decode cX12_business 19 = .ok (.aload_n 0, 1) := by decide +kernel
theorem dX12_business_20 : decode cX12_business 20 = .ok (.iload_n 1, 1) := by decide +kernel
theorem dX12_business_21 : decode cX12_business 21 = .ok (.invokestatic 143, 3) := by decide +kernel
theorem dX12_business_24 : decode cX12_business 24 = .ok (.invokevirtual 153, 3) := by decide +kernel
theorem dX12_business_27 : decode cX12_business 27 = .ok (.ifCond .eq 7, 3) := by decide +kernel
theorem dX12_business_30 : decode cX12_business 30 = .ok (.iconst 1, 1) := by decide +kernel
theorem dX12_business_31 : decode cX12_business 31 = .ok (.goto 4, 3) := by decide +kernel
theorem dX12_business_34 : decode cX12_business 34 = .ok (.iconst 0, 1) := by decide +kernel
theorem dX12_business_35 : decode cX12_business 35 = .ok (.invokevirtual 117, 3) := by decide +kernel
theorem dX12_business_38 : decode cX12_business 38 = .ok (.ireturn, 1) := by decide +kernel
set_option maxRecDepth 20000 in
theorem ggX12_businessFrom_X12_isDate : GoodIn wsX12_businessFrom wsX12_isDate := goodIn_r _ [5, 6, 7, 8, 9, 4, 10, 11, 12, 13] (by decide +kernel) (by decide +kernel)
set_option maxRecDepth 20000 in
theorem gX12_businessFrom_X12_isDate : GoodIn wsX12_businessFrom (va_wsS RX12 246 yX12_isDate wsX12_isDate) := goodIn_app (goodIn_of _ (by decide +kernel)) ggX12_businessFrom_X12_isDate
set_option maxRecDepth 20000 in
theorem ggX12_businessFrom_X12_in : GoodIn wsX12_businessFrom wsX12_in := goodIn_r _ [10] (by decide +kernel) (by decide +kernel)
set_option maxRecDepth 20000 in
theorem gX12_businessFrom_X12_in : GoodIn wsX12_businessFrom (va_wsS RX12 132 yX12_in wsX12_in) := goodIn_app (goodIn_of _ (by decide +kernel)) ggX12_businessFrom_X12_in
set_option maxRecDepth 20000 in
theorem ggX12_businessFrom_X12_refused : GoodIn wsX12_businessFrom wsX12_refused := goodIn_r _ [17, 18, 19, 47, 48, 49, 50, 51, 52, 53, 54, 55, 56, 57, 58, 59, 60, 61, 62, 63, 64, 65, 66, 67, 68, 69, 70, 71, 72, 73, 74, 75, 76, 77, 78, 79, 80, 81, 82, 83, 84, 85, 86, 87, 88, 89, 90, 91, 92, 93, 94, 95, 96, 97, 98, 99, 100, 101, 102, 103, 104, 105, 106, 107, 108, 109, 110, 111, 112, 113, 114, 115] (by decide +kernel) (by decide +kernel)
set_option maxRecDepth 20000 in
theorem gX12_businessFrom_X12_refused : GoodIn wsX12_businessFrom (wsV RX12 113 RX12 yX12_refused wsX12_refused) := goodIn_app (goodIn_of _ (by decide +kernel)) ggX12_businessFrom_X12_refused
set_option maxRecDepth 20000 in
theorem ggX12_businessFrom_X12_dayOf : GoodIn wsX12_businessFrom wsX12_dayOf := goodIn_r _ [22, 23, 24, 4, 25] (by decide +kernel) (by decide +kernel)
set_option maxRecDepth 20000 in
theorem gX12_businessFrom_X12_dayOf : GoodIn wsX12_businessFrom (va_wsS RX12 143 yX12_dayOf wsX12_dayOf) := goodIn_app (goodIn_of _ (by decide +kernel)) ggX12_businessFrom_X12_dayOf
set_option maxRecDepth 20000 in
theorem ggX12_businessFrom_X12_businessAfter : GoodIn wsX12_businessFrom wsX12_businessAfter := goodIn_r _ [29, 30, 31, 32, 4, 33, 34, 35, 36, 37, 38, 6, 39, 20, 21, 22, 23, 24, 25, 47, 48, 49, 50, 51, 52, 53, 54, 55, 56, 57, 58, 59, 60, 61, 62, 63, 64, 65, 66, 67, 68, 69, 70, 71, 72, 73, 74, 75, 76, 77, 78, 79, 80, 81, 82, 83, 84, 85, 86, 87, 88, 89, 90, 91, 92, 93, 94, 95, 96, 97, 98, 99, 100, 101, 102, 103, 104, 105, 106, 107, 108, 109, 110, 111, 112, 113, 114, 115] (by decide +kernel) (by decide +kernel)
set_option maxRecDepth 20000 in
theorem gX12_businessFrom_X12_businessAfter : GoodIn wsX12_businessFrom (wsV RX12 394 RX12 yX12_businessAfter wsX12_businessAfter) := goodIn_app (goodIn_of _ (by decide +kernel)) ggX12_businessFrom_X12_businessAfter
set_option maxRecDepth 20000 in
theorem ggX12_businessFrom_X12_dateOf : GoodIn wsX12_businessFrom wsX12_dateOf := goodIn_r _ [42, 23, 24, 4, 25] (by decide +kernel) (by decide +kernel)
set_option maxRecDepth 20000 in
theorem gX12_businessFrom_X12_dateOf : GoodIn wsX12_businessFrom (va_wsS RX12 425 yX12_dateOf wsX12_dateOf) := goodIn_app (goodIn_of _ (by decide +kernel)) ggX12_businessFrom_X12_dateOf
set_option maxRecDepth 20000 in
theorem ggX12_businessFrom_X12_good : GoodIn wsX12_businessFrom wsX12_good := goodIn_r _ [46, 18, 19, 47, 48, 49, 50, 51, 52, 53, 54, 55, 56, 57, 58, 59, 60, 61, 62, 63, 64, 65, 66, 67, 68, 69, 70, 71, 72, 73, 74, 75, 76, 77, 78, 79, 80, 81, 82, 83, 84, 85, 86, 87, 88, 89, 90, 91, 92, 93, 94, 95, 96, 97, 98, 99, 100, 101, 102, 103, 104, 105, 106, 107, 108, 109, 110, 111, 112, 113, 114, 115] (by decide +kernel) (by decide +kernel)
set_option maxRecDepth 20000 in
theorem gX12_businessFrom_X12_good : GoodIn wsX12_businessFrom (wsV RX12 117 RX12 yX12_good wsX12_good) := goodIn_app (goodIn_of _ (by decide +kernel)) ggX12_businessFrom_X12_good
theorem dX12_businessFrom_0 : decode cX12_businessFrom 0 = .ok (.aload_n 0, 1) := by decide +kernel
theorem dX12_businessFrom_1 : decode cX12_businessFrom 1 = .ok (.iconst 0, 1) := by decide +kernel
theorem dX12_businessFrom_2 : decode cX12_businessFrom 2 = .ok (.putfield 107, 3) := by decide +kernel
theorem dX12_businessFrom_5 : decode cX12_businessFrom 5 = .ok (.iload_n 1, 1) := by decide +kernel
theorem dX12_businessFrom_6 : decode cX12_businessFrom 6 = .ok (.invokestatic 246, 3) := by decide +kernel
theorem dX12_businessFrom_9 : decode cX12_businessFrom 9 = .ok (.ifCond .eq 14, 3) := by decide +kernel
theorem dX12_businessFrom_12 : decode cX12_businessFrom 12 = .ok (.iload_n 2, 1) := by decide +kernel
theorem dX12_businessFrom_13 : decode cX12_businessFrom 13 = .ok (.bipush (-60), 2) := by decide +kernel
theorem dX12_businessFrom_15 : decode cX12_businessFrom 15 = .ok (.bipush 60, 2) := by decide +kernel
theorem dX12_businessFrom_17 : decode cX12_businessFrom 17 = .ok (.invokestatic 132, 3) := by decide +kernel
theorem dX12_businessFrom_20 : decode cX12_businessFrom 20 = .ok (.ifCond .ne 9, 3) := by decide +kernel
theorem dX12_businessFrom_23 : decode cX12_businessFrom 23 = .ok (.aload_n 0, 1) := by decide +kernel
theorem dX12_businessFrom_24 : decode cX12_businessFrom 24 = .ok (.iconst 2, 1) := by decide +kernel
theorem dX12_businessFrom_25 : decode cX12_businessFrom 25 = .ok (.invokevirtual 113, 3) := by decide +kernel
theorem dX12_businessFrom_28 : decode cX12_businessFrom 28 = .ok (.ireturn, 1) := by decide +kernel
theorem dX12_businessFrom_29 : decode cX12_businessFrom 29 = .ok (.aload_n 0, 1) := by decide +kernel
theorem dX12_businessFrom_30 : decode cX12_businessFrom 30 = .ok (.aload_n 0, 1) := by decide +kernel
theorem dX12_businessFrom_31 : decode cX12_businessFrom 31 = .ok (.iload_n 1, 1) := by decide +kernel
theorem dX12_businessFrom_32 : decode cX12_businessFrom 32 = .ok (.invokestatic 143, 3) := by decide +kernel
theorem dX12_businessFrom_35 : decode cX12_businessFrom 35 = .ok (.iload_n 2, 1) := by decide +kernel
theorem dX12_businessFrom_36 : decode cX12_businessFrom 36 = .ok (.invokevirtual 394, 3) := by decide +kernel
theorem dX12_businessFrom_39 : decode cX12_businessFrom 39 = .ok (.invokestatic 425, 3) := by decide +kernel
theorem dX12_businessFrom_42 : decode cX12_businessFrom 42 = .ok (.invokevirtual 117, 3) := by decide +kernel
theorem dX12_businessFrom_45 : decode cX12_businessFrom 45 = .ok (.ireturn, 1) := by decide +kernel
set_option maxRecDepth 20000 in
theorem ggX12_counted_X12_in : GoodIn wsX12_counted wsX12_in := goodIn_r _ [6] (by decide +kernel) (by decide +kernel)
set_option maxRecDepth 20000 in
theorem gX12_counted_X12_in : GoodIn wsX12_counted (va_wsS RX12 132 yX12_in wsX12_in) := goodIn_app (goodIn_of _ (by decide +kernel)) ggX12_counted_X12_in
set_option maxRecDepth 20000 in
theorem ggX12_counted_X12_refusedLong : GoodIn wsX12_counted wsX12_refusedLong := goodIn_r _ [10, 11, 12, 13, 5, 14, 15, 16, 61, 62, 63, 64, 65, 66, 67, 68, 69, 70, 71, 72, 73, 74, 75, 76, 77, 78, 79, 80, 81, 82, 83, 84, 85, 86, 87, 88, 89, 90, 91, 92, 93, 94, 95, 96, 97, 98, 99, 100, 101, 102, 103, 104, 105, 106, 107, 108, 109, 110, 111, 112, 113, 114, 115, 116, 117, 118, 119, 120, 121, 122, 123, 124, 125, 126, 127, 128, 129] (by decide +kernel) (by decide +kernel)
set_option maxRecDepth 20000 in
theorem gX12_counted_X12_refusedLong : GoodIn wsX12_counted (wsV RX12 430 RX12 yX12_refusedLong wsX12_refusedLong) := goodIn_app (goodIn_of _ (by decide +kernel)) ggX12_counted_X12_refusedLong
set_option maxRecDepth 20000 in
theorem ggX12_counted_X12_isDate : GoodIn wsX12_counted wsX12_isDate := goodIn_r _ [19, 20, 21, 3, 4, 5, 6, 22, 23, 24] (by decide +kernel) (by decide +kernel)
set_option maxRecDepth 20000 in
theorem gX12_counted_X12_isDate : GoodIn wsX12_counted (va_wsS RX12 246 yX12_isDate wsX12_isDate) := goodIn_app (goodIn_of _ (by decide +kernel)) ggX12_counted_X12_isDate
set_option maxRecDepth 20000 in
theorem ggX12_counted_X12_countsPlain : GoodIn wsX12_counted wsX12_countsPlain := goodIn_r _ [28, 29, 30, 31, 32, 5, 33, 34, 35, 36, 37, 38, 39, 40, 41, 42, 43, 44, 45, 46, 47, 48, 61, 62, 63, 64, 65, 66, 67, 68, 69, 70, 71, 72, 73, 74, 75, 76, 77, 78, 79, 80, 81, 82, 83, 84, 85, 86, 87, 88, 89, 90, 91, 92, 93, 94, 95, 96, 97, 98, 99, 100, 101, 102, 103, 104, 105, 106, 107, 108, 109, 110, 111, 112, 113, 114, 115, 116, 117, 118, 119, 120, 121, 122, 123, 124, 125, 126, 127, 128, 129] (by decide +kernel) (by decide +kernel)
set_option maxRecDepth 20000 in
theorem gX12_counted_X12_countsPlain : GoodIn wsX12_counted (wsV RX12 413 RX12 yX12_countsPlain wsX12_countsPlain) := goodIn_app (goodIn_of _ (by decide +kernel)) ggX12_counted_X12_countsPlain
set_option maxRecDepth 20000 in
theorem ggX12_counted_X12_part : GoodIn wsX12_counted wsX12_part := goodIn_r _ [52, 42, 41, 53, 54, 55, 5, 56, 57, 58, 59, 60, 15, 16, 61, 62, 63, 64, 65, 66, 67, 68, 69, 70, 71, 72, 73, 74, 75, 76, 77, 78, 79, 80, 81, 82, 83, 84, 85, 86, 87, 88, 89, 90, 91, 92, 93, 94, 95, 96, 97, 98, 99, 100, 101, 102, 103, 104, 105, 106, 107, 108, 109, 110, 111, 112, 113, 114, 115, 116, 117, 118, 119, 120, 121, 122, 123, 124, 125, 126, 127, 128, 129] (by decide +kernel) (by decide +kernel)
set_option maxRecDepth 20000 in
theorem gX12_counted_X12_part : GoodIn wsX12_counted (wsV RX12 434 RX12 yX12_part wsX12_part) := goodIn_app (goodIn_of _ (by decide +kernel)) ggX12_counted_X12_part
theorem dX12_counted_0 : decode cX12_counted 0 = .ok (.aload_n 0, 1) := by decide +kernel
theorem dX12_counted_1 : decode cX12_counted 1 = .ok (.iconst 0, 1) := by decide +kernel
theorem dX12_counted_2 : decode cX12_counted 2 = .ok (.putfield 107, 3) := by decide +kernel
theorem dX12_counted_5 : decode cX12_counted 5 = .ok (.iload_n 1, 1) := by decide +kernel
theorem dX12_counted_6 : decode cX12_counted 6 = .ok (.iconst 0, 1) := by decide +kernel
theorem dX12_counted_7 : decode cX12_counted 7 = .ok (.iconst 3, 1) := by decide +kernel
theorem dX12_counted_8 : decode cX12_counted 8 = .ok (.invokestatic 132, 3) := by decide +kernel
theorem dX12_counted_11 : decode cX12_counted 11 = .ok (.ifCond .ne 12, 3) := by decide +kernel
theorem dX12_counted_14 : decode cX12_counted 14 = .ok (.aload_n 0, 1) := by decide +kernel
theorem dX12_counted_15 : decode cX12_counted 15 = .ok (.iconst 1, 1) := by decide +kernel
theorem dX12_counted_16 : decode cX12_counted 16 = .ok (.ldc2_w 428, 3) := by decide +kernel
theorem dX12_counted_19 : decode cX12_counted 19 = .ok (.invokevirtual 430, 3) := by decide +kernel
theorem dX12_counted_22 : decode cX12_counted 22 = .ok (.lreturn, 1) := by decide +kernel
theorem dX12_counted_23 : decode cX12_counted 23 = .ok (.iload_n 2, 1) := by decide +kernel
theorem dX12_counted_24 : decode cX12_counted 24 = .ok (.invokestatic 246, 3) := by decide +kernel
theorem dX12_counted_27 : decode cX12_counted 27 = .ok (.ifCond .eq 15, 3) := by decide +kernel
theorem dX12_counted_30 : decode cX12_counted 30 = .ok (.iload_n 3, 1) := by decide +kernel
theorem dX12_counted_31 : decode cX12_counted 31 = .ok (.invokestatic 246, 3) := by decide +kernel
theorem dX12_counted_34 : decode cX12_counted 34 = .ok (.ifCond .eq 8, 3) := by decide +kernel
theorem dX12_counted_37 : decode cX12_counted 37 = .ok (.iload_n 3, 1) := by decide +kernel
theorem dX12_counted_38 : decode cX12_counted 38 = .ok (.iload_n 2, 1) := by decide +kernel
theorem dX12_counted_39 : decode cX12_counted 39 = .ok (.if_icmp .ge 12, 3) := by decide +kernel
theorem dX12_counted_42 : decode cX12_counted 42 = .ok (.aload_n 0, 1) := by decide +kernel
theorem dX12_counted_43 : decode cX12_counted 43 = .ok (.iconst 2, 1) := by decide +kernel
theorem dX12_counted_44 : decode cX12_counted 44 = .ok (.ldc2_w 428, 3) := by decide +kernel
theorem dX12_counted_47 : decode cX12_counted 47 = .ok (.invokevirtual 430, 3) := by decide +kernel
theorem dX12_counted_50 : decode cX12_counted 50 = .ok (.lreturn, 1) := by decide +kernel
theorem dX12_counted_51 : decode cX12_counted 51 = .ok (.aload_n 0, 1) := by decide +kernel
theorem dX12_counted_52 : decode cX12_counted 52 = .ok (.iload_n 1, 1) := by decide +kernel
theorem dX12_counted_53 : decode cX12_counted 53 = .ok (.iload_n 2, 1) := by decide +kernel
theorem dX12_counted_54 : decode cX12_counted 54 = .ok (.iload_n 3, 1) := by decide +kernel
theorem dX12_counted_55 : decode cX12_counted 55 = .ok (.invokevirtual 413, 3) := by decide +kernel
theorem dX12_counted_58 : decode cX12_counted 58 = .ok (.aload_n 0, 1) := by decide +kernel
theorem dX12_counted_59 : decode cX12_counted 59 = .ok (.iload 4, 2) := by decide +kernel
theorem dX12_counted_61 : decode cX12_counted 61 = .ok (.invokevirtual 434, 3) := by decide +kernel
theorem dX12_counted_64 : decode cX12_counted 64 = .ok (.lreturn, 1) := by decide +kernel
