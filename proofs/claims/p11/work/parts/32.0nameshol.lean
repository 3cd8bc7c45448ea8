theorem dX5_contains_0 : decode cX5_contains 0 = .ok (.iconst 0, 1) := by decide +kernel
theorem dX5_contains_1 : decode cX5_contains 1 = .ok (.istore_n 2, 1) := by decide +kernel
theorem dX5_contains_2 : decode cX5_contains 2 = .ok (.iload_n 2, 1) := by decide +kernel
theorem dX5_contains_3 : decode cX5_contains 3 = .ok (.aload_n 0, 1) := by decide +kernel
theorem dX5_contains_4 : decode cX5_contains 4 = .ok (.getfield 13, 3) := by decide +kernel
theorem dX5_contains_7 : decode cX5_contains 7 = .ok (.if_icmp .ge 30, 3) := by decide +kernel
theorem dX5_contains_10 : decode cX5_contains 10 = .ok (.iload_n 2, 1) := by decide +kernel
theorem dX5_contains_11 : decode cX5_contains 11 = .ok (.aload_n 0, 1) := by decide +kernel
theorem dX5_contains_12 : decode cX5_contains 12 = .ok (.getfield 9, 3) := by decide +kernel
theorem dX5_contains_15 : decode cX5_contains 15 = .ok (.arraylength, 1) := by decide +kernel
theorem dX5_contains_16 : decode cX5_contains 16 = .ok (.if_icmp .ge 21, 3) := by decide +kernel
theorem dX5_contains_19 : decode cX5_contains 19 = .ok (.aload_n 0, 1) := by decide +kernel
theorem dX5_contains_20 : decode cX5_contains 20 = .ok (.getfield 9, 3) := by decide +kernel
theorem dX5_contains_23 : decode cX5_contains 23 = .ok (.iload_n 2, 1) := by decide +kernel
theorem dX5_contains_24 : decode cX5_contains 24 = .ok (.iaload, 1) := by decide +kernel
theorem dX5_contains_25 : decode cX5_contains 25 = .ok (.iload_n 1, 1) := by decide +kernel
theorem dX5_contains_26 : decode cX5_contains 26 = .ok (.if_icmp .ne 5, 3) := by decide +kernel
theorem dX5_contains_29 : decode cX5_contains 29 = .ok (.iconst 1, 1) := by decide +kernel
theorem dX5_contains_30 : decode cX5_contains 30 = .ok (.ireturn, 1) := by decide +kernel
theorem dX5_contains_31 : decode cX5_contains 31 = .ok (.iinc 2 1, 3) := by decide +kernel
theorem dX5_contains_34 : decode cX5_contains 34 = .ok (.goto (-32), 3) := by decide +kernel
theorem dX5_contains_37 : decode cX5_contains 37 = .ok (.iconst 0, 1) := by decide +kernel
theorem dX5_contains_38 : decode cX5_contains 38 = .ok (.ireturn, 1) := by decide +kernel
theorem dX5_insert_0 : decode cX5_insert 0 = .ok (.aload_n 0, 1) := by decide +kernel
theorem dX5_insert_1 : decode cX5_insert 1 = .ok (.getfield 13, 3) := by decide +kernel
theorem dX5_insert_4 : decode cX5_insert 4 = .ok (.aload_n 0, 1) := by decide +kernel
theorem dX5_insert_5 : decode cX5_insert 5 = .ok (.getfield 9, 3) := by decide +kernel
theorem dX5_insert_8 : decode cX5_insert 8 = .ok (.arraylength, 1) := by decide +kernel
theorem dX5_insert_9 : decode cX5_insert 9 = .ok (.if_icmp .lt 4, 3) := by decide +kernel
theorem dX5_insert_12 : decode cX5_insert 12 = .ok (.return_, 1) := by decide +kernel
theorem dX5_insert_13 : decode cX5_insert 13 = .ok (.aload_n 0, 1) := by decide +kernel
theorem dX5_insert_14 : decode cX5_insert 14 = .ok (.getfield 13, 3) := by decide +kernel
theorem dX5_insert_17 : decode cX5_insert 17 = .ok (.istore_n 2, 1) := by decide +kernel
theorem dX5_insert_18 : decode cX5_insert 18 = .ok (.iload_n 2, 1) := by decide +kernel
theorem dX5_insert_19 : decode cX5_insert 19 = .ok (.ifCond .le 35, 3) := by decide +kernel
theorem dX5_insert_22 : decode cX5_insert 22 = .ok (.aload_n 0, 1) := by decide +kernel
theorem dX5_insert_23 : decode cX5_insert 23 = .ok (.getfield 9, 3) := by decide +kernel
theorem dX5_insert_26 : decode cX5_insert 26 = .ok (.iload_n 2, 1) := by decide +kernel
theorem dX5_insert_27 : decode cX5_insert 27 = .ok (.iconst 1, 1) := by decide +kernel
theorem dX5_insert_28 : decode cX5_insert 28 = .ok (.isub, 1) := by decide +kernel
theorem dX5_insert_29 : decode cX5_insert 29 = .ok (.iaload, 1) := by decide +kernel
theorem dX5_insert_30 : decode cX5_insert 30 = .ok (.iload_n 1, 1) := by decide +kernel
theorem dX5_insert_31 : decode cX5_insert 31 = .ok (.if_icmp .le 23, 3) := by decide +kernel
theorem dX5_insert_34 : decode cX5_insert 34 = .ok (.aload_n 0, 1) := by decide +kernel
theorem dX5_insert_35 : decode cX5_insert 35 = .ok (.getfield 9, 3) := by decide +kernel
theorem dX5_insert_38 : decode cX5_insert 38 = .ok (.iload_n 2, 1) := by decide +kernel
theorem dX5_insert_39 : decode cX5_insert 39 = .ok (.aload_n 0, 1) := by decide +kernel
theorem dX5_insert_40 : decode cX5_insert 40 = .ok (.getfield 9, 3) := by decide +kernel
theorem dX5_insert_43 : decode cX5_insert 43 = .ok (.iload_n 2, 1) := by decide +kernel
theorem dX5_insert_44 : decode cX5_insert 44 = .ok (.iconst 1, 1) := by decide +kernel
theorem dX5_insert_45 : decode cX5_insert 45 = .ok (.isub, 1) := by decide +kernel
theorem dX5_insert_46 : decode cX5_insert 46 = .ok (.iaload, 1) := by decide +kernel
theorem dX5_insert_47 : decode cX5_insert 47 = .ok (.iastore, 1) := by decide +kernel
theorem dX5_insert_48 : decode cX5_insert 48 = .ok (.iinc 2 (-1), 3) := by decide +kernel
theorem dX5_insert_51 : decode cX5_insert 51 = .ok (.goto (-33), 3) := by decide +kernel
theorem dX5_insert_54 : decode cX5_insert 54 = .ok (.aload_n 0, 1) := by decide +kernel
theorem dX5_insert_55 : decode cX5_insert 55 = .ok (.getfield 9, 3) := by decide +kernel
theorem dX5_insert_58 : decode cX5_insert 58 = .ok (.iload_n 2, 1) := by decide +kernel
theorem dX5_insert_59 : decode cX5_insert 59 = .ok (.iload_n 1, 1) := by decide +kernel
theorem dX5_insert_60 : decode cX5_insert 60 = .ok (.iastore, 1) := by decide +kernel
theorem dX5_insert_61 : decode cX5_insert 61 = .ok (.aload_n 0, 1) := by decide +kernel
theorem dX5_insert_62 : decode cX5_insert 62 = .ok (.dup, 1) := by decide +kernel
theorem dX5_insert_63 : decode cX5_insert 63 = .ok (.getfield 13, 3) := by decide +kernel
theorem dX5_insert_66 : decode cX5_insert 66 = .ok (.iconst 1, 1) := by decide +kernel
theorem dX5_insert_67 : decode cX5_insert 67 = .ok (.iadd, 1) := by decide +kernel
theorem dX5_insert_68 : decode cX5_insert 68 = .ok (.putfield 13, 3) := by decide +kernel
theorem dX5_insert_71 : decode cX5_insert 71 = .ok (.return_, 1) := by decide +kernel
set_option maxRecDepth 20000 in
theorem ggX5_isBusinessDay_X3_weekdayOf : GoodIn wsX5_isBusinessDay wsX3_weekdayOf := goodIn_r _ [4, 5, 6, 7, 8] (by decide +kernel) (by decide +kernel)
set_option maxRecDepth 20000 in
theorem gX5_isBusinessDay_X3_weekdayOf : GoodIn wsX5_isBusinessDay (va_wsS RX5 17 yX3_weekdayOf wsX3_weekdayOf) := goodIn_app (goodIn_of _ (by decide +kernel)) ggX5_isBusinessDay_X3_weekdayOf
set_option maxRecDepth 20000 in
theorem ggX5_isBusinessDay_X5_contains : GoodIn wsX5_isBusinessDay wsX5_contains := goodIn_r _ [13, 14, 15, 16, 17] (by decide +kernel) (by decide +kernel)
set_option maxRecDepth 20000 in
theorem gX5_isBusinessDay_X5_contains : GoodIn wsX5_isBusinessDay (wsV RX5 23 RX5 yX5_contains wsX5_contains) := goodIn_app (goodIn_of _ (by decide +kernel)) ggX5_isBusinessDay_X5_contains
theorem dX5_isBusinessDay_0 : decode cX5_isBusinessDay 0 = .ok (.iload_n 1, 1) := by decide +kernel
theorem dX5_isBusinessDay_1 : decode cX5_isBusinessDay 1 = .ok (.invokestatic 17, 3) := by decide +kernel
theorem dX5_isBusinessDay_4 : decode cX5_isBusinessDay 4 = .ok (.iconst 5, 1) := by decide +kernel
theorem dX5_isBusinessDay_5 : decode cX5_isBusinessDay 5 = .ok (.if_icmp .ge 15, 3) := by decide +kernel
theorem dX5_isBusinessDay_8 : decode cX5_isBusinessDay 8 = .ok (.aload_n 0, 1) := by decide +kernel
theorem dX5_isBusinessDay_9 : decode cX5_isBusinessDay 9 = .ok (.iload_n 1, 1) := by decide +kernel
theorem dX5_isBusinessDay_10 : decode cX5_isBusinessDay 10 = .ok (.invokevirtual 23, 3) := by decide +kernel
theorem dX5_isBusinessDay_13 : decode cX5_isBusinessDay 13 = .ok (.ifCond .ne 7, 3) := by decide +kernel
theorem dX5_isBusinessDay_16 : decode cX5_isBusinessDay 16 = .ok (.iconst 1, 1) := by decide +kernel
theorem dX5_isBusinessDay_17 : decode cX5_isBusinessDay 17 = .ok (.goto 4, 3) := by decide +kernel
theorem dX5_isBusinessDay_20 : decode cX5_isBusinessDay 20 = .ok (.iconst 0, 1) := by decide +kernel
theorem dX5_isBusinessDay_21 : decode cX5_isBusinessDay 21 = .ok (.ireturn, 1) := by decide +kernel
set_option maxRecDepth 20000 in
theorem ggX5_businessDaysFrom_X5_isBusinessDay : GoodIn wsX5_businessDaysFrom wsX5_isBusinessDay := goodIn_r _ [5, 6, 7, 8, 9, 10, 11, 12, 13, 14, 15, 16, 4, 17, 18, 19, 20, 21] (by decide +kernel) (by decide +kernel)
set_option maxRecDepth 20000 in
theorem gX5_businessDaysFrom_X5_isBusinessDay : GoodIn wsX5_businessDaysFrom (wsV RX5 27 RX5 yX5_isBusinessDay wsX5_isBusinessDay) := goodIn_app (goodIn_of _ (by decide +kernel)) ggX5_businessDaysFrom_X5_isBusinessDay
theorem dX5_businessDaysFrom_0 : decode cX5_businessDaysFrom 0 = .ok (.iload_n 2, 1) := by decide +kernel
theorem dX5_businessDaysFrom_1 : decode cX5_businessDaysFrom 1 = .ok (.ifCond .ge 7, 3) := by decide +kernel
theorem dX5_businessDaysFrom_4 : decode cX5_businessDaysFrom 4 = .ok (.iconst (-1), 1) := by decide +kernel
theorem dX5_businessDaysFrom_5 : decode cX5_businessDaysFrom 5 = .ok (.goto 4, 3) := by decide +kernel
theorem dX5_businessDaysFrom_8 : decode cX5_businessDaysFrom 8 = .ok (.iconst 1, 1) := by decide +kernel
theorem dX5_businessDaysFrom_9 : decode cX5_businessDaysFrom 9 = .ok (.istore_n 3, 1) := by decide +kernel
theorem dX5_businessDaysFrom_10 : decode cX5_businessDaysFrom 10 = .ok (.iload_n 2, 1) := by decide +kernel
theorem dX5_businessDaysFrom_11 : decode cX5_businessDaysFrom 11 = .ok (.ifCond .ge 8, 3) := by decide +kernel
theorem dX5_businessDaysFrom_14 : decode cX5_businessDaysFrom 14 = .ok (.iload_n 2, 1) := by decide +kernel
theorem dX5_businessDaysFrom_15 : decode cX5_businessDaysFrom 15 = .ok (.ineg, 1) := by decide +kernel
theorem dX5_businessDaysFrom_16 : decode cX5_businessDaysFrom 16 = .ok (.goto 4, 3) := by decide +kernel
theorem dX5_businessDaysFrom_19 : decode cX5_businessDaysFrom 19 = .ok (.iload_n 2, 1) := by decide +kernel
theorem dX5_businessDaysFrom_20 : decode cX5_businessDaysFrom 20 = .ok (.istore 4, 2) := by decide +kernel
theorem dX5_businessDaysFrom_22 : decode cX5_businessDaysFrom 22 = .ok (.iload_n 1, 1) := by decide +kernel
theorem dX5_businessDaysFrom_23 : decode cX5_businessDaysFrom 23 = .ok (.istore 5, 2) := by decide +kernel
theorem dX5_businessDaysFrom_25 : decode cX5_businessDaysFrom 25 = .ok (.iconst 0, 1) := by decide +kernel
theorem dX5_businessDaysFrom_26 : decode cX5_businessDaysFrom 26 = .ok (.istore 6, 2) := by decide +kernel
theorem dX5_businessDaysFrom_28 : decode cX5_businessDaysFrom 28 = .ok (.iload 6, 2) := by decide +kernel
theorem dX5_businessDaysFrom_30 : decode cX5_businessDaysFrom 30 = .ok (.sipush 1000, 3) := by decide +kernel
theorem dX5_businessDaysFrom_33 : decode cX5_businessDaysFrom 33 = .ok (.if_icmp .ge 32, 3) := by decide +kernel
theorem dX5_businessDaysFrom_36 : decode cX5_businessDaysFrom 36 = .ok (.iload 4, 2) := by decide +kernel
theorem dX5_businessDaysFrom_38 : decode cX5_businessDaysFrom 38 = .ok (.ifCond .le 27, 3) := by decide +kernel
theorem dX5_businessDaysFrom_41 : decode cX5_businessDaysFrom 41 = .ok (.iload 5, 2) := by decide +kernel
theorem dX5_businessDaysFrom_43 : decode cX5_businessDaysFrom 43 = .ok (.iload_n 3, 1) := by decide +kernel
theorem dX5_businessDaysFrom_44 : decode cX5_businessDaysFrom 44 = .ok (.iadd, 1) := by decide +kernel
theorem dX5_businessDaysFrom_45 : decode cX5_businessDaysFrom 45 = .ok (.istore 5, 2) := by decide +kernel
theorem dX5_businessDaysFrom_47 : decode cX5_businessDaysFrom 47 = .ok (.aload_n 0, 1) := by decide +kernel
theorem dX5_businessDaysFrom_48 : decode cX5_businessDaysFrom 48 = .ok (.iload 5, 2) := by decide +kernel
theorem dX5_businessDaysFrom_50 : decode cX5_businessDaysFrom 50 = .ok (.invokevirtual 27, 3) := by decide +kernel
theorem dX5_businessDaysFrom_53 : decode cX5_businessDaysFrom 53 = .ok (.ifCond .eq 6, 3) := by decide +kernel
theorem dX5_businessDaysFrom_56 : decode cX5_businessDaysFrom 56 = .ok (.iinc 4 (-1), 3) := by decide +kernel
theorem dX5_businessDaysFrom_59 : decode cX5_businessDaysFrom 59 = .ok (.iinc 6 1, 3) := by decide +kernel
theorem dX5_businessDaysFrom_62 : decode cX5_businessDaysFrom 62 = .ok (.goto (-34), 3) := by decide +kernel
theorem dX5_businessDaysFrom_65 : decode cX5_businessDaysFrom 65 = .ok (.iload 5, 2) := by decide +kernel
theorem dX5_businessDaysFrom_67 : decode cX5_businessDaysFrom 67 = .ok (.ireturn, 1) := by decide +kernel
set_option maxRecDepth 20000 in
theorem ggX5_businessDayNotBefore_X5_isBusinessDay : GoodIn wsX5_businessDayNotBefore wsX5_isBusinessDay := goodIn_r _ [5, 6, 7, 8, 9, 10, 11, 12, 13, 14, 15, 16, 4, 17, 18, 19, 20, 21] (by decide +kernel) (by decide +kernel)
set_option maxRecDepth 20000 in
theorem gX5_businessDayNotBefore_X5_isBusinessDay : GoodIn wsX5_businessDayNotBefore (wsV RX5 27 RX5 yX5_isBusinessDay wsX5_isBusinessDay) := goodIn_app (goodIn_of _ (by decide +kernel)) ggX5_businessDayNotBefore_X5_isBusinessDay
theorem dX5_businessDayNotBefore_0 : decode cX5_businessDayNotBefore 0 = .ok (.iload_n 1, 1) := by decide +kernel
theorem dX5_businessDayNotBefore_1 : decode cX5_businessDayNotBefore 1 = .ok (.istore_n 2, 1) := by decide +kernel
theorem dX5_businessDayNotBefore_2 : decode cX5_businessDayNotBefore 2 = .ok (.iconst 0, 1) := by decide +kernel
theorem dX5_businessDayNotBefore_3 : decode cX5_businessDayNotBefore 3 = .ok (.istore_n 3, 1) := by decide +kernel
theorem dX5_businessDayNotBefore_4 : decode cX5_businessDayNotBefore 4 = .ok (.iload_n 3, 1) := by decide +kernel
theorem dX5_businessDayNotBefore_5 : decode cX5_businessDayNotBefore 5 = .ok (.sipush 1000, 3) := by decide +kernel
theorem dX5_businessDayNotBefore_8 : decode cX5_businessDayNotBefore 8 = .ok (.if_icmp .ge 20, 3) := by decide +kernel
theorem dX5_businessDayNotBefore_11 : decode cX5_businessDayNotBefore 11 = .ok (.aload_n 0, 1) := by decide +kernel
theorem dX5_businessDayNotBefore_12 : decode cX5_businessDayNotBefore 12 = .ok (.iload_n 2, 1) := by decide +kernel
theorem dX5_businessDayNotBefore_13 : decode cX5_businessDayNotBefore 13 = .ok (.invokevirtual 27, 3) := by decide +kernel
theorem dX5_businessDayNotBefore_16 : decode cX5_businessDayNotBefore 16 = .ok (.ifCond .ne 12, 3) := by decide +kernel
theorem dX5_businessDayNotBefore_19 : decode cX5_businessDayNotBefore 19 = .ok (.iinc 2 1, 3) := by decide +kernel
theorem dX5_businessDayNotBefore_22 : decode cX5_businessDayNotBefore 22 = .ok (.iinc 3 1, 3) := by decide +kernel
theorem dX5_businessDayNotBefore_25 : decode cX5_businessDayNotBefore 25 = .ok (.goto (-21), 3) := by decide +kernel
theorem dX5_businessDayNotBefore_28 : decode cX5_businessDayNotBefore 28 = .ok (.iload_n 2, 1) := by decide +kernel
theorem dX5_businessDayNotBefore_29 : decode cX5_businessDayNotBefore 29 = .ok (.ireturn, 1) := by decide +kernel
