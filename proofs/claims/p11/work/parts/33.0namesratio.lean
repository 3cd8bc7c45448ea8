set_option maxRecDepth 20000 in
theorem ggX6_set_X6_commonDivisor : GoodIn wsX6_set wsX6_commonDivisor := goodIn_r _ [6] (by decide +kernel) (by decide +kernel)
set_option maxRecDepth 20000 in
theorem gX6_set_X6_commonDivisor : GoodIn wsX6_set (va_wsS RX6 16 yX6_commonDivisor wsX6_commonDivisor) := goodIn_app (goodIn_of _ (by decide +kernel)) ggX6_set_X6_commonDivisor
theorem dX6_set_0 : decode cX6_set 0 = .ok (.lload_n 1, 1) := by decide +kernel
theorem dX6_set_1 : decode cX6_set 1 = .ok (.lconst 0, 1) := by decide +kernel
theorem dX6_set_2 : decode cX6_set 2 = .ok (.lcmp, 1) := by decide +kernel
theorem dX6_set_3 : decode cX6_set 3 = .ok (.ifCond .ge 8, 3) := by decide +kernel
theorem dX6_set_6 : decode cX6_set 6 = .ok (.lload_n 1, 1) := by decide +kernel
theorem dX6_set_7 : decode cX6_set 7 = .ok (.lneg, 1) := by decide +kernel
theorem dX6_set_8 : decode cX6_set 8 = .ok (.goto 4, 3) := by decide +kernel
theorem dX6_set_11 : decode cX6_set 11 = .ok (.lload_n 1, 1) := by decide +kernel
theorem dX6_set_12 : decode cX6_set 12 = .ok (.lload_n 3, 1) := by decide +kernel
theorem dX6_set_13 : decode cX6_set 13 = .ok (.invokestatic 16, 3) := by decide +kernel
theorem dX6_set_16 : decode cX6_set 16 = .ok (.lstore 5, 2) := by decide +kernel
theorem dX6_set_18 : decode cX6_set 18 = .ok (.lload 5, 2) := by decide +kernel
theorem dX6_set_20 : decode cX6_set 20 = .ok (.lconst 1, 1) := by decide +kernel
theorem dX6_set_21 : decode cX6_set 21 = .ok (.lcmp, 1) := by decide +kernel
theorem dX6_set_22 : decode cX6_set 22 = .ok (.ifCond .ge 14, 3) := by decide +kernel
theorem dX6_set_25 : decode cX6_set 25 = .ok (.aload_n 0, 1) := by decide +kernel
theorem dX6_set_26 : decode cX6_set 26 = .ok (.lconst 0, 1) := by decide +kernel
theorem dX6_set_27 : decode cX6_set 27 = .ok (.putfield 7, 3) := by decide +kernel
theorem dX6_set_30 : decode cX6_set 30 = .ok (.aload_n 0, 1) := by decide +kernel
theorem dX6_set_31 : decode cX6_set 31 = .ok (.lconst 1, 1) := by decide +kernel
theorem dX6_set_32 : decode cX6_set 32 = .ok (.putfield 13, 3) := by decide +kernel
theorem dX6_set_35 : decode cX6_set 35 = .ok (.return_, 1) := by decide +kernel
theorem dX6_set_36 : decode cX6_set 36 = .ok (.aload_n 0, 1) := by decide +kernel
theorem dX6_set_37 : decode cX6_set 37 = .ok (.lload_n 1, 1) := by decide +kernel
theorem dX6_set_38 : decode cX6_set 38 = .ok (.lload 5, 2) := by decide +kernel
theorem dX6_set_40 : decode cX6_set 40 = .ok (.ldiv, 1) := by decide +kernel
theorem dX6_set_41 : decode cX6_set 41 = .ok (.putfield 7, 3) := by decide +kernel
theorem dX6_set_44 : decode cX6_set 44 = .ok (.aload_n 0, 1) := by decide +kernel
theorem dX6_set_45 : decode cX6_set 45 = .ok (.lload_n 3, 1) := by decide +kernel
theorem dX6_set_46 : decode cX6_set 46 = .ok (.lload 5, 2) := by decide +kernel
theorem dX6_set_48 : decode cX6_set 48 = .ok (.ldiv, 1) := by decide +kernel
theorem dX6_set_49 : decode cX6_set 49 = .ok (.putfield 13, 3) := by decide +kernel
theorem dX6_set_52 : decode cX6_set 52 = .ok (.return_, 1) := by decide +kernel
set_option maxRecDepth 20000 in
theorem ggX6_add_X6_commonDivisor : GoodIn wsX6_add wsX6_commonDivisor := goodIn_r _ [6] (by decide +kernel) (by decide +kernel)
set_option maxRecDepth 20000 in
theorem gX6_add_X6_commonDivisor : GoodIn wsX6_add (va_wsS RX6 16 yX6_commonDivisor wsX6_commonDivisor) := goodIn_app (goodIn_of _ (by decide +kernel)) ggX6_add_X6_commonDivisor
set_option maxRecDepth 20000 in
theorem ggX6_add_X6_set : GoodIn wsX6_add wsX6_set := goodIn_r _ [10, 2, 1, 3, 4, 5, 6, 11, 12] (by decide +kernel) (by decide +kernel)
set_option maxRecDepth 20000 in
theorem gX6_add_X6_set : GoodIn wsX6_add (wsV RX6 20 RX6 yX6_set wsX6_set) := goodIn_app (goodIn_of _ (by decide +kernel)) ggX6_add_X6_set
theorem dX6_add_0 : decode cX6_add 0 = .ok (.aload_n 0, 1) := by decide +kernel
theorem dX6_add_1 : decode cX6_add 1 = .ok (.getfield 13, 3) := by decide +kernel
theorem dX6_add_4 : decode cX6_add 4 = .ok (.lload_n 3, 1) := by decide +kernel
theorem dX6_add_5 : decode cX6_add 5 = .ok (.invokestatic 16, 3) := by decide +kernel
theorem dX6_add_8 : decode cX6_add 8 = .ok (.lstore 5, 2) := by decide +kernel
theorem dX6_add_10 : decode cX6_add 10 = .ok (.lload 5, 2) := by decide +kernel
theorem dX6_add_12 : decode cX6_add 12 = .ok (.lconst 1, 1) := by decide +kernel
theorem dX6_add_13 : decode cX6_add 13 = .ok (.lcmp, 1) := by decide +kernel
theorem dX6_add_14 : decode cX6_add 14 = .ok (.ifCond .ge 4, 3) := by decide +kernel
theorem dX6_add_17 : decode cX6_add 17 = .ok (.return_, 1) := by decide +kernel
theorem dX6_add_18 : decode cX6_add 18 = .ok (.lload_n 3, 1) := by decide +kernel
theorem dX6_add_19 : decode cX6_add 19 = .ok (.lload 5, 2) := by decide +kernel
theorem dX6_add_21 : decode cX6_add 21 = .ok (.ldiv, 1) := by decide +kernel
theorem dX6_add_22 : decode cX6_add 22 = .ok (.lstore 7, 2) := by decide +kernel
theorem dX6_add_24 : decode cX6_add 24 = .ok (.aload_n 0, 1) := by decide +kernel
theorem dX6_add_25 : decode cX6_add 25 = .ok (.aload_n 0, 1) := by decide +kernel
theorem dX6_add_26 : decode cX6_add 26 = .ok (.getfield 7, 3) := by decide +kernel
theorem dX6_add_29 : decode cX6_add 29 = .ok (.lload 7, 2) := by decide +kernel
theorem dX6_add_31 : decode cX6_add 31 = .ok (.lmul, 1) := by decide +kernel
theorem dX6_add_32 : decode cX6_add 32 = .ok (.lload_n 1, 1) := by decide +kernel
theorem dX6_add_33 : decode cX6_add 33 = .ok (.aload_n 0, 1) := by decide +kernel
theorem dX6_add_34 : decode cX6_add 34 = .ok (.getfield 13, 3) := by decide +kernel
theorem dX6_add_37 : decode cX6_add 37 = .ok (.lload 5, 2) := by decide +kernel
theorem dX6_add_39 : decode cX6_add 39 = .ok (.ldiv, 1) := by decide +kernel
theorem dX6_add_40 : decode cX6_add 40 = .ok (.lmul, 1) := by decide +kernel
theorem dX6_add_41 : decode cX6_add 41 = .ok (.ladd, 1) := by decide +kernel
theorem dX6_add_42 : decode cX6_add 42 = .ok (.aload_n 0, 1) := by decide +kernel
theorem dX6_add_43 : decode cX6_add 43 = .ok (.getfield 13, 3) := by decide +kernel
theorem dX6_add_46 : decode cX6_add 46 = .ok (.lload 7, 2) := by decide +kernel
theorem dX6_add_48 : decode cX6_add 48 = .ok (.lmul, 1) := by decide +kernel
theorem dX6_add_49 : decode cX6_add 49 = .ok (.invokevirtual 20, 3) := by decide +kernel
theorem dX6_add_52 : decode cX6_add 52 = .ok (.return_, 1) := by decide +kernel
set_option maxRecDepth 20000 in
theorem ggX6_multiply_X6_set : GoodIn wsX6_multiply wsX6_set := goodIn_r _ [7, 1, 2, 8, 9, 6, 10, 11, 12] (by decide +kernel) (by decide +kernel)
set_option maxRecDepth 20000 in
theorem gX6_multiply_X6_set : GoodIn wsX6_multiply (wsV RX6 20 RX6 yX6_set wsX6_set) := goodIn_app (goodIn_of _ (by decide +kernel)) ggX6_multiply_X6_set
theorem dX6_multiply_0 : decode cX6_multiply 0 = .ok (.aload_n 0, 1) := by decide +kernel
theorem dX6_multiply_1 : decode cX6_multiply 1 = .ok (.aload_n 0, 1) := by decide +kernel
theorem dX6_multiply_2 : decode cX6_multiply 2 = .ok (.getfield 7, 3) := by decide +kernel
theorem dX6_multiply_5 : decode cX6_multiply 5 = .ok (.lload_n 1, 1) := by decide +kernel
theorem dX6_multiply_6 : decode cX6_multiply 6 = .ok (.lmul, 1) := by decide +kernel
theorem dX6_multiply_7 : decode cX6_multiply 7 = .ok (.aload_n 0, 1) := by decide +kernel
theorem dX6_multiply_8 : decode cX6_multiply 8 = .ok (.getfield 13, 3) := by decide +kernel
theorem dX6_multiply_11 : decode cX6_multiply 11 = .ok (.lload_n 3, 1) := by decide +kernel
theorem dX6_multiply_12 : decode cX6_multiply 12 = .ok (.lmul, 1) := by decide +kernel
theorem dX6_multiply_13 : decode cX6_multiply 13 = .ok (.invokevirtual 20, 3) := by decide +kernel
theorem dX6_multiply_16 : decode cX6_multiply 16 = .ok (.return_, 1) := by decide +kernel
set_option maxRecDepth 20000 in
theorem ggX6_setCounted_X6_set : GoodIn wsX6_setCounted wsX6_set := goodIn_r _ [7, 8, 9, 10, 11, 6, 12, 28, 29] (by decide +kernel) (by decide +kernel)
set_option maxRecDepth 20000 in
theorem gX6_setCounted_X6_set : GoodIn wsX6_setCounted (wsV RX6 20 RX6 yX6_set wsX6_set) := goodIn_app (goodIn_of _ (by decide +kernel)) ggX6_setCounted_X6_set
set_option maxRecDepth 20000 in
theorem ggX6_setCounted_X3_numberOf : GoodIn wsX6_setCounted wsX3_numberOf := goodIn_r _ [16, 17, 18, 19, 20] (by decide +kernel) (by decide +kernel)
set_option maxRecDepth 20000 in
theorem gX6_setCounted_X3_numberOf : GoodIn wsX6_setCounted (va_wsS RX6 30 yX3_numberOf wsX3_numberOf) := goodIn_app (goodIn_of _ (by decide +kernel)) ggX6_setCounted_X3_numberOf
set_option maxRecDepth 20000 in
theorem ggX6_setCounted_X6_thirtyDays : GoodIn wsX6_setCounted wsX6_thirtyDays := goodIn_r _ [23, 24, 25, 26, 27] (by decide +kernel) (by decide +kernel)
set_option maxRecDepth 20000 in
theorem gX6_setCounted_X6_thirtyDays : GoodIn wsX6_setCounted (va_wsS RX6 36 yX6_thirtyDays wsX6_thirtyDays) := goodIn_app (goodIn_of _ (by decide +kernel)) ggX6_setCounted_X6_thirtyDays
theorem dX6_setCounted_0 : decode cX6_setCounted 0 = .ok (.iload_n 1, 1) := by decide +kernel
theorem dX6_setCounted_1 : decode cX6_setCounted 1 = .ok (.iconst 2, 1) := by decide +kernel
theorem dX6_setCounted_2 : decode cX6_setCounted 2 = .ok (.if_icmp .ne 17, 3) := by decide +kernel
theorem dX6_setCounted_5 : decode cX6_setCounted 5 = .ok (.aload_n 0, 1) := by decide +kernel
theorem dX6_setCounted_6 : decode cX6_setCounted 6 = .ok (.iload_n 3, 1) := by decide +kernel
theorem dX6_setCounted_7 : decode cX6_setCounted 7 = .ok (.iload_n 2, 1) := by decide +kernel
theorem dX6_setCounted_8 : decode cX6_setCounted 8 = .ok (.isub, 1) := by decide +kernel
theorem dX6_setCounted_9 : decode cX6_setCounted 9 = .ok (.i2l, 1) := by decide +kernel
theorem dX6_setCounted_10 : decode cX6_setCounted 10 = .ok (.ldc2_w 26, 3) := by decide +kernel
theorem dX6_setCounted_13 : decode cX6_setCounted 13 = .ok (.invokevirtual 20, 3) := by decide +kernel
theorem dX6_setCounted_16 : decode cX6_setCounted 16 = .ok (.goto 42, 3) := by decide +kernel
theorem dX6_setCounted_19 : decode cX6_setCounted 19 = .ok (.iload_n 1, 1) := by decide +kernel
theorem dX6_setCounted_20 : decode cX6_setCounted 20 = .ok (.iconst 3, 1) := by decide +kernel
theorem dX6_setCounted_21 : decode cX6_setCounted 21 = .ok (.if_icmp .ne 17, 3) := by decide +kernel
theorem dX6_setCounted_24 : decode cX6_setCounted 24 = .ok (.aload_n 0, 1) := by decide +kernel
theorem dX6_setCounted_25 : decode cX6_setCounted 25 = .ok (.iload_n 3, 1) := by decide +kernel
theorem dX6_setCounted_26 : decode cX6_setCounted 26 = .ok (.iload_n 2, 1) := by decide +kernel
theorem dX6_setCounted_27 : decode cX6_setCounted 27 = .ok (.isub, 1) := by decide +kernel
theorem dX6_setCounted_28 : decode cX6_setCounted 28 = .ok (.i2l, 1) := by decide +kernel
theorem dX6_setCounted_29 : decode cX6_setCounted 29 = .ok (.ldc2_w 28, 3) := by decide +kernel
theorem dX6_setCounted_32 : decode cX6_setCounted 32 = .ok (.invokevirtual 20, 3) := by decide +kernel
theorem dX6_setCounted_35 : decode cX6_setCounted 35 = .ok (.goto 23, 3) := by decide +kernel
theorem dX6_setCounted_38 : decode cX6_setCounted 38 = .ok (.aload_n 0, 1) := by decide +kernel
theorem dX6_setCounted_39 : decode cX6_setCounted 39 = .ok (.iload_n 1, 1) := by decide +kernel
theorem dX6_setCounted_40 : decode cX6_setCounted 40 = .ok (.iload_n 2, 1) := by decide +kernel
theorem dX6_setCounted_41 : decode cX6_setCounted 41 = .ok (.invokestatic 30, 3) := by decide +kernel
theorem dX6_setCounted_44 : decode cX6_setCounted 44 = .ok (.iload_n 3, 1) := by decide +kernel
theorem dX6_setCounted_45 : decode cX6_setCounted 45 = .ok (.invokestatic 30, 3) := by decide +kernel
theorem dX6_setCounted_48 : decode cX6_setCounted 48 = .ok (.invokestatic 36, 3) := by decide +kernel
theorem dX6_setCounted_51 : decode cX6_setCounted 51 = .ok (.i2l, 1) := by decide +kernel
theorem dX6_setCounted_52 : decode cX6_setCounted 52 = .ok (.ldc2_w 26, 3) := by decide +kernel
theorem dX6_setCounted_55 : decode cX6_setCounted 55 = .ok (.invokevirtual 20, 3) := by decide +kernel
theorem dX6_setCounted_58 : decode cX6_setCounted 58 = .ok (.return_, 1) := by decide +kernel
theorem dX6_part_0 : decode cX6_part 0 = .ok (.iload_n 1, 1) := by decide +kernel
theorem dX6_part_1 : decode cX6_part 1 = .ok (.ifCond .eq 10, 3) := by decide +kernel
theorem dX6_part_4 : decode cX6_part 4 = .ok (.aload_n 0, 1) := by decide +kernel
theorem dX6_part_5 : decode cX6_part 5 = .ok (.getfield 13, 3) := by decide +kernel
theorem dX6_part_8 : decode cX6_part 8 = .ok (.goto 7, 3) := by decide +kernel
theorem dX6_part_11 : decode cX6_part 11 = .ok (.aload_n 0, 1) := by decide +kernel
theorem dX6_part_12 : decode cX6_part 12 = .ok (.getfield 7, 3) := by decide +kernel
theorem dX6_part_15 : decode cX6_part 15 = .ok (.lreturn, 1) := by decide +kernel
theorem dX6_value_0 : decode cX6_value 0 = .ok (.aload_n 0, 1) := by decide +kernel
theorem dX6_value_1 : decode cX6_value 1 = .ok (.getfield 7, 3) := by decide +kernel
theorem dX6_value_4 : decode cX6_value 4 = .ok (.l2d, 1) := by decide +kernel
theorem dX6_value_5 : decode cX6_value 5 = .ok (.aload_n 0, 1) := by decide +kernel
theorem dX6_value_6 : decode cX6_value 6 = .ok (.getfield 13, 3) := by decide +kernel
theorem dX6_value_9 : decode cX6_value 9 = .ok (.l2d, 1) := by decide +kernel
theorem dX6_value_10 : decode cX6_value 10 = .ok (.ddiv, 1) := by decide +kernel
theorem dX6_value_11 : decode cX6_value 11 = .ok (.dreturn, 1) := by decide +kernel
set_option maxRecDepth 20000 in
theorem ggX6_floorTimes_J9_floorDiv_f86c9 : GoodIn wsX6_floorTimes wsJ9_floorDiv_f86c9 := goodIn_r _ [6] (by decide +kernel) (by decide +kernel)
set_option maxRecDepth 20000 in
theorem gX6_floorTimes_J9_floorDiv_f86c9 : GoodIn wsX6_floorTimes (va_wsS RX6 46 yJ9_floorDiv_f86c9 wsJ9_floorDiv_f86c9) := goodIn_app (goodIn_of _ (by decide +kernel)) ggX6_floorTimes_J9_floorDiv_f86c9
theorem dX6_floorTimes_0 : decode cX6_floorTimes 0 = .ok (.aload_n 0, 1) := by decide +kernel
theorem dX6_floorTimes_1 : decode cX6_floorTimes 1 = .ok (.getfield 13, 3) := by decide +kernel
theorem dX6_floorTimes_4 : decode cX6_floorTimes 4 = .ok (.lconst 1, 1) := by decide +kernel
theorem dX6_floorTimes_5 : decode cX6_floorTimes 5 = .ok (.lcmp, 1) := by decide +kernel
theorem dX6_floorTimes_6 : decode cX6_floorTimes 6 = .ok (.ifCond .ge 7, 3) := by decide +kernel
theorem dX6_floorTimes_9 : decode cX6_floorTimes 9 = .ok (.lconst 0, 1) := by decide +kernel
theorem dX6_floorTimes_10 : decode cX6_floorTimes 10 = .ok (.goto 16, 3) := by decide +kernel
theorem dX6_floorTimes_13 : decode cX6_floorTimes 13 = .ok (.aload_n 0, 1) := by decide +kernel
theorem dX6_floorTimes_14 : decode cX6_floorTimes 14 = .ok (.getfield 7, 3) := by decide +kernel
theorem dX6_floorTimes_17 : decode cX6_floorTimes 17 = .ok (.lload_n 1, 1) := by decide +kernel
theorem dX6_floorTimes_18 : decode cX6_floorTimes 18 = .ok (.lmul, 1) := by decide +kernel
theorem dX6_floorTimes_19 : decode cX6_floorTimes 19 = .ok (.aload_n 0, 1) := by decide +kernel
theorem dX6_floorTimes_20 : decode cX6_floorTimes 20 = .ok (.getfield 13, 3) := by decide +kernel
theorem dX6_floorTimes_23 : decode cX6_floorTimes 23 = .ok (.invokestatic 46, 3) := by decide +kernel
theorem dX6_floorTimes_26 : decode cX6_floorTimes 26 = .ok (.lreturn, 1) := by decide +kernel
