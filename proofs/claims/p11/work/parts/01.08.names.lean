set_option maxRecDepth 20000 in
theorem ggX3_isDate_X3_lengthOfMonth : GoodIn wsX3_isDate wsX3_lengthOfMonth := goodIn_r _ [6] (by decide +kernel) (by decide +kernel)
set_option maxRecDepth 20000 in
theorem gX3_isDate_X3_lengthOfMonth : GoodIn wsX3_isDate (va_wsS RX3 11 yX3_lengthOfMonth wsX3_lengthOfMonth) := goodIn_app (goodIn_of _ (by decide +kernel)) ggX3_isDate_X3_lengthOfMonth
theorem dX3_isDate_0 : decode cX3_isDate 0 = .ok (.iload_n 0, 1) := by decide +kernel
theorem dX3_isDate_1 : decode cX3_isDate 1 = .ok (.ldc 9, 2) := by decide +kernel
theorem dX3_isDate_3 : decode cX3_isDate 3 = .ok (.if_icmp .lt 9, 3) := by decide +kernel
theorem dX3_isDate_6 : decode cX3_isDate 6 = .ok (.iload_n 0, 1) := by decide +kernel
theorem dX3_isDate_7 : decode cX3_isDate 7 = .ok (.ldc 10, 2) := by decide +kernel
theorem dX3_isDate_9 : decode cX3_isDate 9 = .ok (.if_icmp .le 5, 3) := by decide +kernel
theorem dX3_isDate_12 : decode cX3_isDate 12 = .ok (.iconst 0, 1) := by decide +kernel
theorem dX3_isDate_13 : decode cX3_isDate 13 = .ok (.ireturn, 1) := by decide +kernel
theorem dX3_isDate_14 : decode cX3_isDate 14 = .ok (.iload_n 0, 1) := by decide +kernel
theorem dX3_isDate_15 : decode cX3_isDate 15 = .ok (.bipush 100, 2) := by decide +kernel
theorem dX3_isDate_17 : decode cX3_isDate 17 = .ok (.idiv, 1) := by decide +kernel
theorem dX3_isDate_18 : decode cX3_isDate 18 = .ok (.bipush 100, 2) := by decide +kernel
theorem dX3_isDate_20 : decode cX3_isDate 20 = .ok (.irem, 1) := by decide +kernel
theorem dX3_isDate_21 : decode cX3_isDate 21 = .ok (.istore_n 1, 1) := by decide +kernel
theorem dX3_isDate_22 : decode cX3_isDate 22 = .ok (.iload_n 0, 1) := by decide +kernel
theorem dX3_isDate_23 : decode cX3_isDate 23 = .ok (.bipush 100, 2) := by decide +kernel
theorem dX3_isDate_25 : decode cX3_isDate 25 = .ok (.irem, 1) := by decide +kernel
theorem dX3_isDate_26 : decode cX3_isDate 26 = .ok (.istore_n 2, 1) := by decide +kernel
theorem dX3_isDate_27 : decode cX3_isDate 27 = .ok (.iload_n 1, 1) := by decide +kernel
theorem dX3_isDate_28 : decode cX3_isDate 28 = .ok (.iconst 1, 1) := by decide +kernel
theorem dX3_isDate_29 : decode cX3_isDate 29 = .ok (.if_icmp .lt 31, 3) := by decide +kernel
theorem dX3_isDate_32 : decode cX3_isDate 32 = .ok (.iload_n 1, 1) := by decide +kernel
theorem dX3_isDate_33 : decode cX3_isDate 33 = .ok (.bipush 12, 2) := by decide +kernel
theorem dX3_isDate_35 : decode cX3_isDate 35 = .ok (.if_icmp .gt 25, 3) := by decide +kernel
theorem dX3_isDate_38 : decode cX3_isDate 38 = .ok (.iload_n 2, 1) := by decide +kernel
theorem dX3_isDate_39 : decode cX3_isDate 39 = .ok (.iconst 1, 1) := by decide +kernel
theorem dX3_isDate_40 : decode cX3_isDate 40 = .ok (.if_icmp .lt 20, 3) := by decide +kernel
theorem dX3_isDate_43 : decode cX3_isDate 43 = .ok (.iload_n 2, 1) := by decide +kernel
theorem dX3_isDate_44 : decode cX3_isDate 44 = .ok (.iload_n 0, 1) := by decide +kernel
theorem dX3_isDate_45 : decode cX3_isDate 45 = .ok (.sipush 10000, 3) := by decide +kernel
theorem dX3_isDate_48 : decode cX3_isDate 48 = .ok (.idiv, 1) := by decide +kernel
theorem dX3_isDate_49 : decode cX3_isDate 49 = .ok (.iload_n 1, 1) := by decide +kernel
theorem dX3_isDate_50 : decode cX3_isDate 50 = .ok (.invokestatic 11, 3) := by decide +kernel
theorem dX3_isDate_53 : decode cX3_isDate 53 = .ok (.if_icmp .gt 7, 3) := by decide +kernel
theorem dX3_isDate_56 : decode cX3_isDate 56 = .ok (.iconst 1, 1) := by decide +kernel
theorem dX3_isDate_57 : decode cX3_isDate 57 = .ok (.goto 4, 3) := by decide +kernel
theorem dX3_isDate_60 : decode cX3_isDate 60 = .ok (.iconst 0, 1) := by decide +kernel
theorem dX3_isDate_61 : decode cX3_isDate 61 = .ok (.ireturn, 1) := by decide +kernel
theorem dX3_lengthOfMonth_0 : decode cX3_lengthOfMonth 0 = .ok (.iload_n 1, 1) := by decide +kernel
theorem dX3_lengthOfMonth_1 : decode cX3_lengthOfMonth 1 = .ok (.iconst 2, 1) := by decide +kernel
theorem dX3_lengthOfMonth_2 : decode cX3_lengthOfMonth 2 = .ok (.if_icmp .ne 42, 3) := by decide +kernel
theorem dX3_lengthOfMonth_5 : decode cX3_lengthOfMonth 5 = .ok (.iload_n 0, 1) := by decide +kernel
theorem dX3_lengthOfMonth_6 : decode cX3_lengthOfMonth 6 = .ok (.iconst 4, 1) := by decide +kernel
theorem dX3_lengthOfMonth_7 : decode cX3_lengthOfMonth 7 = .ok (.irem, 1) := by decide +kernel
theorem dX3_lengthOfMonth_8 : decode cX3_lengthOfMonth 8 = .ok (.ifCond .ne 22, 3) := by decide +kernel
theorem dX3_lengthOfMonth_11 : decode cX3_lengthOfMonth 11 = .ok (.iload_n 0, 1) := by decide +kernel
theorem dX3_lengthOfMonth_12 : decode cX3_lengthOfMonth 12 = .ok (.bipush 100, 2) := by decide +kernel
theorem dX3_lengthOfMonth_14 : decode cX3_lengthOfMonth 14 = .ok (.irem, 1) := by decide +kernel
theorem dX3_lengthOfMonth_15 : decode cX3_lengthOfMonth 15 = .ok (.ifCond .ne 11, 3) := by decide +kernel
theorem dX3_lengthOfMonth_18 : decode cX3_lengthOfMonth 18 = .ok (.iload_n 0, 1) := by decide +kernel
theorem dX3_lengthOfMonth_19 : decode cX3_lengthOfMonth 19 = .ok (.sipush 400, 3) := by decide +kernel
theorem dX3_lengthOfMonth_22 : decode cX3_lengthOfMonth 22 = .ok (.irem, 1) := by decide +kernel
theorem dX3_lengthOfMonth_23 : decode cX3_lengthOfMonth 23 = .ok (.ifCond .ne 7, 3) := by decide +kernel
theorem dX3_lengthOfMonth_26 : decode cX3_lengthOfMonth 26 = .ok (.iconst 1, 1) := by decide +kernel
theorem dX3_lengthOfMonth_27 : decode cX3_lengthOfMonth 27 = .ok (.goto 4, 3) := by decide +kernel
theorem dX3_lengthOfMonth_30 : decode cX3_lengthOfMonth 30 = .ok (.iconst 0, 1) := by decide +kernel
theorem dX3_lengthOfMonth_31 : decode cX3_lengthOfMonth 31 = .ok (.istore_n 2, 1) := by decide +kernel
theorem dX3_lengthOfMonth_32 : decode cX3_lengthOfMonth 32 = .ok (.iload_n 2, 1) := by decide +kernel
theorem dX3_lengthOfMonth_33 : decode cX3_lengthOfMonth 33 = .ok (.ifCond .eq 8, 3) := by decide +kernel
theorem dX3_lengthOfMonth_36 : decode cX3_lengthOfMonth 36 = .ok (.bipush 29, 2) := by decide +kernel
theorem dX3_lengthOfMonth_38 : decode cX3_lengthOfMonth 38 = .ok (.goto 5, 3) := by decide +kernel
theorem dX3_lengthOfMonth_41 : decode cX3_lengthOfMonth 41 = .ok (.bipush 28, 2) := by decide +kernel
theorem dX3_lengthOfMonth_43 : decode cX3_lengthOfMonth 43 = .ok (.ireturn, 1) := by decide +kernel
theorem dX3_lengthOfMonth_44 : decode cX3_lengthOfMonth 44 = .ok (.iload_n 1, 1) := by decide +kernel
theorem dX3_lengthOfMonth_45 : decode cX3_lengthOfMonth 45 = .ok (.iconst 4, 1) := by decide +kernel
theorem dX3_lengthOfMonth_46 : decode cX3_lengthOfMonth 46 = .ok (.if_icmp .eq 21, 3) := by decide +kernel
theorem dX3_lengthOfMonth_49 : decode cX3_lengthOfMonth 49 = .ok (.iload_n 1, 1) := by decide +kernel
theorem dX3_lengthOfMonth_50 : decode cX3_lengthOfMonth 50 = .ok (.bipush 6, 2) := by decide +kernel
theorem dX3_lengthOfMonth_52 : decode cX3_lengthOfMonth 52 = .ok (.if_icmp .eq 15, 3) := by decide +kernel
theorem dX3_lengthOfMonth_55 : decode cX3_lengthOfMonth 55 = .ok (.iload_n 1, 1) := by decide +kernel
theorem dX3_lengthOfMonth_56 : decode cX3_lengthOfMonth 56 = .ok (.bipush 9, 2) := by decide +kernel
theorem dX3_lengthOfMonth_58 : decode cX3_lengthOfMonth 58 = .ok (.if_icmp .eq 9, 3) := by decide +kernel
theorem dX3_lengthOfMonth_61 : decode cX3_lengthOfMonth 61 = .ok (.iload_n 1, 1) := by decide +kernel
theorem dX3_lengthOfMonth_62 : decode cX3_lengthOfMonth 62 = .ok (.bipush 11, 2) := by decide +kernel
theorem dX3_lengthOfMonth_64 : decode cX3_lengthOfMonth 64 = .ok (.if_icmp .ne 8, 3) := by decide +kernel
theorem dX3_lengthOfMonth_67 : decode cX3_lengthOfMonth 67 = .ok (.bipush 30, 2) := by decide +kernel
theorem dX3_lengthOfMonth_69 : decode cX3_lengthOfMonth 69 = .ok (.goto 5, 3) := by decide +kernel
theorem dX3_lengthOfMonth_72 : decode cX3_lengthOfMonth 72 = .ok (.bipush 31, 2) := by decide +kernel
theorem dX3_lengthOfMonth_74 : decode cX3_lengthOfMonth 74 = .ok (.ireturn, 1) := by decide +kernel
theorem dX3_dayOf_0 : decode cX3_dayOf 0 = .ok (.iload_n 0, 1) := by decide +kernel
theorem dX3_dayOf_1 : decode cX3_dayOf 1 = .ok (.bipush 100, 2) := by decide +kernel
theorem dX3_dayOf_3 : decode cX3_dayOf 3 = .ok (.idiv, 1) := by decide +kernel
theorem dX3_dayOf_4 : decode cX3_dayOf 4 = .ok (.bipush 100, 2) := by decide +kernel
theorem dX3_dayOf_6 : decode cX3_dayOf 6 = .ok (.irem, 1) := by decide +kernel
theorem dX3_dayOf_7 : decode cX3_dayOf 7 = .ok (.istore_n 1, 1) := by decide +kernel
theorem dX3_dayOf_8 : decode cX3_dayOf 8 = .ok (.iload_n 1, 1) := by decide +kernel
theorem dX3_dayOf_9 : decode cX3_dayOf 9 = .ok (.iconst 2, 1) := by decide +kernel
theorem dX3_dayOf_10 : decode cX3_dayOf 10 = .ok (.if_icmp .gt 13, 3) := by decide +kernel
theorem dX3_dayOf_13 : decode cX3_dayOf 13 = .ok (.iload_n 0, 1) := by decide +kernel
theorem dX3_dayOf_14 : decode cX3_dayOf 14 = .ok (.sipush 10000, 3) := by decide +kernel
theorem dX3_dayOf_17 : decode cX3_dayOf 17 = .ok (.idiv, 1) := by decide +kernel
theorem dX3_dayOf_18 : decode cX3_dayOf 18 = .ok (.iconst 1, 1) := by decide +kernel
theorem dX3_dayOf_19 : decode cX3_dayOf 19 = .ok (.isub, 1) := by decide +kernel
theorem dX3_dayOf_20 : decode cX3_dayOf 20 = .ok (.goto 8, 3) := by decide +kernel
theorem dX3_dayOf_23 : decode cX3_dayOf 23 = .ok (.iload_n 0, 1) := by decide +kernel
theorem dX3_dayOf_24 : decode cX3_dayOf 24 = .ok (.sipush 10000, 3) := by decide +kernel
theorem dX3_dayOf_27 : decode cX3_dayOf 27 = .ok (.idiv, 1) := by decide +kernel
theorem dX3_dayOf_28 : decode cX3_dayOf 28 = .ok (.istore_n 2, 1) := by decide +kernel
theorem dX3_dayOf_29 : decode cX3_dayOf 29 = .ok (.iload_n 1, 1) := by decide +kernel
theorem dX3_dayOf_30 : decode cX3_dayOf 30 = .ok (.iconst 2, 1) := by decide +kernel
theorem dX3_dayOf_31 : decode cX3_dayOf 31 = .ok (.if_icmp .gt 10, 3) := by decide +kernel
theorem dX3_dayOf_34 : decode cX3_dayOf 34 = .ok (.iload_n 1, 1) := by decide +kernel
theorem dX3_dayOf_35 : decode cX3_dayOf 35 = .ok (.bipush 9, 2) := by decide +kernel
theorem dX3_dayOf_37 : decode cX3_dayOf 37 = .ok (.iadd, 1) := by decide +kernel
theorem dX3_dayOf_38 : decode cX3_dayOf 38 = .ok (.goto 6, 3) := by decide +kernel
theorem dX3_dayOf_41 : decode cX3_dayOf 41 = .ok (.iload_n 1, 1) := by decide +kernel
theorem dX3_dayOf_42 : decode cX3_dayOf 42 = .ok (.iconst 3, 1) := by decide +kernel
theorem dX3_dayOf_43 : decode cX3_dayOf 43 = .ok (.isub, 1) := by decide +kernel
theorem dX3_dayOf_44 : decode cX3_dayOf 44 = .ok (.istore_n 3, 1) := by decide +kernel
theorem dX3_dayOf_45 : decode cX3_dayOf 45 = .ok (.sipush 153, 3) := by decide +kernel
theorem dX3_dayOf_48 : decode cX3_dayOf 48 = .ok (.iload_n 3, 1) := by decide +kernel
theorem dX3_dayOf_49 : decode cX3_dayOf 49 = .ok (.imul, 1) := by decide +kernel
theorem dX3_dayOf_50 : decode cX3_dayOf 50 = .ok (.iconst 2, 1) := by decide +kernel
theorem dX3_dayOf_51 : decode cX3_dayOf 51 = .ok (.iadd, 1) := by decide +kernel
theorem dX3_dayOf_52 : decode cX3_dayOf 52 = .ok (.iconst 5, 1) := by decide +kernel
theorem dX3_dayOf_53 : decode cX3_dayOf 53 = .ok (.idiv, 1) := by decide +kernel
theorem dX3_dayOf_54 : decode cX3_dayOf 54 = .ok (.iload_n 0, 1) := by decide +kernel
theorem dX3_dayOf_55 : decode cX3_dayOf 55 = .ok (.bipush 100, 2) := by decide +kernel
theorem dX3_dayOf_57 : decode cX3_dayOf 57 = .ok (.irem, 1) := by decide +kernel
theorem dX3_dayOf_58 : decode cX3_dayOf 58 = .ok (.iadd, 1) := by decide +kernel
theorem dX3_dayOf_59 : decode cX3_dayOf 59 = .ok (.iconst 1, 1) := by decide +kernel
theorem dX3_dayOf_60 : decode cX3_dayOf 60 = .ok (.isub, 1) := by decide +kernel
theorem dX3_dayOf_61 : decode cX3_dayOf 61 = .ok (.istore 4, 2) := by decide +kernel
theorem dX3_dayOf_63 : decode cX3_dayOf 63 = .ok (.iload_n 2, 1) := by decide +kernel
theorem dX3_dayOf_64 : decode cX3_dayOf 64 = .ok (.sipush 365, 3) := by decide +kernel
theorem dX3_dayOf_67 : decode cX3_dayOf 67 = .ok (.imul, 1) := by decide +kernel
theorem dX3_dayOf_68 : decode cX3_dayOf 68 = .ok (.iload_n 2, 1) := by decide +kernel
theorem dX3_dayOf_69 : decode cX3_dayOf 69 = .ok (.iconst 4, 1) := by decide +kernel
theorem dX3_dayOf_70 : decode cX3_dayOf 70 = .ok (.idiv, 1) := by decide +kernel
theorem dX3_dayOf_71 : decode cX3_dayOf 71 = .ok (.iadd, 1) := by decide +kernel
theorem dX3_dayOf_72 : decode cX3_dayOf 72 = .ok (.iload_n 2, 1) := by decide +kernel
theorem dX3_dayOf_73 : decode cX3_dayOf 73 = .ok (.bipush 100, 2) := by decide +kernel
theorem dX3_dayOf_75 : decode cX3_dayOf 75 = .ok (.idiv, 1) := by decide +kernel
theorem dX3_dayOf_76 : decode cX3_dayOf 76 = .ok (.isub, 1) := by decide +kernel
theorem dX3_dayOf_77 : decode cX3_dayOf 77 = .ok (.iload_n 2, 1) := by decide +kernel
theorem dX3_dayOf_78 : decode cX3_dayOf 78 = .ok (.sipush 400, 3) := by decide +kernel
theorem dX3_dayOf_81 : decode cX3_dayOf 81 = .ok (.idiv, 1) := by decide +kernel
theorem dX3_dayOf_82 : decode cX3_dayOf 82 = .ok (.iadd, 1) := by decide +kernel
theorem dX3_dayOf_83 : decode cX3_dayOf 83 = .ok (.iload 4, 2) := by decide +kernel
theorem dX3_dayOf_85 : decode cX3_dayOf 85 = .ok (.iadd, 1) := by decide +kernel
theorem dX3_dayOf_86 : decode cX3_dayOf 86 = .ok (.ldc 15, 2) := by decide +kernel
theorem dX3_dayOf_88 : decode cX3_dayOf 88 = .ok (.isub, 1) := by decide +kernel
theorem dX3_dayOf_89 : decode cX3_dayOf 89 = .ok (.ireturn, 1) := by decide +kernel
theorem dX3_numberOf_0 : decode cX3_numberOf 0 = .ok (.iload_n 0, 1) := by decide +kernel
theorem dX3_numberOf_1 : decode cX3_numberOf 1 = .ok (.ldc 15, 2) := by decide +kernel
theorem dX3_numberOf_3 : decode cX3_numberOf 3 = .ok (.iadd, 1) := by decide +kernel
theorem dX3_numberOf_4 : decode cX3_numberOf 4 = .ok (.istore_n 1, 1) := by decide +kernel
theorem dX3_numberOf_5 : decode cX3_numberOf 5 = .ok (.iload_n 1, 1) := by decide +kernel
theorem dX3_numberOf_6 : decode cX3_numberOf 6 = .ok (.ldc 16, 2) := by decide +kernel
theorem dX3_numberOf_8 : decode cX3_numberOf 8 = .ok (.idiv, 1) := by decide +kernel
theorem dX3_numberOf_9 : decode cX3_numberOf 9 = .ok (.istore_n 2, 1) := by decide +kernel
theorem dX3_numberOf_10 : decode cX3_numberOf 10 = .ok (.iload_n 1, 1) := by decide +kernel
theorem dX3_numberOf_11 : decode cX3_numberOf 11 = .ok (.iload_n 2, 1) := by decide +kernel
theorem dX3_numberOf_12 : decode cX3_numberOf 12 = .ok (.ldc 16, 2) := by decide +kernel
theorem dX3_numberOf_14 : decode cX3_numberOf 14 = .ok (.imul, 1) := by decide +kernel
theorem dX3_numberOf_15 : decode cX3_numberOf 15 = .ok (.isub, 1) := by decide +kernel
theorem dX3_numberOf_16 : decode cX3_numberOf 16 = .ok (.istore_n 3, 1) := by decide +kernel
theorem dX3_numberOf_17 : decode cX3_numberOf 17 = .ok (.iload_n 3, 1) := by decide +kernel
theorem dX3_numberOf_18 : decode cX3_numberOf 18 = .ok (.iload_n 3, 1) := by decide +kernel
theorem dX3_numberOf_19 : decode cX3_numberOf 19 = .ok (.sipush 1460, 3) := by decide +kernel
theorem dX3_numberOf_22 : decode cX3_numberOf 22 = .ok (.idiv, 1) := by decide +kernel
theorem dX3_numberOf_23 : decode cX3_numberOf 23 = .ok (.isub, 1) := by decide +kernel
theorem dX3_numberOf_24 : decode cX3_numberOf 24 = .ok (.iload_n 3, 1) := by decide +kernel
theorem dX3_numberOf_25 : decode cX3_numberOf 25 = .ok (.ldc 17, 2) := by decide +kernel
theorem dX3_numberOf_27 : decode cX3_numberOf 27 = .ok (.idiv, 1) := by decide +kernel
theorem dX3_numberOf_28 : decode cX3_numberOf 28 = .ok (.iadd, 1) := by decide +kernel
theorem dX3_numberOf_29 : decode cX3_numberOf 29 = .ok (.iload_n 3, 1) := by decide +kernel
theorem dX3_numberOf_30 : decode cX3_numberOf 30 = .ok (.ldc 18, 2) := by decide +kernel
theorem dX3_numberOf_32 : decode cX3_numberOf 32 = .ok (.idiv, 1) := by decide +kernel
theorem dX3_numberOf_33 : decode cX3_numberOf 33 = .ok (.isub, 1) := by decide +kernel
theorem dX3_numberOf_34 : decode cX3_numberOf 34 = .ok (.sipush 365, 3) := by decide +kernel
theorem dX3_numberOf_37 : decode cX3_numberOf 37 = .ok (.idiv, 1) := by decide +kernel
theorem dX3_numberOf_38 : decode cX3_numberOf 38 = .ok (.istore 4, 2) := by decide +kernel
theorem dX3_numberOf_40 : decode cX3_numberOf 40 = .ok (.iload_n 3, 1) := by decide +kernel
theorem dX3_numberOf_41 : decode cX3_numberOf 41 = .ok (.sipush 365, 3) := by decide +kernel
theorem dX3_numberOf_44 : decode cX3_numberOf 44 = .ok (.iload 4, 2) := by decide +kernel
theorem dX3_numberOf_46 : decode cX3_numberOf 46 = .ok (.imul, 1) := by decide +kernel
theorem dX3_numberOf_47 : decode cX3_numberOf 47 = .ok (.iload 4, 2) := by decide +kernel
theorem dX3_numberOf_49 : decode cX3_numberOf 49 = .ok (.iconst 4, 1) := by decide +kernel
theorem dX3_numberOf_50 : decode cX3_numberOf 50 = .ok (.idiv, 1) := by decide +kernel
theorem dX3_numberOf_51 : decode cX3_numberOf 51 = .ok (.iadd, 1) := by decide +kernel
theorem dX3_numberOf_52 : decode cX3_numberOf 52 = .ok (.iload 4, 2) := by decide +kernel
theorem dX3_numberOf_54 : decode cX3_numberOf 54 = .ok (.bipush 100, 2) := by decide +kernel
theorem dX3_numberOf_56 : decode cX3_numberOf 56 = .ok (.idiv, 1) := by decide +kernel
theorem dX3_numberOf_57 : decode cX3_numberOf 57 = .ok (.isub, 1) := by decide +kernel
theorem dX3_numberOf_58 : decode cX3_numberOf 58 = .ok (.isub, 1) := by decide +kernel
theorem dX3_numberOf_59 : decode cX3_numberOf 59 = .ok (.istore 5, 2) := by decide +kernel
theorem dX3_numberOf_61 : decode cX3_numberOf 61 = .ok (.iconst 5, 1) := by decide +kernel
theorem dX3_numberOf_62 : decode cX3_numberOf 62 = .ok (.iload 5, 2) := by decide +kernel
theorem dX3_numberOf_64 : decode cX3_numberOf 64 = .ok (.imul, 1) := by decide +kernel
theorem dX3_numberOf_65 : decode cX3_numberOf 65 = .ok (.iconst 2, 1) := by decide +kernel
theorem dX3_numberOf_66 : decode cX3_numberOf 66 = .ok (.iadd, 1) := by decide +kernel
theorem dX3_numberOf_67 : decode cX3_numberOf 67 = .ok (.sipush 153, 3) := by decide +kernel
theorem dX3_numberOf_70 : decode cX3_numberOf 70 = .ok (.idiv, 1) := by decide +kernel
theorem dX3_numberOf_71 : decode cX3_numberOf 71 = .ok (.istore 6, 2) := by decide +kernel
theorem dX3_numberOf_73 : decode cX3_numberOf 73 = .ok (.iload 5, 2) := by decide +kernel
theorem dX3_numberOf_75 : decode cX3_numberOf 75 = .ok (.sipush 153, 3) := by decide +kernel
theorem dX3_numberOf_78 : decode cX3_numberOf 78 = .ok (.iload 6, 2) := by decide +kernel
theorem dX3_numberOf_80 : decode cX3_numberOf 80 = .ok (.imul, 1) := by decide +kernel
theorem dX3_numberOf_81 : decode cX3_numberOf 81 = .ok (.iconst 2, 1) := by decide +kernel
theorem dX3_numberOf_82 : decode cX3_numberOf 82 = .ok (.iadd, 1) := by decide +kernel
theorem dX3_numberOf_83 : decode cX3_numberOf 83 = .ok (.iconst 5, 1) := by decide +kernel
theorem dX3_numberOf_84 : decode cX3_numberOf 84 = .ok (.idiv, 1) := by decide +kernel
theorem dX3_numberOf_85 : decode cX3_numberOf 85 = .ok (.isub, 1) := by decide +kernel
theorem dX3_numberOf_86 : decode cX3_numberOf 86 = .ok (.iconst 1, 1) := by decide +kernel
theorem dX3_numberOf_87 : decode cX3_numberOf 87 = .ok (.iadd, 1) := by decide +kernel
theorem dX3_numberOf_88 : decode cX3_numberOf 88 = .ok (.istore 7, 2) := by decide +kernel
theorem dX3_numberOf_90 : decode cX3_numberOf 90 = .ok (.iload 6, 2) := by decide +kernel
theorem dX3_numberOf_92 : decode cX3_numberOf 92 = .ok (.bipush 10, 2) := by decide +kernel
theorem dX3_numberOf_94 : decode cX3_numberOf 94 = .ok (.if_icmp .ge 10, 3) := by decide +kernel
theorem dX3_numberOf_97 : decode cX3_numberOf 97 = .ok (.iload 6, 2) := by decide +kernel
theorem dX3_numberOf_99 : decode cX3_numberOf 99 = .ok (.iconst 3, 1) := by decide +kernel
theorem dX3_numberOf_100 : decode cX3_numberOf 100 = .ok (.iadd, 1) := by decide +kernel
theorem dX3_numberOf_101 : decode cX3_numberOf 101 = .ok (.goto 8, 3) := by decide +kernel
theorem dX3_numberOf_104 : decode cX3_numberOf 104 = .ok (.iload 6, 2) := by decide +kernel
theorem dX3_numberOf_106 : decode cX3_numberOf 106 = .ok (.bipush 9, 2) := by decide +kernel
