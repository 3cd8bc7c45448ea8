theorem dX11_bondOf_23 : decode cX11_bondOf 23 = .ok (.aload_n 0, 1) := by decide +kernel
theorem dX11_bondOf_24 : decode cX11_bondOf 24 = .ok (.getfield 60, 3) := by decide +kernel
theorem dX11_bondOf_27 : decode cX11_bondOf 27 = .ok (.getfield 352, 3) := by decide +kernel
theorem dX11_bondOf_30 : decode cX11_bondOf 30 = .ok (.arraylength, 1) := by decide +kernel
theorem dX11_bondOf_31 : decode cX11_bondOf 31 = .ok (.if_icmp .lt 5, 3) := by decide +kernel
theorem dX11_bondOf_34 : decode cX11_bondOf 34 = .ok (.aconst_null, 1) := by decide +kernel
theorem dX11_bondOf_35 : decode cX11_bondOf 35 = .ok (.areturn, 1) := by decide +kernel
theorem dX11_bondOf_36 : decode cX11_bondOf 36 = .ok (.aload_n 0, 1) := by decide +kernel
theorem dX11_bondOf_37 : decode cX11_bondOf 37 = .ok (.getfield 60, 3) := by decide +kernel
theorem dX11_bondOf_40 : decode cX11_bondOf 40 = .ok (.getfield 352, 3) := by decide +kernel
theorem dX11_bondOf_43 : decode cX11_bondOf 43 = .ok (.iload_n 1, 1) := by decide +kernel
theorem dX11_bondOf_44 : decode cX11_bondOf 44 = .ok (.aaload, 1) := by decide +kernel
theorem dX11_bondOf_45 : decode cX11_bondOf 45 = .ok (.areturn, 1) := by decide +kernel
set_option maxRecDepth 20000 in
theorem ggX11_openSettle_X11_bondOf : GoodIn wsX11_openSettle wsX11_bondOf := goodIn_r _ [7, 8, 9, 10, 11, 126, 127, 128, 129, 130, 131, 132, 133, 134, 135, 136, 137, 138, 139, 140, 141, 142, 143, 144, 145, 146, 147, 148, 149, 150, 151, 152] (by decide +kernel) (by decide +kernel)
set_option maxRecDepth 20000 in
theorem gX11_openSettle_X11_bondOf : GoodIn wsX11_openSettle (wsV RX11 172 RX11 yX11_bondOf wsX11_bondOf) := goodIn_app (goodIn_of _ (by decide +kernel)) ggX11_openSettle_X11_bondOf
set_option maxRecDepth 20000 in
theorem ggX11_openSettle_X3_isDate : GoodIn wsX11_openSettle wsX3_isDate := goodIn_r _ [15, 16, 17, 18, 19, 14, 20] (by decide +kernel) (by decide +kernel)
set_option maxRecDepth 20000 in
theorem gX11_openSettle_X3_isDate : GoodIn wsX11_openSettle (va_wsS RX11 127 yX3_isDate wsX3_isDate) := goodIn_app (goodIn_of _ (by decide +kernel)) ggX11_openSettle_X3_isDate
set_option maxRecDepth 20000 in
theorem ggX11_openSettle_X3_dayOf : GoodIn wsX11_openSettle wsX3_dayOf := goodIn_r _ [23, 24] (by decide +kernel) (by decide +kernel)
set_option maxRecDepth 20000 in
theorem gX11_openSettle_X3_dayOf : GoodIn wsX11_openSettle (va_wsS RX11 136 yX3_dayOf wsX3_dayOf) := goodIn_app (goodIn_of _ (by decide +kernel)) ggX11_openSettle_X3_dayOf
theorem dX11_openSettle_0 : decode cX11_openSettle 0 = .ok (.aload_n 0, 1) := by decide +kernel
theorem dX11_openSettle_1 : decode cX11_openSettle 1 = .ok (.iload_n 1, 1) := by decide +kernel
theorem dX11_openSettle_2 : decode cX11_openSettle 2 = .ok (.invokevirtual 172, 3) := by decide +kernel
theorem dX11_openSettle_5 : decode cX11_openSettle 5 = .ok (.astore 4, 2) := by decide +kernel
theorem dX11_openSettle_7 : decode cX11_openSettle 7 = .ok (.aload 4, 2) := by decide +kernel
theorem dX11_openSettle_9 : decode cX11_openSettle 9 = .ok (.ifnonnull 10, 3) := by decide +kernel
theorem dX11_openSettle_12 : decode cX11_openSettle 12 = .ok (.aload_n 0, 1) := by decide +kernel
theorem dX11_openSettle_13 : decode cX11_openSettle 13 = .ok (.iconst 1, 1) := by decide +kernel
theorem dX11_openSettle_14 : decode cX11_openSettle 14 = .ok (.putfield 74, 3) := by decide +kernel
theorem dX11_openSettle_17 : decode cX11_openSettle 17 = .ok (.iconst 0, 1) := by decide +kernel
theorem dX11_openSettle_18 : decode cX11_openSettle 18 = .ok (.ireturn, 1) := by decide +kernel
theorem dX11_openSettle_19 : decode cX11_openSettle 19 = .ok (.iload_n 2, 1) := by decide +kernel
theorem dX11_openSettle_20 : decode cX11_openSettle 20 = .ok (.invokestatic 127, 3) := by decide +kernel
theorem dX11_openSettle_23 : decode cX11_openSettle 23 = .ok (.ifCond .eq 7, 3) := by decide +kernel
theorem dX11_openSettle_26 : decode cX11_openSettle 26 = .ok (.iload_n 3, 1) := by decide +kernel
theorem dX11_openSettle_27 : decode cX11_openSettle 27 = .ok (.ifCond .ne 10, 3) := by decide +kernel
theorem dX11_openSettle_30 : decode cX11_openSettle 30 = .ok (.aload_n 0, 1) := by decide +kernel
theorem dX11_openSettle_31 : decode cX11_openSettle 31 = .ok (.iconst 2, 1) := by decide +kernel
theorem dX11_openSettle_32 : decode cX11_openSettle 32 = .ok (.putfield 74, 3) := by decide +kernel
theorem dX11_openSettle_35 : decode cX11_openSettle 35 = .ok (.iconst 0, 1) := by decide +kernel
theorem dX11_openSettle_36 : decode cX11_openSettle 36 = .ok (.ireturn, 1) := by decide +kernel
theorem dX11_openSettle_37 : decode cX11_openSettle 37 = .ok (.iload_n 2, 1) := by decide +kernel
theorem dX11_openSettle_38 : decode cX11_openSettle 38 = .ok (.invokestatic 136, 3) := by decide +kernel
theorem dX11_openSettle_41 : decode cX11_openSettle 41 = .ok (.istore 5, 2) := by decide +kernel
theorem dX11_openSettle_43 : decode cX11_openSettle 43 = .ok (.aload 4, 2) := by decide +kernel
theorem dX11_openSettle_45 : decode cX11_openSettle 45 = .ok (.iload 5, 2) := by decide +kernel
theorem dX11_openSettle_47 : decode cX11_openSettle 47 = .ok (.invokevirtual 356, 3) := by decide +kernel
theorem dX11_openSettle_50 : decode cX11_openSettle 50 = .ok (.ifCond .ne 10, 3) := by decide +kernel
theorem dX11_openSettle_53 : decode cX11_openSettle 53 = .ok (.aload_n 0, 1) := by decide +kernel
theorem dX11_openSettle_54 : decode cX11_openSettle 54 = .ok (.iconst 5, 1) := by decide +kernel
theorem dX11_openSettle_55 : decode cX11_openSettle 55 = .ok (.putfield 74, 3) := by decide +kernel
theorem dX11_openSettle_58 : decode cX11_openSettle 58 = .ok (.iconst 0, 1) := by decide +kernel
theorem dX11_openSettle_59 : decode cX11_openSettle 59 = .ok (.ireturn, 1) := by decide +kernel
theorem dX11_openSettle_60 : decode cX11_openSettle 60 = .ok (.aload_n 0, 1) := by decide +kernel
theorem dX11_openSettle_61 : decode cX11_openSettle 61 = .ok (.iconst 0, 1) := by decide +kernel
theorem dX11_openSettle_62 : decode cX11_openSettle 62 = .ok (.putfield 74, 3) := by decide +kernel
theorem dX11_openSettle_65 : decode cX11_openSettle 65 = .ok (.aload_n 0, 1) := by decide +kernel
theorem dX11_openSettle_66 : decode cX11_openSettle 66 = .ok (.getfield 19, 3) := by decide +kernel
theorem dX11_openSettle_69 : decode cX11_openSettle 69 = .ok (.aload 4, 2) := by decide +kernel
theorem dX11_openSettle_71 : decode cX11_openSettle 71 = .ok (.iload 5, 2) := by decide +kernel
theorem dX11_openSettle_73 : decode cX11_openSettle 73 = .ok (.invokevirtual 359, 3) := by decide +kernel
theorem dX11_openSettle_76 : decode cX11_openSettle 76 = .ok (.iconst 1, 1) := by decide +kernel
theorem dX11_openSettle_77 : decode cX11_openSettle 77 = .ok (.ireturn, 1) := by decide +kernel
set_option maxRecDepth 20000 in
theorem ggX11_mayGo_X3_dayOf : GoodIn wsX11_mayGo wsX3_dayOf := goodIn_r _ [9, 10] (by decide +kernel) (by decide +kernel)
set_option maxRecDepth 20000 in
theorem gX11_mayGo_X3_dayOf : GoodIn wsX11_mayGo (va_wsS RX11 136 yX3_dayOf wsX3_dayOf) := goodIn_app (goodIn_of _ (by decide +kernel)) ggX11_mayGo_X3_dayOf
theorem dX11_mayGo_0 : decode cX11_mayGo 0 = .ok (.aload_n 0, 1) := by decide +kernel
theorem dX11_mayGo_1 : decode cX11_mayGo 1 = .ok (.getfield 67, 3) := by decide +kernel
theorem dX11_mayGo_4 : decode cX11_mayGo 4 = .ok (.ifCond .ne 10, 3) := by decide +kernel
theorem dX11_mayGo_7 : decode cX11_mayGo 7 = .ok (.aload_n 0, 1) := by decide +kernel
theorem dX11_mayGo_8 : decode cX11_mayGo 8 = .ok (.iconst 1, 1) := by decide +kernel
theorem dX11_mayGo_9 : decode cX11_mayGo 9 = .ok (.putfield 74, 3) := by decide +kernel
theorem dX11_mayGo_12 : decode cX11_mayGo 12 = .ok (.iconst 0, 1) := by decide +kernel
theorem dX11_mayGo_13 : decode cX11_mayGo 13 = .ok (.ireturn, 1) := by decide +kernel
theorem dX11_mayGo_14 : decode cX11_mayGo 14 = .ok (.iload_n 1, 1) := by decide +kernel
theorem dX11_mayGo_15 : decode cX11_mayGo 15 = .ok (.iconst 1, 1) := by decide +kernel
theorem dX11_mayGo_16 : decode cX11_mayGo 16 = .ok (.if_icmp .lt 28, 3) := by decide +kernel
theorem dX11_mayGo_19 : decode cX11_mayGo 19 = .ok (.iload_n 1, 1) := by decide +kernel
theorem dX11_mayGo_20 : decode cX11_mayGo 20 = .ok (.sipush 4000, 3) := by decide +kernel
theorem dX11_mayGo_23 : decode cX11_mayGo 23 = .ok (.if_icmp .gt 21, 3) := by decide +kernel
theorem dX11_mayGo_26 : decode cX11_mayGo 26 = .ok (.aload_n 0, 1) := by decide +kernel
theorem dX11_mayGo_27 : decode cX11_mayGo 27 = .ok (.getfield 47, 3) := by decide +kernel
theorem dX11_mayGo_30 : decode cX11_mayGo 30 = .ok (.getfield 342, 3) := by decide +kernel
theorem dX11_mayGo_33 : decode cX11_mayGo 33 = .ok (.iload_n 1, 1) := by decide +kernel
theorem dX11_mayGo_34 : decode cX11_mayGo 34 = .ok (.iadd, 1) := by decide +kernel
theorem dX11_mayGo_35 : decode cX11_mayGo 35 = .ok (.ldc_w 391, 3) := by decide +kernel
theorem dX11_mayGo_38 : decode cX11_mayGo 38 = .ok (.invokestatic 136, 3) := by decide +kernel
theorem dX11_mayGo_41 : decode cX11_mayGo 41 = .ok (.if_icmp .le 10, 3) := by decide +kernel
theorem dX11_mayGo_44 : decode cX11_mayGo 44 = .ok (.aload_n 0, 1) := by decide +kernel
theorem dX11_mayGo_45 : decode cX11_mayGo 45 = .ok (.iconst 2, 1) := by decide +kernel
theorem dX11_mayGo_46 : decode cX11_mayGo 46 = .ok (.putfield 74, 3) := by decide +kernel
theorem dX11_mayGo_49 : decode cX11_mayGo 49 = .ok (.iconst 0, 1) := by decide +kernel
theorem dX11_mayGo_50 : decode cX11_mayGo 50 = .ok (.ireturn, 1) := by decide +kernel
theorem dX11_mayGo_51 : decode cX11_mayGo 51 = .ok (.aload_n 0, 1) := by decide +kernel
theorem dX11_mayGo_52 : decode cX11_mayGo 52 = .ok (.iconst 0, 1) := by decide +kernel
theorem dX11_mayGo_53 : decode cX11_mayGo 53 = .ok (.putfield 74, 3) := by decide +kernel
theorem dX11_mayGo_56 : decode cX11_mayGo 56 = .ok (.iconst 1, 1) := by decide +kernel
theorem dX11_mayGo_57 : decode cX11_mayGo 57 = .ok (.ireturn, 1) := by decide +kernel
theorem dX11_arePoints_0 : decode cX11_arePoints 0 = .ok (.iload_n 0, 1) := by decide +kernel
theorem dX11_arePoints_1 : decode cX11_arePoints 1 = .ok (.sipush (-2000), 3) := by decide +kernel
theorem dX11_arePoints_4 : decode cX11_arePoints 4 = .ok (.if_icmp .lt 14, 3) := by decide +kernel
theorem dX11_arePoints_7 : decode cX11_arePoints 7 = .ok (.iload_n 0, 1) := by decide +kernel
theorem dX11_arePoints_8 : decode cX11_arePoints 8 = .ok (.sipush 10000, 3) := by decide +kernel
theorem dX11_arePoints_11 : decode cX11_arePoints 11 = .ok (.if_icmp .gt 7, 3) := by decide +kernel
theorem dX11_arePoints_14 : decode cX11_arePoints 14 = .ok (.iconst 1, 1) := by decide +kernel
theorem dX11_arePoints_15 : decode cX11_arePoints 15 = .ok (.goto 4, 3) := by decide +kernel
theorem dX11_arePoints_18 : decode cX11_arePoints 18 = .ok (.iconst 0, 1) := by decide +kernel
theorem dX11_arePoints_19 : decode cX11_arePoints 19 = .ok (.ireturn, 1) := by decide +kernel
theorem dX11_isPrice_0 : decode cX11_isPrice 0 = .ok (.iload_n 0, 1) := by decide +kernel
theorem dX11_isPrice_1 : decode cX11_isPrice 1 = .ok (.iconst 1, 1) := by decide +kernel
theorem dX11_isPrice_2 : decode cX11_isPrice 2 = .ok (.if_icmp .lt 14, 3) := by decide +kernel
theorem dX11_isPrice_5 : decode cX11_isPrice 5 = .ok (.iload_n 0, 1) := by decide +kernel
theorem dX11_isPrice_6 : decode cX11_isPrice 6 = .ok (.ldc_w 406, 3) := by decide +kernel
theorem dX11_isPrice_9 : decode cX11_isPrice 9 = .ok (.if_icmp .gt 7, 3) := by decide +kernel
theorem dX11_isPrice_12 : decode cX11_isPrice 12 = .ok (.iconst 1, 1) := by decide +kernel
theorem dX11_isPrice_13 : decode cX11_isPrice 13 = .ok (.goto 4, 3) := by decide +kernel
theorem dX11_isPrice_16 : decode cX11_isPrice 16 = .ok (.iconst 0, 1) := by decide +kernel
theorem dX11_isPrice_17 : decode cX11_isPrice 17 = .ok (.ireturn, 1) := by decide +kernel
theorem dX12_refused_0 : decode cX12_refused 0 = .ok (.aload_n 0, 1) := by decide +kernel
theorem dX12_refused_1 : decode cX12_refused 1 = .ok (.iload_n 1, 1) := by decide +kernel
theorem dX12_refused_2 : decode cX12_refused 2 = .ok (.putfield 110, 3) := by decide +kernel
theorem dX12_refused_5 : decode cX12_refused 5 = .ok (.aload_n 0, 1) := by decide +kernel
theorem dX12_refused_6 : decode cX12_refused 6 = .ok (.iconst (-1), 1) := by decide +kernel
theorem dX12_refused_7 : decode cX12_refused 7 = .ok (.putfield 9, 3) := by decide +kernel
theorem dX12_refused_10 : decode cX12_refused 10 = .ok (.iconst (-1), 1) := by decide +kernel
theorem dX12_refused_11 : decode cX12_refused 11 = .ok (.ireturn, 1) := by decide +kernel
set_option maxRecDepth 20000 in
theorem ggX12_refusedLong_X12_refused : GoodIn wsX12_refusedLong wsX12_refused := goodIn_r _ [5, 6, 7, 8, 9, 10, 11, 12, 13, 14, 15, 16, 17, 18, 19, 20, 21, 22, 23, 24, 25, 26, 27, 28, 29, 30, 31, 32, 33, 34, 35, 36, 37, 38, 39, 40, 41, 42, 43, 44, 45, 46, 47, 48, 49, 50, 51, 52, 53, 54, 55, 56, 57, 58, 59, 60, 61, 62, 63, 64, 65, 66, 67, 68, 69, 70, 71, 72, 73, 74, 75, 76] (by decide +kernel) (by decide +kernel)
set_option maxRecDepth 20000 in
theorem gX12_refusedLong_X12_refused : GoodIn wsX12_refusedLong (wsV RX12 113 RX12 yX12_refused wsX12_refused) := goodIn_app (goodIn_of _ (by decide +kernel)) ggX12_refusedLong_X12_refused
theorem dX12_refusedLong_0 : decode cX12_refusedLong 0 = .ok (.aload_n 0, 1) := by decide +kernel
theorem dX12_refusedLong_1 : decode cX12_refusedLong 1 = .ok (.iload_n 1, 1) := by decide +kernel
theorem dX12_refusedLong_2 : decode cX12_refusedLong 2 = .ok (.invokevirtual 113, 3) := by decide +kernel
theorem dX12_refusedLong_5 : decode cX12_refusedLong 5 = .ok (.pop, 1) := by decide +kernel
theorem dX12_refusedLong_6 : decode cX12_refusedLong 6 = .ok (.lload_n 2, 1) := by decide +kernel
theorem dX12_refusedLong_7 : decode cX12_refusedLong 7 = .ok (.lreturn, 1) := by decide +kernel
theorem dX12_good_0 : decode cX12_good 0 = .ok (.aload_n 0, 1) := by decide +kernel
theorem dX12_good_1 : decode cX12_good 1 = .ok (.iconst 0, 1) := by decide +kernel
theorem dX12_good_2 : decode cX12_good 2 = .ok (.putfield 110, 3) := by decide +kernel
theorem dX12_good_5 : decode cX12_good 5 = .ok (.aload_n 0, 1) := by decide +kernel
theorem dX12_good_6 : decode cX12_good 6 = .ok (.iconst (-1), 1) := by decide +kernel
theorem dX12_good_7 : decode cX12_good 7 = .ok (.putfield 9, 3) := by decide +kernel
theorem dX12_good_10 : decode cX12_good 10 = .ok (.iload_n 1, 1) := by decide +kernel
theorem dX12_good_11 : decode cX12_good 11 = .ok (.ireturn, 1) := by decide +kernel
set_option maxRecDepth 20000 in
theorem ggX12_goodLong_X12_good : GoodIn wsX12_goodLong wsX12_good := goodIn_r _ [5, 6, 7, 8, 9, 10, 11, 12, 13, 14, 15, 16, 17, 18, 19, 20, 21, 22, 23, 24, 25, 26, 27, 28, 29, 30, 31, 32, 33, 34, 35, 36, 37, 38, 39, 40, 41, 42, 43, 44, 45, 46, 47, 48, 49, 50, 51, 52, 53, 54, 55, 56, 57, 58, 59, 60, 61, 62, 63, 64, 65, 66, 67, 68, 69, 70, 71, 72, 73, 74, 75, 76] (by decide +kernel) (by decide +kernel)
set_option maxRecDepth 20000 in
theorem gX12_goodLong_X12_good : GoodIn wsX12_goodLong (wsV RX12 117 RX12 yX12_good wsX12_good) := goodIn_app (goodIn_of _ (by decide +kernel)) ggX12_goodLong_X12_good
theorem dX12_goodLong_0 : decode cX12_goodLong 0 = .ok (.aload_n 0, 1) := by decide +kernel
theorem dX12_goodLong_1 : decode cX12_goodLong 1 = .ok (.iconst 0, 1) := by decide +kernel
theorem dX12_goodLong_2 : decode cX12_goodLong 2 = .ok (.invokevirtual 117, 3) := by decide +kernel
theorem dX12_goodLong_5 : decode cX12_goodLong 5 = .ok (.pop, 1) := by decide +kernel
theorem dX12_goodLong_6 : decode cX12_goodLong 6 = .ok (.lload_n 1, 1) := by decide +kernel
theorem dX12_goodLong_7 : decode cX12_goodLong 7 = .ok (.lreturn, 1) := by decide +kernel
theorem dX12_in_0 : decode cX12_in 0 = .ok (.iload_n 0, 1) := by decide +kernel
theorem dX12_in_1 : decode cX12_in 1 = .ok (.iload_n 1, 1) := by decide +kernel
theorem dX12_in_2 : decode cX12_in 2 = .ok (.if_icmp .lt 12, 3) := by decide +kernel
theorem dX12_in_5 : decode cX12_in 5 = .ok (.iload_n 0, 1) := by decide +kernel
theorem dX12_in_6 : decode cX12_in 6 = .ok (.iload_n 2, 1) := by decide +kernel
theorem dX12_in_7 : decode cX12_in 7 = .ok (.if_icmp .gt 7, 3) := by decide +kernel
theorem dX12_in_10 : decode cX12_in 10 = .ok (.iconst 1, 1) := by decide +kernel
theorem dX12_in_11 : decode cX12_in 11 = .ok (.goto 4, 3) := by decide +kernel
theorem dX12_in_14 : decode cX12_in 14 = .ok (.iconst 0, 1) := by decide +kernel
theorem dX12_in_15 : decode cX12_in 15 = .ok (.ireturn, 1) := by decide +kernel
theorem dX12_daysIn_0 : decode cX12_daysIn 0 = .ok (.iload_n 1, 1) := by decide +kernel
theorem dX12_daysIn_1 : decode cX12_daysIn 1 = .ok (.iconst 2, 1) := by decide +kernel
theorem dX12_daysIn_2 : decode cX12_daysIn 2 = .ok (.if_icmp .ne 32, 3) := by decide +kernel
theorem dX12_daysIn_5 : decode cX12_daysIn 5 = .ok (.iload_n 0, 1) := by decide +kernel
theorem dX12_daysIn_6 : decode cX12_daysIn 6 = .ok (.iconst 4, 1) := by decide +kernel
theorem dX12_daysIn_7 : decode cX12_daysIn 7 = .ok (.irem, 1) := by decide +kernel
theorem dX12_daysIn_8 : decode cX12_daysIn 8 = .ok (.ifCond .ne 23, 3) := by decide +kernel
theorem dX12_daysIn_11 : decode cX12_daysIn 11 = .ok (.iload_n 0, 1) := by decide +kernel
theorem dX12_daysIn_12 : decode cX12_daysIn 12 = .ok (.bipush 100, 2) := by decide +kernel
theorem dX12_daysIn_14 : decode cX12_daysIn 14 = .ok (.irem, 1) := by decide +kernel
theorem dX12_daysIn_15 : decode cX12_daysIn 15 = .ok (.ifCond .ne 11, 3) := by decide +kernel
theorem dX12_daysIn_18 : decode cX12_daysIn 18 = .ok (.iload_n 0, 1) := by decide +kernel
theorem dX12_daysIn_19 : decode cX12_daysIn 19 = .ok (.sipush 400, 3) := by decide +kernel
theorem dX12_daysIn_22 : decode cX12_daysIn 22 = .ok (.irem, 1) := by decide +kernel
theorem dX12_daysIn_23 : decode cX12_daysIn 23 = .ok (.ifCond .ne 8, 3) := by decide +kernel
theorem dX12_daysIn_26 : decode cX12_daysIn 26 = .ok (.bipush 29, 2) := by decide +kernel
theorem dX12_daysIn_28 : decode cX12_daysIn 28 = .ok (.goto 5, 3) := by decide +kernel
theorem dX12_daysIn_31 : decode cX12_daysIn 31 = .ok (.bipush 28, 2) := by decide +kernel
theorem dX12_daysIn_33 : decode cX12_daysIn 33 = .ok (.ireturn, 1) := by decide +kernel
theorem dX12_daysIn_34 : decode cX12_daysIn 34 = .ok (.iload_n 1, 1) := by decide +kernel
theorem dX12_daysIn_35 : decode cX12_daysIn 35 = .ok (.iconst 4, 1) := by decide +kernel
theorem dX12_daysIn_36 : decode cX12_daysIn 36 = .ok (.if_icmp .eq 21, 3) := by decide +kernel
theorem dX12_daysIn_39 : decode cX12_daysIn 39 = .ok (.iload_n 1, 1) := by decide +kernel
theorem dX12_daysIn_40 : decode cX12_daysIn 40 = .ok (.bipush 6, 2) := by decide +kernel
theorem dX12_daysIn_42 : decode cX12_daysIn 42 = .ok (.if_icmp .eq 15, 3) := by decide +kernel
theorem dX12_daysIn_45 : decode cX12_daysIn 45 = .ok (.iload_n 1, 1) := by decide +kernel
theorem dX12_daysIn_46 : decode cX12_daysIn 46 = .ok (.bipush 9, 2) := by decide +kernel
theorem dX12_daysIn_48 : decode cX12_daysIn 48 = .ok (.if_icmp .eq 9, 3) := by decide +kernel
theorem dX12_daysIn_51 : decode cX12_daysIn 51 = .ok (.iload_n 1, 1) := by decide +kernel
theorem dX12_daysIn_52 : decode cX12_daysIn 52 = .ok (.bipush 11, 2) := by decide +kernel
theorem dX12_daysIn_54 : decode cX12_daysIn 54 = .ok (.if_icmp .ne 8, 3) := by decide +kernel
theorem dX12_daysIn_57 : decode cX12_daysIn 57 = .ok (.bipush 30, 2) := by decide +kernel
theorem dX12_daysIn_59 : decode cX12_daysIn 59 = .ok (.goto 5, 3) := by decide +kernel
theorem dX12_daysIn_62 : decode cX12_daysIn 62 = .ok (.bipush 31, 2) := by decide +kernel
theorem dX12_daysIn_64 : decode cX12_daysIn 64 = .ok (.ireturn, 1) := by decide +kernel
set_option maxRecDepth 20000 in
theorem ggX12_isDate_X12_in : GoodIn wsX12_isDate wsX12_in := goodIn_r _ [6] (by decide +kernel) (by decide +kernel)
set_option maxRecDepth 20000 in
theorem gX12_isDate_X12_in : GoodIn wsX12_isDate (va_wsS RX12 132 yX12_in wsX12_in) := goodIn_app (goodIn_of _ (by decide +kernel)) ggX12_isDate_X12_in
set_option maxRecDepth 20000 in
theorem ggX12_isDate_X12_daysIn : GoodIn wsX12_isDate wsX12_daysIn := goodIn_r _ [9] (by decide +kernel) (by decide +kernel)
set_option maxRecDepth 20000 in
theorem gX12_isDate_X12_daysIn : GoodIn wsX12_isDate (va_wsS RX12 136 yX12_daysIn wsX12_daysIn) := goodIn_app (goodIn_of _ (by decide +kernel)) ggX12_isDate_X12_daysIn
theorem dX12_isDate_0 : decode cX12_isDate 0 = .ok (.iload_n 0, 1) := by decide +kernel
theorem dX12_isDate_1 : decode cX12_isDate 1 = .ok (.sipush 10000, 3) := by decide +kernel
theorem dX12_isDate_4 : decode cX12_isDate 4 = .ok (.idiv, 1) := by decide +kernel
theorem dX12_isDate_5 : decode cX12_isDate 5 = .ok (.istore_n 1, 1) := by decide +kernel
theorem dX12_isDate_6 : decode cX12_isDate 6 = .ok (.iload_n 0, 1) := by decide +kernel
theorem dX12_isDate_7 : decode cX12_isDate 7 = .ok (.bipush 100, 2) := by decide +kernel
theorem dX12_isDate_9 : decode cX12_isDate 9 = .ok (.idiv, 1) := by decide +kernel
