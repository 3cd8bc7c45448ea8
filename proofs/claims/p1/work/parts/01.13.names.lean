theorem dX11_narrows_61 : decode cX11_narrows 61 = .ok (.ldc2_w 302, 3) := by decide +kernel
theorem dX11_narrows_64 : decode cX11_narrows 64 = .ok (.dcmp .g, 1) := by decide +kernel
theorem dX11_narrows_65 : decode cX11_narrows 65 = .ok (.ifCond .gt 6, 3) := by decide +kernel
theorem dX11_narrows_68 : decode cX11_narrows 68 = .ok (.iload 4, 2) := by decide +kernel
theorem dX11_narrows_70 : decode cX11_narrows 70 = .ok (.ireturn, 1) := by decide +kernel
theorem dX11_narrows_71 : decode cX11_narrows 71 = .ok (.aload_n 0, 1) := by decide +kernel
theorem dX11_narrows_72 : decode cX11_narrows 72 = .ok (.getfield 26, 3) := by decide +kernel
theorem dX11_narrows_75 : decode cX11_narrows 75 = .ok (.iload 4, 2) := by decide +kernel
theorem dX11_narrows_77 : decode cX11_narrows 77 = .ok (.invokevirtual 304, 3) := by decide +kernel
theorem dX11_narrows_80 : decode cX11_narrows 80 = .ok (.iinc 4 1, 3) := by decide +kernel
theorem dX11_narrows_83 : decode cX11_narrows 83 = .ok (.goto (-44), 3) := by decide +kernel
theorem dX11_narrows_86 : decode cX11_narrows 86 = .ok (.bipush (-2), 2) := by decide +kernel
theorem dX11_narrows_88 : decode cX11_narrows 88 = .ok (.ireturn, 1) := by decide +kernel
set_option maxRecDepth 20000 in
theorem ggX11_pointsAt_X11_isPrice : GoodIn wsX11_pointsAt wsX11_isPrice := goodIn_r _ [7, 8] (by decide +kernel) (by decide +kernel)
set_option maxRecDepth 20000 in
theorem gX11_pointsAt_X11_isPrice : GoodIn wsX11_pointsAt (va_wsS RX11 286 yX11_isPrice wsX11_isPrice) := goodIn_app (goodIn_of _ (by decide +kernel)) ggX11_pointsAt_X11_isPrice
set_option maxRecDepth 20000 in
theorem ggX11_pointsAt_X11_openSettle : GoodIn wsX11_pointsAt wsX11_openSettle := goodIn_r _ [12, 13, 3, 14, 15, 16, 6, 17, 18, 19, 20, 21, 22, 23, 24, 25, 26, 27, 28, 29, 30, 31, 32, 33, 34, 35, 36, 37, 38, 39, 40, 41, 42, 43, 44, 45, 46, 47, 48, 49, 50, 51, 52, 53, 54, 55, 56, 57, 58, 59, 60, 61, 62, 63, 64, 65, 66, 67, 68, 69, 70, 71, 72, 73, 74, 75, 76, 77, 78, 79, 80, 81, 82, 83, 84, 85, 86, 87, 88, 89, 90, 91, 92, 93, 94, 95, 96, 97, 98, 99, 100, 101, 102, 103, 104, 105, 106, 107, 108, 109, 110, 111, 112, 113, 114, 115, 116, 117, 118, 119, 120, 121, 122, 123, 124, 125, 126, 127, 128, 129, 130, 131, 132, 133, 134, 135, 152, 153, 154, 155, 156, 157, 158, 159, 160, 161, 162, 163, 164, 165, 166, 167, 168, 169, 170, 171, 172, 173, 174, 175, 176, 177, 178, 179, 180, 181, 182, 183, 184, 185, 186, 187, 188, 189, 190, 191, 192, 193, 194, 195, 196, 197, 198, 199, 200, 201, 202, 203, 204] (by decide +kernel) (by decide +kernel)
set_option maxRecDepth 20000 in
theorem gX11_pointsAt_X11_openSettle : GoodIn wsX11_pointsAt (wsV RX11 244 RX11 yX11_openSettle wsX11_openSettle) := goodIn_app (goodIn_of _ (by decide +kernel)) ggX11_pointsAt_X11_openSettle
theorem dX11_pointsAt_0 : decode cX11_pointsAt 0 = .ok (.aload_n 0, 1) := by decide +kernel
theorem dX11_pointsAt_1 : decode cX11_pointsAt 1 = .ok (.iload_n 1, 1) := by decide +kernel
theorem dX11_pointsAt_2 : decode cX11_pointsAt 2 = .ok (.iload_n 2, 1) := by decide +kernel
theorem dX11_pointsAt_3 : decode cX11_pointsAt 3 = .ok (.iload_n 3, 1) := by decide +kernel
theorem dX11_pointsAt_4 : decode cX11_pointsAt 4 = .ok (.invokestatic 286, 3) := by decide +kernel
theorem dX11_pointsAt_7 : decode cX11_pointsAt 7 = .ok (.invokevirtual 244, 3) := by decide +kernel
theorem dX11_pointsAt_10 : decode cX11_pointsAt 10 = .ok (.ifCond .ne 6, 3) := by decide +kernel
theorem dX11_pointsAt_13 : decode cX11_pointsAt 13 = .ok (.ldc 135, 2) := by decide +kernel
theorem dX11_pointsAt_15 : decode cX11_pointsAt 15 = .ok (.ireturn, 1) := by decide +kernel
theorem dX11_pointsAt_16 : decode cX11_pointsAt 16 = .ok (.iload_n 3, 1) := by decide +kernel
theorem dX11_pointsAt_17 : decode cX11_pointsAt 17 = .ok (.i2d, 1) := by decide +kernel
theorem dX11_pointsAt_18 : decode cX11_pointsAt 18 = .ok (.ldc2_w 307, 3) := by decide +kernel
theorem dX11_pointsAt_21 : decode cX11_pointsAt 21 = .ok (.ddiv, 1) := by decide +kernel
theorem dX11_pointsAt_22 : decode cX11_pointsAt 22 = .ok (.dstore 4, 2) := by decide +kernel
theorem dX11_pointsAt_24 : decode cX11_pointsAt 24 = .ok (.aload_n 0, 1) := by decide +kernel
theorem dX11_pointsAt_25 : decode cX11_pointsAt 25 = .ok (.getfield 19, 3) := by decide +kernel
theorem dX11_pointsAt_28 : decode cX11_pointsAt 28 = .ok (.sipush (-2000), 3) := by decide +kernel
theorem dX11_pointsAt_31 : decode cX11_pointsAt 31 = .ok (.invokestatic 269, 3) := by decide +kernel
theorem dX11_pointsAt_34 : decode cX11_pointsAt 34 = .ok (.invokevirtual 281, 3) := by decide +kernel
theorem dX11_pointsAt_37 : decode cX11_pointsAt 37 = .ok (.dload 4, 2) := by decide +kernel
theorem dX11_pointsAt_39 : decode cX11_pointsAt 39 = .ok (.dcmp .g, 1) := by decide +kernel
theorem dX11_pointsAt_40 : decode cX11_pointsAt 40 = .ok (.ifCond .ge 6, 3) := by decide +kernel
theorem dX11_pointsAt_43 : decode cX11_pointsAt 43 = .ok (.ldc 135, 2) := by decide +kernel
theorem dX11_pointsAt_45 : decode cX11_pointsAt 45 = .ok (.ireturn, 1) := by decide +kernel
theorem dX11_pointsAt_46 : decode cX11_pointsAt 46 = .ok (.sipush (-2000), 3) := by decide +kernel
theorem dX11_pointsAt_49 : decode cX11_pointsAt 49 = .ok (.istore 6, 2) := by decide +kernel
theorem dX11_pointsAt_51 : decode cX11_pointsAt 51 = .ok (.sipush 10001, 3) := by decide +kernel
theorem dX11_pointsAt_54 : decode cX11_pointsAt 54 = .ok (.istore 7, 2) := by decide +kernel
theorem dX11_pointsAt_56 : decode cX11_pointsAt 56 = .ok (.iconst 0, 1) := by decide +kernel
theorem dX11_pointsAt_57 : decode cX11_pointsAt 57 = .ok (.istore 8, 2) := by decide +kernel
theorem dX11_pointsAt_59 : decode cX11_pointsAt 59 = .ok (.iload 8, 2) := by decide +kernel
theorem dX11_pointsAt_61 : decode cX11_pointsAt 61 = .ok (.bipush 32, 2) := by decide +kernel
theorem dX11_pointsAt_63 : decode cX11_pointsAt 63 = .ok (.if_icmp .ge 59, 3) := by decide +kernel
theorem dX11_pointsAt_66 : decode cX11_pointsAt 66 = .ok (.iload 7, 2) := by decide +kernel
theorem dX11_pointsAt_68 : decode cX11_pointsAt 68 = .ok (.iload 6, 2) := by decide +kernel
theorem dX11_pointsAt_70 : decode cX11_pointsAt 70 = .ok (.isub, 1) := by decide +kernel
theorem dX11_pointsAt_71 : decode cX11_pointsAt 71 = .ok (.iconst 1, 1) := by decide +kernel
theorem dX11_pointsAt_72 : decode cX11_pointsAt 72 = .ok (.if_icmp .le 50, 3) := by decide +kernel
theorem dX11_pointsAt_75 : decode cX11_pointsAt 75 = .ok (.iload 6, 2) := by decide +kernel
theorem dX11_pointsAt_77 : decode cX11_pointsAt 77 = .ok (.iload 7, 2) := by decide +kernel
theorem dX11_pointsAt_79 : decode cX11_pointsAt 79 = .ok (.iload 6, 2) := by decide +kernel
theorem dX11_pointsAt_81 : decode cX11_pointsAt 81 = .ok (.isub, 1) := by decide +kernel
theorem dX11_pointsAt_82 : decode cX11_pointsAt 82 = .ok (.iconst 2, 1) := by decide +kernel
theorem dX11_pointsAt_83 : decode cX11_pointsAt 83 = .ok (.idiv, 1) := by decide +kernel
theorem dX11_pointsAt_84 : decode cX11_pointsAt 84 = .ok (.iadd, 1) := by decide +kernel
theorem dX11_pointsAt_85 : decode cX11_pointsAt 85 = .ok (.istore 9, 2) := by decide +kernel
theorem dX11_pointsAt_87 : decode cX11_pointsAt 87 = .ok (.aload_n 0, 1) := by decide +kernel
theorem dX11_pointsAt_88 : decode cX11_pointsAt 88 = .ok (.getfield 19, 3) := by decide +kernel
theorem dX11_pointsAt_91 : decode cX11_pointsAt 91 = .ok (.iload 9, 2) := by decide +kernel
theorem dX11_pointsAt_93 : decode cX11_pointsAt 93 = .ok (.invokestatic 269, 3) := by decide +kernel
theorem dX11_pointsAt_96 : decode cX11_pointsAt 96 = .ok (.invokevirtual 281, 3) := by decide +kernel
theorem dX11_pointsAt_99 : decode cX11_pointsAt 99 = .ok (.dload 4, 2) := by decide +kernel
theorem dX11_pointsAt_101 : decode cX11_pointsAt 101 = .ok (.dcmp .l, 1) := by decide +kernel
theorem dX11_pointsAt_102 : decode cX11_pointsAt 102 = .ok (.ifCond .lt 10, 3) := by decide +kernel
theorem dX11_pointsAt_105 : decode cX11_pointsAt 105 = .ok (.iload 9, 2) := by decide +kernel
theorem dX11_pointsAt_107 : decode cX11_pointsAt 107 = .ok (.istore 6, 2) := by decide +kernel
theorem dX11_pointsAt_109 : decode cX11_pointsAt 109 = .ok (.goto 7, 3) := by decide +kernel
theorem dX11_pointsAt_112 : decode cX11_pointsAt 112 = .ok (.iload 9, 2) := by decide +kernel
theorem dX11_pointsAt_114 : decode cX11_pointsAt 114 = .ok (.istore 7, 2) := by decide +kernel
theorem dX11_pointsAt_116 : decode cX11_pointsAt 116 = .ok (.iinc 8 1, 3) := by decide +kernel
theorem dX11_pointsAt_119 : decode cX11_pointsAt 119 = .ok (.goto (-60), 3) := by decide +kernel
theorem dX11_pointsAt_122 : decode cX11_pointsAt 122 = .ok (.iload 6, 2) := by decide +kernel
theorem dX11_pointsAt_124 : decode cX11_pointsAt 124 = .ok (.ireturn, 1) := by decide +kernel
set_option maxRecDepth 20000 in
theorem ggX11_quote_X11_refuse : GoodIn wsX11_quote wsX11_refuse := goodIn_r _ [17, 3, 26, 27, 28, 29, 30, 31, 32, 33, 34, 35, 36, 37, 38, 39, 40] (by decide +kernel) (by decide +kernel)
set_option maxRecDepth 20000 in
theorem gX11_quote_X11_refuse : GoodIn wsX11_quote (wsV RX11 97 RX11 yX11_refuse wsX11_refuse) := goodIn_app (goodIn_of _ (by decide +kernel)) ggX11_quote_X11_refuse
set_option maxRecDepth 20000 in
theorem ggX11_quote_X3_numberOf : GoodIn wsX11_quote wsX3_numberOf := goodIn_r _ [21, 22, 23, 24, 25] (by decide +kernel) (by decide +kernel)
set_option maxRecDepth 20000 in
theorem gX11_quote_X3_numberOf : GoodIn wsX11_quote (va_wsS RX11 159 yX3_numberOf wsX3_numberOf) := goodIn_app (goodIn_of _ (by decide +kernel)) ggX11_quote_X3_numberOf
theorem dX11_quote_0 : decode cX11_quote 0 = .ok (.aload_n 0, 1) := by decide +kernel
theorem dX11_quote_1 : decode cX11_quote 1 = .ok (.getfield 67, 3) := by decide +kernel
theorem dX11_quote_4 : decode cX11_quote 4 = .ok (.ifCond .eq 23, 3) := by decide +kernel
theorem dX11_quote_7 : decode cX11_quote 7 = .ok (.aload_n 0, 1) := by decide +kernel
theorem dX11_quote_8 : decode cX11_quote 8 = .ok (.getfield 60, 3) := by decide +kernel
theorem dX11_quote_11 : decode cX11_quote 11 = .ok (.iload_n 1, 1) := by decide +kernel
theorem dX11_quote_12 : decode cX11_quote 12 = .ok (.invokevirtual 309, 3) := by decide +kernel
theorem dX11_quote_15 : decode cX11_quote 15 = .ok (.ifCond .eq 12, 3) := by decide +kernel
theorem dX11_quote_18 : decode cX11_quote 18 = .ok (.iload_n 2, 1) := by decide +kernel
theorem dX11_quote_19 : decode cX11_quote 19 = .ok (.ifCond .lt 8, 3) := by decide +kernel
theorem dX11_quote_22 : decode cX11_quote 22 = .ok (.iload_n 2, 1) := by decide +kernel
theorem dX11_quote_23 : decode cX11_quote 23 = .ok (.iconst 2, 1) := by decide +kernel
theorem dX11_quote_24 : decode cX11_quote 24 = .ok (.if_icmp .le 9, 3) := by decide +kernel
theorem dX11_quote_27 : decode cX11_quote 27 = .ok (.aload_n 0, 1) := by decide +kernel
theorem dX11_quote_28 : decode cX11_quote 28 = .ok (.iconst 1, 1) := by decide +kernel
theorem dX11_quote_29 : decode cX11_quote 29 = .ok (.invokevirtual 97, 3) := by decide +kernel
theorem dX11_quote_32 : decode cX11_quote 32 = .ok (.ireturn, 1) := by decide +kernel
theorem dX11_quote_33 : decode cX11_quote 33 = .ok (.aload_n 0, 1) := by decide +kernel
theorem dX11_quote_34 : decode cX11_quote 34 = .ok (.iconst 0, 1) := by decide +kernel
theorem dX11_quote_35 : decode cX11_quote 35 = .ok (.putfield 74, 3) := by decide +kernel
theorem dX11_quote_38 : decode cX11_quote 38 = .ok (.iload_n 2, 1) := by decide +kernel
theorem dX11_quote_39 : decode cX11_quote 39 = .ok (.lookupswitch 48 #[(0, 25), (1, 35)], 25) := by decide +kernel
theorem dX11_quote_64 : decode cX11_quote 64 = .ok (.aload_n 0, 1) := by decide +kernel
theorem dX11_quote_65 : decode cX11_quote 65 = .ok (.getfield 60, 3) := by decide +kernel
theorem dX11_quote_68 : decode cX11_quote 68 = .ok (.getfield 312, 3) := by decide +kernel
theorem dX11_quote_71 : decode cX11_quote 71 = .ok (.iload_n 1, 1) := by decide +kernel
theorem dX11_quote_72 : decode cX11_quote 72 = .ok (.iaload, 1) := by decide +kernel
theorem dX11_quote_73 : decode cX11_quote 73 = .ok (.ireturn, 1) := by decide +kernel
theorem dX11_quote_74 : decode cX11_quote 74 = .ok (.aload_n 0, 1) := by decide +kernel
theorem dX11_quote_75 : decode cX11_quote 75 = .ok (.getfield 60, 3) := by decide +kernel
theorem dX11_quote_78 : decode cX11_quote 78 = .ok (.getfield 315, 3) := by decide +kernel
theorem dX11_quote_81 : decode cX11_quote 81 = .ok (.iload_n 1, 1) := by decide +kernel
theorem dX11_quote_82 : decode cX11_quote 82 = .ok (.iaload, 1) := by decide +kernel
theorem dX11_quote_83 : decode cX11_quote 83 = .ok (.invokestatic 159, 3) := by decide +kernel
theorem dX11_quote_86 : decode cX11_quote 86 = .ok (.ireturn, 1) := by decide +kernel
theorem dX11_quote_87 : decode cX11_quote 87 = .ok (.aload_n 0, 1) := by decide +kernel
theorem dX11_quote_88 : decode cX11_quote 88 = .ok (.getfield 60, 3) := by decide +kernel
theorem dX11_quote_91 : decode cX11_quote 91 = .ok (.getfield 318, 3) := by decide +kernel
theorem dX11_quote_94 : decode cX11_quote 94 = .ok (.iload_n 1, 1) := by decide +kernel
theorem dX11_quote_95 : decode cX11_quote 95 = .ok (.iaload, 1) := by decide +kernel
theorem dX11_quote_96 : decode cX11_quote 96 = .ok (.ireturn, 1) := by decide +kernel
set_option maxRecDepth 20000 in
theorem ggX11_off_X11_refuseLong : GoodIn wsX11_off wsX11_refuseLong := goodIn_r _ [8, 2, 9, 47, 48, 49, 50, 51, 52, 53, 54, 55, 56, 57, 58, 59, 60, 61] (by decide +kernel) (by decide +kernel)
set_option maxRecDepth 20000 in
theorem gX11_off_X11_refuseLong : GoodIn wsX11_off (wsV RX11 321 RX11 yX11_refuseLong wsX11_refuseLong) := goodIn_app (goodIn_of _ (by decide +kernel)) ggX11_off_X11_refuseLong
theorem dX11_off_0 : decode cX11_off 0 = .ok (.aload_n 0, 1) := by decide +kernel
theorem dX11_off_1 : decode cX11_off 1 = .ok (.getfield 67, 3) := by decide +kernel
theorem dX11_off_4 : decode cX11_off 4 = .ok (.ifCond .ne 9, 3) := by decide +kernel
theorem dX11_off_7 : decode cX11_off 7 = .ok (.aload_n 0, 1) := by decide +kernel
theorem dX11_off_8 : decode cX11_off 8 = .ok (.iconst 1, 1) := by decide +kernel
theorem dX11_off_9 : decode cX11_off 9 = .ok (.invokevirtual 321, 3) := by decide +kernel
theorem dX11_off_12 : decode cX11_off 12 = .ok (.lreturn, 1) := by decide +kernel
theorem dX11_off_13 : decode cX11_off 13 = .ok (.iload_n 1, 1) := by decide +kernel
theorem dX11_off_14 : decode cX11_off 14 = .ok (.ifCond .lt 10, 3) := by decide +kernel
theorem dX11_off_17 : decode cX11_off 17 = .ok (.iload_n 1, 1) := by decide +kernel
theorem dX11_off_18 : decode cX11_off 18 = .ok (.sipush 2000, 3) := by decide +kernel
theorem dX11_off_21 : decode cX11_off 21 = .ok (.if_icmp .le 9, 3) := by decide +kernel
theorem dX11_off_24 : decode cX11_off 24 = .ok (.aload_n 0, 1) := by decide +kernel
theorem dX11_off_25 : decode cX11_off 25 = .ok (.iconst 2, 1) := by decide +kernel
theorem dX11_off_26 : decode cX11_off 26 = .ok (.invokevirtual 321, 3) := by decide +kernel
theorem dX11_off_29 : decode cX11_off 29 = .ok (.lreturn, 1) := by decide +kernel
theorem dX11_off_30 : decode cX11_off 30 = .ok (.aload_n 0, 1) := by decide +kernel
theorem dX11_off_31 : decode cX11_off 31 = .ok (.iconst 0, 1) := by decide +kernel
theorem dX11_off_32 : decode cX11_off 32 = .ok (.putfield 74, 3) := by decide +kernel
theorem dX11_off_35 : decode cX11_off 35 = .ok (.aload_n 0, 1) := by decide +kernel
theorem dX11_off_36 : decode cX11_off 36 = .ok (.getfield 60, 3) := by decide +kernel
theorem dX11_off_39 : decode cX11_off 39 = .ok (.iload_n 1, 1) := by decide +kernel
theorem dX11_off_40 : decode cX11_off 40 = .ok (.invokestatic 269, 3) := by decide +kernel
theorem dX11_off_43 : decode cX11_off 43 = .ok (.invokevirtual 325, 3) := by decide +kernel
theorem dX11_off_46 : decode cX11_off 46 = .ok (.invokestatic 277, 3) := by decide +kernel
theorem dX11_off_49 : decode cX11_off 49 = .ok (.lreturn, 1) := by decide +kernel
set_option maxRecDepth 20000 in
theorem ggX11_flat_X11_refuse : GoodIn wsX11_flat wsX11_refuse := goodIn_r _ [10, 2, 46, 47, 48, 49, 50, 51, 52, 53, 54, 55, 56, 57, 58, 59, 60] (by decide +kernel) (by decide +kernel)
set_option maxRecDepth 20000 in
theorem gX11_flat_X11_refuse : GoodIn wsX11_flat (wsV RX11 97 RX11 yX11_refuse wsX11_refuse) := goodIn_app (goodIn_of _ (by decide +kernel)) ggX11_flat_X11_refuse
theorem dX11_flat_0 : decode cX11_flat 0 = .ok (.aload_n 0, 1) := by decide +kernel
theorem dX11_flat_1 : decode cX11_flat 1 = .ok (.getfield 67, 3) := by decide +kernel
theorem dX11_flat_4 : decode cX11_flat 4 = .ok (.ifCond .ne 9, 3) := by decide +kernel
theorem dX11_flat_7 : decode cX11_flat 7 = .ok (.aload_n 0, 1) := by decide +kernel
theorem dX11_flat_8 : decode cX11_flat 8 = .ok (.iconst 1, 1) := by decide +kernel
theorem dX11_flat_9 : decode cX11_flat 9 = .ok (.invokevirtual 97, 3) := by decide +kernel
theorem dX11_flat_12 : decode cX11_flat 12 = .ok (.ireturn, 1) := by decide +kernel
theorem dX11_flat_13 : decode cX11_flat 13 = .ok (.aload_n 0, 1) := by decide +kernel
theorem dX11_flat_14 : decode cX11_flat 14 = .ok (.iconst 0, 1) := by decide +kernel
theorem dX11_flat_15 : decode cX11_flat 15 = .ok (.putfield 74, 3) := by decide +kernel
theorem dX11_flat_18 : decode cX11_flat 18 = .ok (.aload_n 0, 1) := by decide +kernel
theorem dX11_flat_19 : decode cX11_flat 19 = .ok (.getfield 60, 3) := by decide +kernel
theorem dX11_flat_22 : decode cX11_flat 22 = .ok (.getfield 328, 3) := by decide +kernel
theorem dX11_flat_25 : decode cX11_flat 25 = .ok (.ifCond .ne 6, 3) := by decide +kernel
theorem dX11_flat_28 : decode cX11_flat 28 = .ok (.bipush (-2), 2) := by decide +kernel
theorem dX11_flat_30 : decode cX11_flat 30 = .ok (.ireturn, 1) := by decide +kernel
theorem dX11_flat_31 : decode cX11_flat 31 = .ok (.aload_n 0, 1) := by decide +kernel
theorem dX11_flat_32 : decode cX11_flat 32 = .ok (.getfield 60, 3) := by decide +kernel
theorem dX11_flat_35 : decode cX11_flat 35 = .ok (.getfield 331, 3) := by decide +kernel
theorem dX11_flat_38 : decode cX11_flat 38 = .ok (.iconst (-1), 1) := by decide +kernel
theorem dX11_flat_39 : decode cX11_flat 39 = .ok (.if_icmp .ne 14, 3) := by decide +kernel
theorem dX11_flat_42 : decode cX11_flat 42 = .ok (.aload_n 0, 1) := by decide +kernel
theorem dX11_flat_43 : decode cX11_flat 43 = .ok (.getfield 60, 3) := by decide +kernel
theorem dX11_flat_46 : decode cX11_flat 46 = .ok (.aload_n 0, 1) := by decide +kernel
theorem dX11_flat_47 : decode cX11_flat 47 = .ok (.invokevirtual 334, 3) := by decide +kernel
theorem dX11_flat_50 : decode cX11_flat 50 = .ok (.putfield 331, 3) := by decide +kernel
theorem dX11_flat_53 : decode cX11_flat 53 = .ok (.aload_n 0, 1) := by decide +kernel
theorem dX11_flat_54 : decode cX11_flat 54 = .ok (.getfield 60, 3) := by decide +kernel
theorem dX11_flat_57 : decode cX11_flat 57 = .ok (.getfield 331, 3) := by decide +kernel
theorem dX11_flat_60 : decode cX11_flat 60 = .ok (.ireturn, 1) := by decide +kernel
set_option maxRecDepth 20000 in
theorem ggX11_cheapest_X11_refuse : GoodIn wsX11_cheapest wsX11_refuse := goodIn_r _ [13, 2, 50, 51, 52, 53, 54, 55, 56, 57, 58, 59, 60, 61, 62, 63, 64] (by decide +kernel) (by decide +kernel)
set_option maxRecDepth 20000 in
theorem gX11_cheapest_X11_refuse : GoodIn wsX11_cheapest (wsV RX11 97 RX11 yX11_refuse wsX11_refuse) := goodIn_app (goodIn_of _ (by decide +kernel)) ggX11_cheapest_X11_refuse
theorem dX11_cheapest_0 : decode cX11_cheapest 0 = .ok (.aload_n 0, 1) := by decide +kernel
theorem dX11_cheapest_1 : decode cX11_cheapest 1 = .ok (.getfield 67, 3) := by decide +kernel
theorem dX11_cheapest_4 : decode cX11_cheapest 4 = .ok (.ifCond .ne 9, 3) := by decide +kernel
theorem dX11_cheapest_7 : decode cX11_cheapest 7 = .ok (.aload_n 0, 1) := by decide +kernel
theorem dX11_cheapest_8 : decode cX11_cheapest 8 = .ok (.iconst 1, 1) := by decide +kernel
theorem dX11_cheapest_9 : decode cX11_cheapest 9 = .ok (.invokevirtual 97, 3) := by decide +kernel
theorem dX11_cheapest_12 : decode cX11_cheapest 12 = .ok (.ireturn, 1) := by decide +kernel
theorem dX11_cheapest_13 : decode cX11_cheapest 13 = .ok (.aload_n 0, 1) := by decide +kernel
theorem dX11_cheapest_14 : decode cX11_cheapest 14 = .ok (.iconst 0, 1) := by decide +kernel
theorem dX11_cheapest_15 : decode cX11_cheapest 15 = .ok (.putfield 74, 3) := by decide +kernel
theorem dX11_cheapest_18 : decode cX11_cheapest 18 = .ok (.bipush (-2), 2) := by decide +kernel
theorem dX11_cheapest_20 : decode cX11_cheapest 20 = .ok (.istore_n 1, 1) := by decide +kernel
theorem dX11_cheapest_21 : decode cX11_cheapest 21 = .ok (.dconst 0, 1) := by decide +kernel
theorem dX11_cheapest_22 : decode cX11_cheapest 22 = .ok (.dstore_n 2, 1) := by decide +kernel
theorem dX11_cheapest_23 : decode cX11_cheapest 23 = .ok (.iconst 0, 1) := by decide +kernel
theorem dX11_cheapest_24 : decode cX11_cheapest 24 = .ok (.istore 4, 2) := by decide +kernel
theorem dX11_cheapest_26 : decode cX11_cheapest 26 = .ok (.iload 4, 2) := by decide +kernel
theorem dX11_cheapest_28 : decode cX11_cheapest 28 = .ok (.aload_n 0, 1) := by decide +kernel
theorem dX11_cheapest_29 : decode cX11_cheapest 29 = .ok (.getfield 60, 3) := by decide +kernel
