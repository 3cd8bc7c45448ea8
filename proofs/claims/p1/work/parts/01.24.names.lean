set_option maxRecDepth 20000 in
theorem ggX12_flat_X12_offsFrom : GoodIn wsX12_flat wsX12_offsFrom := goodIn_r _ [19, 4, 3, 20, 21, 22, 23, 24, 25, 26, 8, 27, 28, 29, 30, 31, 32, 33, 34, 35, 36, 37, 38, 39, 40, 41, 42, 43, 44, 45, 46, 47, 48, 49, 50, 51, 52, 53, 54, 55, 56, 57, 58, 59, 60, 61, 62, 63, 64, 65, 66, 67, 68, 69, 70, 71, 72, 73, 74, 75, 76, 77, 78, 79, 80, 81, 82, 83, 84, 85, 86, 87, 88, 89, 90, 91, 92, 93, 94, 95, 96, 97, 98, 99, 100, 101, 102, 103, 104, 105, 106, 107, 108, 109, 110, 111, 112, 113, 114, 115, 116, 117, 118, 119, 120, 121, 122, 123, 124, 125, 126, 127, 128, 129, 130, 131, 132, 133, 134, 135, 136, 137, 138, 139, 140, 141, 142, 143, 144, 145, 146, 147, 148, 149, 150, 151, 152, 153, 154, 155, 156, 157, 158, 159, 160, 161, 162, 163, 164, 165, 166, 167, 168, 169, 170, 171, 172, 173, 174, 175, 176, 177, 178, 179, 180, 181, 182, 183, 184, 185, 186, 187, 188, 189, 190, 191, 192] (by decide +kernel) (by decide +kernel)
set_option maxRecDepth 20000 in
theorem gX12_flat_X12_offsFrom : GoodIn wsX12_flat (wsV RX12 560 RX12 yX12_offsFrom wsX12_offsFrom) := goodIn_app (goodIn_of _ (by decide +kernel)) ggX12_flat_X12_offsFrom
theorem dX12_flat_0 : decode cX12_flat 0 = .ok (.aload_n 0, 1) := by decide +kernel
theorem dX12_flat_1 : decode cX12_flat 1 = .ok (.iconst 0, 1) := by decide +kernel
theorem dX12_flat_2 : decode cX12_flat 2 = .ok (.putfield 107, 3) := by decide +kernel
theorem dX12_flat_5 : decode cX12_flat 5 = .ok (.aload_n 0, 1) := by decide +kernel
theorem dX12_flat_6 : decode cX12_flat 6 = .ok (.getfield 361, 3) := by decide +kernel
theorem dX12_flat_9 : decode cX12_flat 9 = .ok (.ifCond .ne 9, 3) := by decide +kernel
theorem dX12_flat_12 : decode cX12_flat 12 = .ok (.aload_n 0, 1) := by decide +kernel
theorem dX12_flat_13 : decode cX12_flat 13 = .ok (.iconst 1, 1) := by decide +kernel
theorem dX12_flat_14 : decode cX12_flat 14 = .ok (.invokevirtual 113, 3) := by decide +kernel
theorem dX12_flat_17 : decode cX12_flat 17 = .ok (.ireturn, 1) := by decide +kernel
theorem dX12_flat_18 : decode cX12_flat 18 = .ok (.aload_n 0, 1) := by decide +kernel
theorem dX12_flat_19 : decode cX12_flat 19 = .ok (.getfield 364, 3) := by decide +kernel
theorem dX12_flat_22 : decode cX12_flat 22 = .ok (.ifCond .ne 10, 3) := by decide +kernel
theorem dX12_flat_25 : decode cX12_flat 25 = .ok (.aload_n 0, 1) := by decide +kernel
theorem dX12_flat_26 : decode cX12_flat 26 = .ok (.bipush (-2), 2) := by decide +kernel
theorem dX12_flat_28 : decode cX12_flat 28 = .ok (.invokevirtual 117, 3) := by decide +kernel
theorem dX12_flat_31 : decode cX12_flat 31 = .ok (.ireturn, 1) := by decide +kernel
theorem dX12_flat_32 : decode cX12_flat 32 = .ok (.aload_n 0, 1) := by decide +kernel
theorem dX12_flat_33 : decode cX12_flat 33 = .ok (.iconst 0, 1) := by decide +kernel
theorem dX12_flat_34 : decode cX12_flat 34 = .ok (.sipush 2000, 3) := by decide +kernel
theorem dX12_flat_37 : decode cX12_flat 37 = .ok (.invokevirtual 560, 3) := by decide +kernel
theorem dX12_flat_40 : decode cX12_flat 40 = .ok (.iconst 0, 1) := by decide +kernel
theorem dX12_flat_41 : decode cX12_flat 41 = .ok (.istore_n 1, 1) := by decide +kernel
theorem dX12_flat_42 : decode cX12_flat 42 = .ok (.iconst 1, 1) := by decide +kernel
theorem dX12_flat_43 : decode cX12_flat 43 = .ok (.istore_n 2, 1) := by decide +kernel
theorem dX12_flat_44 : decode cX12_flat 44 = .ok (.iload_n 2, 1) := by decide +kernel
theorem dX12_flat_45 : decode cX12_flat 45 = .ok (.sipush 2000, 3) := by decide +kernel
theorem dX12_flat_48 : decode cX12_flat 48 = .ok (.if_icmp .gt 31, 3) := by decide +kernel
theorem dX12_flat_51 : decode cX12_flat 51 = .ok (.aload_n 0, 1) := by decide +kernel
theorem dX12_flat_52 : decode cX12_flat 52 = .ok (.getfield 86, 3) := by decide +kernel
theorem dX12_flat_55 : decode cX12_flat 55 = .ok (.iload_n 2, 1) := by decide +kernel
theorem dX12_flat_56 : decode cX12_flat 56 = .ok (.daload, 1) := by decide +kernel
theorem dX12_flat_57 : decode cX12_flat 57 = .ok (.aload_n 0, 1) := by decide +kernel
theorem dX12_flat_58 : decode cX12_flat 58 = .ok (.getfield 86, 3) := by decide +kernel
theorem dX12_flat_61 : decode cX12_flat 61 = .ok (.iload_n 1, 1) := by decide +kernel
theorem dX12_flat_62 : decode cX12_flat 62 = .ok (.daload, 1) := by decide +kernel
theorem dX12_flat_63 : decode cX12_flat 63 = .ok (.dcmp .g, 1) := by decide +kernel
theorem dX12_flat_64 : decode cX12_flat 64 = .ok (.ifCond .ge 7, 3) := by decide +kernel
theorem dX12_flat_67 : decode cX12_flat 67 = .ok (.iload_n 2, 1) := by decide +kernel
theorem dX12_flat_68 : decode cX12_flat 68 = .ok (.goto 4, 3) := by decide +kernel
theorem dX12_flat_71 : decode cX12_flat 71 = .ok (.iload_n 1, 1) := by decide +kernel
theorem dX12_flat_72 : decode cX12_flat 72 = .ok (.istore_n 1, 1) := by decide +kernel
theorem dX12_flat_73 : decode cX12_flat 73 = .ok (.iinc 2 1, 3) := by decide +kernel
theorem dX12_flat_76 : decode cX12_flat 76 = .ok (.goto (-32), 3) := by decide +kernel
theorem dX12_flat_79 : decode cX12_flat 79 = .ok (.aload_n 0, 1) := by decide +kernel
theorem dX12_flat_80 : decode cX12_flat 80 = .ok (.iload_n 1, 1) := by decide +kernel
theorem dX12_flat_81 : decode cX12_flat 81 = .ok (.invokevirtual 117, 3) := by decide +kernel
theorem dX12_flat_84 : decode cX12_flat 84 = .ok (.ireturn, 1) := by decide +kernel
set_option maxRecDepth 20000 in
theorem ggX12_cheapest_X12_refused : GoodIn wsX12_cheapest wsX12_refused := goodIn_r _ [12, 13, 14, 130, 131, 132, 133, 134, 135, 136, 137, 138, 139, 140, 141, 142, 143, 144, 145, 146, 147, 148, 149, 150, 151, 152, 153, 154, 155, 156, 157, 158, 159, 160, 161, 162, 163, 164, 165, 166, 167, 168, 169, 170, 171, 172, 173, 174, 175, 176, 177, 178, 179, 180, 181, 182, 183, 184, 185, 186, 187, 188, 189, 190, 191, 192, 193, 194, 195, 196, 197, 198] (by decide +kernel) (by decide +kernel)
set_option maxRecDepth 20000 in
theorem gX12_cheapest_X12_refused : GoodIn wsX12_cheapest (wsV RX12 113 RX12 yX12_refused wsX12_refused) := goodIn_app (goodIn_of _ (by decide +kernel)) ggX12_cheapest_X12_refused
set_option maxRecDepth 20000 in
theorem ggX12_cheapest_X12_brackets : GoodIn wsX12_cheapest wsX12_brackets := goodIn_r _ [103, 104, 23, 105, 106, 7, 107, 108, 109, 110, 111, 112, 11, 113, 19, 22, 20, 114, 115, 21, 116, 130, 131, 132, 133, 134, 135, 136, 137, 138, 139, 140, 141, 142, 143, 144, 145, 146, 147, 148, 149, 150, 151, 152, 153, 154, 155, 156, 157, 158, 159, 160, 161, 162, 163, 164, 165, 166, 167, 168, 169, 170, 171, 172, 173, 174, 175, 176, 177, 178, 179, 180, 181, 182, 183, 184, 185, 186, 187, 188, 189, 190, 191, 192, 193, 194, 195, 196, 197, 198] (by decide +kernel) (by decide +kernel)
set_option maxRecDepth 20000 in
theorem gX12_cheapest_X12_brackets : GoodIn wsX12_cheapest (wsV RX12 552 RX12 yX12_brackets wsX12_brackets) := goodIn_app (goodIn_of _ (by decide +kernel)) ggX12_cheapest_X12_brackets
set_option maxRecDepth 20000 in
theorem ggX12_cheapest_X12_good : GoodIn wsX12_cheapest wsX12_good := goodIn_r _ [129, 13, 14, 130, 131, 132, 133, 134, 135, 136, 137, 138, 139, 140, 141, 142, 143, 144, 145, 146, 147, 148, 149, 150, 151, 152, 153, 154, 155, 156, 157, 158, 159, 160, 161, 162, 163, 164, 165, 166, 167, 168, 169, 170, 171, 172, 173, 174, 175, 176, 177, 178, 179, 180, 181, 182, 183, 184, 185, 186, 187, 188, 189, 190, 191, 192, 193, 194, 195, 196, 197, 198] (by decide +kernel) (by decide +kernel)
set_option maxRecDepth 20000 in
theorem gX12_cheapest_X12_good : GoodIn wsX12_cheapest (wsV RX12 117 RX12 yX12_good wsX12_good) := goodIn_app (goodIn_of _ (by decide +kernel)) ggX12_cheapest_X12_good
theorem dX12_cheapest_0 : decode cX12_cheapest 0 = .ok (.aload_n 0, 1) := by decide +kernel
theorem dX12_cheapest_1 : decode cX12_cheapest 1 = .ok (.iconst 0, 1) := by decide +kernel
theorem dX12_cheapest_2 : decode cX12_cheapest 2 = .ok (.putfield 107, 3) := by decide +kernel
theorem dX12_cheapest_5 : decode cX12_cheapest 5 = .ok (.aload_n 0, 1) := by decide +kernel
theorem dX12_cheapest_6 : decode cX12_cheapest 6 = .ok (.getfield 361, 3) := by decide +kernel
theorem dX12_cheapest_9 : decode cX12_cheapest 9 = .ok (.ifCond .ne 9, 3) := by decide +kernel
theorem dX12_cheapest_12 : decode cX12_cheapest 12 = .ok (.aload_n 0, 1) := by decide +kernel
theorem dX12_cheapest_13 : decode cX12_cheapest 13 = .ok (.iconst 1, 1) := by decide +kernel
theorem dX12_cheapest_14 : decode cX12_cheapest 14 = .ok (.invokevirtual 113, 3) := by decide +kernel
theorem dX12_cheapest_17 : decode cX12_cheapest 17 = .ok (.ireturn, 1) := by decide +kernel
theorem dX12_cheapest_18 : decode cX12_cheapest 18 = .ok (.bipush (-2), 2) := by decide +kernel
theorem dX12_cheapest_20 : decode cX12_cheapest 20 = .ok (.istore_n 1, 1) := by decide +kernel
theorem dX12_cheapest_21 : decode cX12_cheapest 21 = .ok (.dconst 0, 1) := by decide +kernel
theorem dX12_cheapest_22 : decode cX12_cheapest 22 = .ok (.dstore_n 2, 1) := by decide +kernel
theorem dX12_cheapest_23 : decode cX12_cheapest 23 = .ok (.iconst 0, 1) := by decide +kernel
theorem dX12_cheapest_24 : decode cX12_cheapest 24 = .ok (.istore 4, 2) := by decide +kernel
theorem dX12_cheapest_26 : decode cX12_cheapest 26 = .ok (.iload 4, 2) := by decide +kernel
theorem dX12_cheapest_28 : decode cX12_cheapest 28 = .ok (.aload_n 0, 1) := by decide +kernel
theorem dX12_cheapest_29 : decode cX12_cheapest 29 = .ok (.getfield 364, 3) := by decide +kernel
theorem dX12_cheapest_32 : decode cX12_cheapest 32 = .ok (.if_icmp .ge 92, 3) := by decide +kernel
theorem dX12_cheapest_35 : decode cX12_cheapest 35 = .ok (.aload_n 0, 1) := by decide +kernel
theorem dX12_cheapest_36 : decode cX12_cheapest 36 = .ok (.aload_n 0, 1) := by decide +kernel
theorem dX12_cheapest_37 : decode cX12_cheapest 37 = .ok (.getfield 45, 3) := by decide +kernel
theorem dX12_cheapest_40 : decode cX12_cheapest 40 = .ok (.iload 4, 2) := by decide +kernel
theorem dX12_cheapest_42 : decode cX12_cheapest 42 = .ok (.iaload, 1) := by decide +kernel
theorem dX12_cheapest_43 : decode cX12_cheapest 43 = .ok (.aload_n 0, 1) := by decide +kernel
theorem dX12_cheapest_44 : decode cX12_cheapest 44 = .ok (.getfield 48, 3) := by decide +kernel
theorem dX12_cheapest_47 : decode cX12_cheapest 47 = .ok (.iload 4, 2) := by decide +kernel
theorem dX12_cheapest_49 : decode cX12_cheapest 49 = .ok (.iaload, 1) := by decide +kernel
theorem dX12_cheapest_50 : decode cX12_cheapest 50 = .ok (.invokevirtual 521, 3) := by decide +kernel
theorem dX12_cheapest_53 : decode cX12_cheapest 53 = .ok (.aload_n 0, 1) := by decide +kernel
theorem dX12_cheapest_54 : decode cX12_cheapest 54 = .ok (.aload_n 0, 1) := by decide +kernel
theorem dX12_cheapest_55 : decode cX12_cheapest 55 = .ok (.getfield 51, 3) := by decide +kernel
theorem dX12_cheapest_58 : decode cX12_cheapest 58 = .ok (.iload 4, 2) := by decide +kernel
theorem dX12_cheapest_60 : decode cX12_cheapest 60 = .ok (.iaload, 1) := by decide +kernel
theorem dX12_cheapest_61 : decode cX12_cheapest 61 = .ok (.invokevirtual 552, 3) := by decide +kernel
theorem dX12_cheapest_64 : decode cX12_cheapest 64 = .ok (.ifCond .ne 6, 3) := by decide +kernel
theorem dX12_cheapest_67 : decode cX12_cheapest 67 = .ok (.goto 51, 3) := by decide +kernel
theorem dX12_cheapest_70 : decode cX12_cheapest 70 = .ok (.iconst 0, 1) := by decide +kernel
theorem dX12_cheapest_71 : decode cX12_cheapest 71 = .ok (.istore 5, 2) := by decide +kernel
theorem dX12_cheapest_73 : decode cX12_cheapest 73 = .ok (.iload 5, 2) := by decide +kernel
theorem dX12_cheapest_75 : decode cX12_cheapest 75 = .ok (.bipush 40, 2) := by decide +kernel
theorem dX12_cheapest_77 : decode cX12_cheapest 77 = .ok (.if_icmp .ge 15, 3) := by decide +kernel
theorem dX12_cheapest_80 : decode cX12_cheapest 80 = .ok (.aload_n 0, 1) := by decide +kernel
theorem dX12_cheapest_81 : decode cX12_cheapest 81 = .ok (.iload 5, 2) := by decide +kernel
theorem dX12_cheapest_83 : decode cX12_cheapest 83 = .ok (.invokevirtual 555, 3) := by decide +kernel
theorem dX12_cheapest_86 : decode cX12_cheapest 86 = .ok (.iinc 5 1, 3) := by decide +kernel
theorem dX12_cheapest_89 : decode cX12_cheapest 89 = .ok (.goto (-16), 3) := by decide +kernel
theorem dX12_cheapest_92 : decode cX12_cheapest 92 = .ok (.iload_n 1, 1) := by decide +kernel
theorem dX12_cheapest_93 : decode cX12_cheapest 93 = .ok (.bipush (-2), 2) := by decide +kernel
theorem dX12_cheapest_95 : decode cX12_cheapest 95 = .ok (.if_icmp .eq 15, 3) := by decide +kernel
theorem dX12_cheapest_98 : decode cX12_cheapest 98 = .ok (.aload_n 0, 1) := by decide +kernel
theorem dX12_cheapest_99 : decode cX12_cheapest 99 = .ok (.getfield 537, 3) := by decide +kernel
theorem dX12_cheapest_102 : decode cX12_cheapest 102 = .ok (.dload_n 2, 1) := by decide +kernel
theorem dX12_cheapest_103 : decode cX12_cheapest 103 = .ok (.dcmp .g, 1) := by decide +kernel
theorem dX12_cheapest_104 : decode cX12_cheapest 104 = .ok (.ifCond .gt 6, 3) := by decide +kernel
theorem dX12_cheapest_107 : decode cX12_cheapest 107 = .ok (.goto 11, 3) := by decide +kernel
theorem dX12_cheapest_110 : decode cX12_cheapest 110 = .ok (.iload 4, 2) := by decide +kernel
theorem dX12_cheapest_112 : decode cX12_cheapest 112 = .ok (.istore_n 1, 1) := by decide +kernel
theorem dX12_cheapest_113 : decode cX12_cheapest 113 = .ok (.aload_n 0, 1) := by decide +kernel
theorem dX12_cheapest_114 : decode cX12_cheapest 114 = .ok (.getfield 537, 3) := by decide +kernel
theorem dX12_cheapest_117 : decode cX12_cheapest 117 = .ok (.dstore_n 2, 1) := by decide +kernel
theorem dX12_cheapest_118 : decode cX12_cheapest 118 = .ok (.iinc 4 1, 3) := by decide +kernel
theorem dX12_cheapest_121 : decode cX12_cheapest 121 = .ok (.goto (-95), 3) := by decide +kernel
theorem dX12_cheapest_124 : decode cX12_cheapest 124 = .ok (.aload_n 0, 1) := by decide +kernel
theorem dX12_cheapest_125 : decode cX12_cheapest 125 = .ok (.iload_n 1, 1) := by decide +kernel
theorem dX12_cheapest_126 : decode cX12_cheapest 126 = .ok (.invokevirtual 117, 3) := by decide +kernel
theorem dX12_cheapest_129 : decode cX12_cheapest 129 = .ok (.ireturn, 1) := by decide +kernel
set_option maxRecDepth 20000 in
theorem ggX12_now_X12_refused : GoodIn wsX12_now wsX12_refused := goodIn_r _ [8, 9, 10, 15, 16, 17, 18, 19, 20, 21, 22, 23, 24, 25, 26, 27, 28, 29, 30, 31, 32, 33, 34, 35, 36, 37, 38, 39, 40, 41, 42, 43, 44, 45, 46, 47, 48, 49, 50, 51, 52, 53, 54, 55, 56, 57, 58, 59, 60, 61, 62, 63, 64, 65, 66, 67, 68, 69, 70, 71, 72, 73, 74, 75, 76, 77, 78, 79, 80, 81, 82, 83] (by decide +kernel) (by decide +kernel)
set_option maxRecDepth 20000 in
theorem gX12_now_X12_refused : GoodIn wsX12_now (wsV RX12 113 RX12 yX12_refused wsX12_refused) := goodIn_app (goodIn_of _ (by decide +kernel)) ggX12_now_X12_refused
set_option maxRecDepth 20000 in
theorem ggX12_now_X12_good : GoodIn wsX12_now wsX12_good := goodIn_r _ [14, 9, 10, 15, 16, 17, 18, 19, 20, 21, 22, 23, 24, 25, 26, 27, 28, 29, 30, 31, 32, 33, 34, 35, 36, 37, 38, 39, 40, 41, 42, 43, 44, 45, 46, 47, 48, 49, 50, 51, 52, 53, 54, 55, 56, 57, 58, 59, 60, 61, 62, 63, 64, 65, 66, 67, 68, 69, 70, 71, 72, 73, 74, 75, 76, 77, 78, 79, 80, 81, 82, 83] (by decide +kernel) (by decide +kernel)
set_option maxRecDepth 20000 in
theorem gX12_now_X12_good : GoodIn wsX12_now (wsV RX12 117 RX12 yX12_good wsX12_good) := goodIn_app (goodIn_of _ (by decide +kernel)) ggX12_now_X12_good
theorem dX12_now_0 : decode cX12_now 0 = .ok (.aload_n 0, 1) := by decide +kernel
theorem dX12_now_1 : decode cX12_now 1 = .ok (.iconst 0, 1) := by decide +kernel
theorem dX12_now_2 : decode cX12_now 2 = .ok (.putfield 107, 3) := by decide +kernel
theorem dX12_now_5 : decode cX12_now 5 = .ok (.aload_n 0, 1) := by decide +kernel
theorem dX12_now_6 : decode cX12_now 6 = .ok (.getfield 361, 3) := by decide +kernel
theorem dX12_now_9 : decode cX12_now 9 = .ok (.ifCond .ne 9, 3) := by decide +kernel
theorem dX12_now_12 : decode cX12_now 12 = .ok (.aload_n 0, 1) := by decide +kernel
theorem dX12_now_13 : decode cX12_now 13 = .ok (.iconst 1, 1) := by decide +kernel
theorem dX12_now_14 : decode cX12_now 14 = .ok (.invokevirtual 113, 3) := by decide +kernel
theorem dX12_now_17 : decode cX12_now 17 = .ok (.ireturn, 1) := by decide +kernel
theorem dX12_now_18 : decode cX12_now 18 = .ok (.aload_n 0, 1) := by decide +kernel
theorem dX12_now_19 : decode cX12_now 19 = .ok (.aload_n 0, 1) := by decide +kernel
theorem dX12_now_20 : decode cX12_now 20 = .ok (.getfield 377, 3) := by decide +kernel
theorem dX12_now_23 : decode cX12_now 23 = .ok (.invokevirtual 117, 3) := by decide +kernel
theorem dX12_now_26 : decode cX12_now 26 = .ok (.ireturn, 1) := by decide +kernel
set_option maxRecDepth 20000 in
theorem ggX12_cash_X12_refusedLong : GoodIn wsX12_cash wsX12_refusedLong := goodIn_r _ [9, 10, 11, 12, 8, 13, 14, 15, 24, 25, 26, 27, 28, 29, 30, 31, 32, 33, 34, 35, 36, 37, 38, 39, 40, 41, 42, 43, 44, 45, 46, 47, 48, 49, 50, 51, 52, 53, 54, 55, 56, 57, 58, 59, 60, 61, 62, 63, 64, 65, 66, 67, 68, 69, 70, 71, 72, 73, 74, 75, 76, 77, 78, 79, 80, 81, 82, 83, 84, 85, 86, 87, 88, 89, 90, 91, 92] (by decide +kernel) (by decide +kernel)
set_option maxRecDepth 20000 in
theorem gX12_cash_X12_refusedLong : GoodIn wsX12_cash (wsV RX12 430 RX12 yX12_refusedLong wsX12_refusedLong) := goodIn_app (goodIn_of _ (by decide +kernel)) ggX12_cash_X12_refusedLong
set_option maxRecDepth 20000 in
theorem ggX12_cash_X12_goodLong : GoodIn wsX12_cash wsX12_goodLong := goodIn_r _ [19, 20, 21, 22, 8, 23, 14, 15, 24, 25, 26, 27, 28, 29, 30, 31, 32, 33, 34, 35, 36, 37, 38, 39, 40, 41, 42, 43, 44, 45, 46, 47, 48, 49, 50, 51, 52, 53, 54, 55, 56, 57, 58, 59, 60, 61, 62, 63, 64, 65, 66, 67, 68, 69, 70, 71, 72, 73, 74, 75, 76, 77, 78, 79, 80, 81, 82, 83, 84, 85, 86, 87, 88, 89, 90, 91, 92] (by decide +kernel) (by decide +kernel)
set_option maxRecDepth 20000 in
theorem gX12_cash_X12_goodLong : GoodIn wsX12_cash (wsV RX12 126 RX12 yX12_goodLong wsX12_goodLong) := goodIn_app (goodIn_of _ (by decide +kernel)) ggX12_cash_X12_goodLong
theorem dX12_cash_0 : decode cX12_cash 0 = .ok (.aload_n 0, 1) := by decide +kernel
theorem dX12_cash_1 : decode cX12_cash 1 = .ok (.iconst 0, 1) := by decide +kernel
theorem dX12_cash_2 : decode cX12_cash 2 = .ok (.putfield 107, 3) := by decide +kernel
theorem dX12_cash_5 : decode cX12_cash 5 = .ok (.aload_n 0, 1) := by decide +kernel
theorem dX12_cash_6 : decode cX12_cash 6 = .ok (.getfield 361, 3) := by decide +kernel
theorem dX12_cash_9 : decode cX12_cash 9 = .ok (.ifCond .ne 12, 3) := by decide +kernel
theorem dX12_cash_12 : decode cX12_cash 12 = .ok (.aload_n 0, 1) := by decide +kernel
theorem dX12_cash_13 : decode cX12_cash 13 = .ok (.iconst 1, 1) := by decide +kernel
theorem dX12_cash_14 : decode cX12_cash 14 = .ok (.ldc2_w 482, 3) := by decide +kernel
theorem dX12_cash_17 : decode cX12_cash 17 = .ok (.invokevirtual 430, 3) := by decide +kernel
theorem dX12_cash_20 : decode cX12_cash 20 = .ok (.lreturn, 1) := by decide +kernel
theorem dX12_cash_21 : decode cX12_cash 21 = .ok (.aload_n 0, 1) := by decide +kernel
theorem dX12_cash_22 : decode cX12_cash 22 = .ok (.aload_n 0, 1) := by decide +kernel
theorem dX12_cash_23 : decode cX12_cash 23 = .ok (.getfield 380, 3) := by decide +kernel
theorem dX12_cash_26 : decode cX12_cash 26 = .ok (.invokevirtual 126, 3) := by decide +kernel
theorem dX12_cash_29 : decode cX12_cash 29 = .ok (.lreturn, 1) := by decide +kernel
set_option maxRecDepth 20000 in
theorem ggX12_holding_X12_isBond : GoodIn wsX12_holding wsX12_isBond := goodIn_r _ [7, 8, 19, 20, 21, 22, 23, 24, 25, 26, 27, 28, 29, 30, 31, 32, 33, 34, 35, 36, 37, 38, 39, 40, 41, 42, 43, 44, 45, 46, 47, 48, 49, 50, 51, 52, 53, 54, 55, 56, 57, 58, 59, 60, 61, 62, 63, 64, 65, 66, 67, 68, 69, 70, 71, 72, 73, 74, 75, 76, 77, 78, 79, 80, 81, 82, 83, 84, 85, 86, 87] (by decide +kernel) (by decide +kernel)
set_option maxRecDepth 20000 in
theorem gX12_holding_X12_isBond : GoodIn wsX12_holding (wsV RX12 438 RX12 yX12_isBond wsX12_isBond) := goodIn_app (goodIn_of _ (by decide +kernel)) ggX12_holding_X12_isBond
set_option maxRecDepth 20000 in
theorem ggX12_holding_X12_refused : GoodIn wsX12_holding wsX12_refused := goodIn_r _ [12, 13, 14, 19, 20, 21, 22, 23, 24, 25, 26, 27, 28, 29, 30, 31, 32, 33, 34, 35, 36, 37, 38, 39, 40, 41, 42, 43, 44, 45, 46, 47, 48, 49, 50, 51, 52, 53, 54, 55, 56, 57, 58, 59, 60, 61, 62, 63, 64, 65, 66, 67, 68, 69, 70, 71, 72, 73, 74, 75, 76, 77, 78, 79, 80, 81, 82, 83, 84, 85, 86, 87] (by decide +kernel) (by decide +kernel)
set_option maxRecDepth 20000 in
theorem gX12_holding_X12_refused : GoodIn wsX12_holding (wsV RX12 113 RX12 yX12_refused wsX12_refused) := goodIn_app (goodIn_of _ (by decide +kernel)) ggX12_holding_X12_refused
set_option maxRecDepth 20000 in
theorem ggX12_holding_X12_good : GoodIn wsX12_holding wsX12_good := goodIn_r _ [18, 13, 14, 19, 20, 21, 22, 23, 24, 25, 26, 27, 28, 29, 30, 31, 32, 33, 34, 35, 36, 37, 38, 39, 40, 41, 42, 43, 44, 45, 46, 47, 48, 49, 50, 51, 52, 53, 54, 55, 56, 57, 58, 59, 60, 61, 62, 63, 64, 65, 66, 67, 68, 69, 70, 71, 72, 73, 74, 75, 76, 77, 78, 79, 80, 81, 82, 83, 84, 85, 86, 87] (by decide +kernel) (by decide +kernel)
set_option maxRecDepth 20000 in
theorem gX12_holding_X12_good : GoodIn wsX12_holding (wsV RX12 117 RX12 yX12_good wsX12_good) := goodIn_app (goodIn_of _ (by decide +kernel)) ggX12_holding_X12_good
theorem dX12_holding_0 : decode cX12_holding 0 = .ok (.aload_n 0, 1) := by decide +kernel
theorem dX12_holding_1 : decode cX12_holding 1 = .ok (.iconst 0, 1) := by decide +kernel
theorem dX12_holding_2 : decode cX12_holding 2 = .ok (.putfield 107, 3) := by decide +kernel
theorem dX12_holding_5 : decode cX12_holding 5 = .ok (.aload_n 0, 1) := by decide +kernel
theorem dX12_holding_6 : decode cX12_holding 6 = .ok (.iload_n 1, 1) := by decide +kernel
theorem dX12_holding_7 : decode cX12_holding 7 = .ok (.invokevirtual 438, 3) := by decide +kernel
theorem dX12_holding_10 : decode cX12_holding 10 = .ok (.ifCond .ne 9, 3) := by decide +kernel
theorem dX12_holding_13 : decode cX12_holding 13 = .ok (.aload_n 0, 1) := by decide +kernel
theorem dX12_holding_14 : decode cX12_holding 14 = .ok (.iconst 1, 1) := by decide +kernel
theorem dX12_holding_15 : decode cX12_holding 15 = .ok (.invokevirtual 113, 3) := by decide +kernel
theorem dX12_holding_18 : decode cX12_holding 18 = .ok (.ireturn, 1) := by decide +kernel
theorem dX12_holding_19 : decode cX12_holding 19 = .ok (.aload_n 0, 1) := by decide +kernel
theorem dX12_holding_20 : decode cX12_holding 20 = .ok (.aload_n 0, 1) := by decide +kernel
theorem dX12_holding_21 : decode cX12_holding 21 = .ok (.getfield 89, 3) := by decide +kernel
theorem dX12_holding_24 : decode cX12_holding 24 = .ok (.iload_n 1, 1) := by decide +kernel
theorem dX12_holding_25 : decode cX12_holding 25 = .ok (.iaload, 1) := by decide +kernel
theorem dX12_holding_26 : decode cX12_holding 26 = .ok (.invokevirtual 117, 3) := by decide +kernel
theorem dX12_holding_29 : decode cX12_holding 29 = .ok (.ireturn, 1) := by decide +kernel
set_option maxRecDepth 20000 in
theorem ggX12_worth_X12_refusedLong : GoodIn wsX12_worth wsX12_refusedLong := goodIn_r _ [13, 14, 15, 16, 12, 17, 18, 19, 151, 152, 153, 154, 155, 156, 157, 158, 159, 160, 161, 162, 163, 164, 165, 166, 167, 168, 169, 170, 171, 172, 173, 174, 175, 176, 177, 178, 179, 180, 181, 182, 183, 184, 185, 186, 187, 188, 189, 190, 191, 192, 193, 194, 195, 196, 197, 198, 199, 200, 201, 202, 203, 204, 205, 206, 207, 208, 209, 210, 211, 212, 213, 214, 215, 216, 217, 218, 219] (by decide +kernel) (by decide +kernel)
set_option maxRecDepth 20000 in
theorem gX12_worth_X12_refusedLong : GoodIn wsX12_worth (wsV RX12 430 RX12 yX12_refusedLong wsX12_refusedLong) := goodIn_app (goodIn_of _ (by decide +kernel)) ggX12_worth_X12_refusedLong
set_option maxRecDepth 20000 in
theorem ggX12_worth_X12_isPoints : GoodIn wsX12_worth wsX12_isPoints := goodIn_r _ [22, 23, 24, 12, 25] (by decide +kernel) (by decide +kernel)
set_option maxRecDepth 20000 in
theorem gX12_worth_X12_isPoints : GoodIn wsX12_worth (va_wsS RX12 515 yX12_isPoints wsX12_isPoints) := goodIn_app (goodIn_of _ (by decide +kernel)) ggX12_worth_X12_isPoints
set_option maxRecDepth 20000 in
theorem ggX12_worth_X12_dirtyAt : GoodIn wsX12_worth wsX12_dirtyAt := goodIn_r _ [123, 36, 39, 37, 124, 125, 38, 126, 5, 151, 152, 153, 154, 155, 156, 157, 158, 159, 160, 161, 162, 163, 164, 165, 166, 167, 168, 169, 170, 171, 172, 173, 174, 175, 176, 177, 178, 179, 180, 181, 182, 183, 184, 185, 186, 187, 188, 189, 190, 191, 192, 193, 194, 195, 196, 197, 198, 199, 200, 201, 202, 203, 204, 205, 206, 207, 208, 209, 210, 211, 212, 213, 214, 215, 216, 217, 218, 219] (by decide +kernel) (by decide +kernel)
set_option maxRecDepth 20000 in
theorem gX12_worth_X12_dirtyAt : GoodIn wsX12_worth (wsV RX12 511 RX12 yX12_dirtyAt wsX12_dirtyAt) := goodIn_app (goodIn_of _ (by decide +kernel)) ggX12_worth_X12_dirtyAt
