theorem dX12_go_6 : decode cX12_go 6 = .ok (.iload_n 1, 1) := by decide +kernel
theorem dX12_go_7 : decode cX12_go 7 = .ok (.invokevirtual 577, 3) := by decide +kernel
theorem dX12_go_10 : decode cX12_go 10 = .ok (.istore_n 2, 1) := by decide +kernel
theorem dX12_go_11 : decode cX12_go 11 = .ok (.iload_n 2, 1) := by decide +kernel
theorem dX12_go_12 : decode cX12_go 12 = .ok (.ifCond .le 12, 3) := by decide +kernel
theorem dX12_go_15 : decode cX12_go 15 = .ok (.aload_n 0, 1) := by decide +kernel
theorem dX12_go_16 : decode cX12_go 16 = .ok (.iload_n 2, 1) := by decide +kernel
theorem dX12_go_17 : decode cX12_go 17 = .ok (.ldc2_w 482, 3) := by decide +kernel
theorem dX12_go_20 : decode cX12_go 20 = .ok (.invokevirtual 430, 3) := by decide +kernel
theorem dX12_go_23 : decode cX12_go 23 = .ok (.lreturn, 1) := by decide +kernel
theorem dX12_go_24 : decode cX12_go 24 = .ok (.aload_n 0, 1) := by decide +kernel
theorem dX12_go_25 : decode cX12_go 25 = .ok (.aload_n 0, 1) := by decide +kernel
theorem dX12_go_26 : decode cX12_go 26 = .ok (.iload_n 1, 1) := by decide +kernel
theorem dX12_go_27 : decode cX12_go 27 = .ok (.invokevirtual 580, 3) := by decide +kernel
theorem dX12_go_30 : decode cX12_go 30 = .ok (.invokevirtual 126, 3) := by decide +kernel
theorem dX12_go_33 : decode cX12_go 33 = .ok (.lreturn, 1) := by decide +kernel
set_option maxRecDepth 20000 in
theorem ggX12_income_X12_refusesDays : GoodIn wsX12_income wsX12_refusesDays := goodIn_r _ [13, 14, 7, 15, 16, 17, 12, 18, 19, 20, 21, 22, 23, 24, 124, 125, 126, 127, 128, 129, 130, 131, 132, 133, 134, 135, 136, 137, 138, 139, 140, 141, 142, 143, 144, 145, 146, 147, 148, 149, 150, 151, 152, 153, 154, 155, 156, 157, 158, 159, 160, 161, 162, 163, 164, 165, 166, 167, 168, 169, 170, 171, 172, 173, 174, 175, 176, 177, 178, 179, 180, 181, 182, 183, 184, 185, 186, 187, 188, 189, 190, 191, 192] (by decide +kernel) (by decide +kernel)
set_option maxRecDepth 20000 in
theorem gX12_income_X12_refusesDays : GoodIn wsX12_income (wsV RX12 577 RX12 yX12_refusesDays wsX12_refusesDays) := goodIn_app (goodIn_of _ (by decide +kernel)) ggX12_income_X12_refusesDays
set_option maxRecDepth 20000 in
theorem ggX12_income_X12_refusedLong : GoodIn wsX12_income wsX12_refusedLong := goodIn_r _ [28, 29, 30, 31, 12, 32, 33, 34, 124, 125, 126, 127, 128, 129, 130, 131, 132, 133, 134, 135, 136, 137, 138, 139, 140, 141, 142, 143, 144, 145, 146, 147, 148, 149, 150, 151, 152, 153, 154, 155, 156, 157, 158, 159, 160, 161, 162, 163, 164, 165, 166, 167, 168, 169, 170, 171, 172, 173, 174, 175, 176, 177, 178, 179, 180, 181, 182, 183, 184, 185, 186, 187, 188, 189, 190, 191, 192] (by decide +kernel) (by decide +kernel)
set_option maxRecDepth 20000 in
theorem gX12_income_X12_refusedLong : GoodIn wsX12_income (wsV RX12 430 RX12 yX12_refusedLong wsX12_refusedLong) := goodIn_app (goodIn_of _ (by decide +kernel)) ggX12_income_X12_refusedLong
set_option maxRecDepth 20000 in
theorem ggX12_income_X12_goesDays : GoodIn wsX12_income wsX12_goesDays := goodIn_r _ [42, 43, 44, 45, 12, 46, 7, 47, 48, 49, 5, 3, 50, 8, 19, 20, 21, 22, 23, 24, 51, 52, 53, 54, 55, 56, 57, 58, 59, 60, 61, 62, 63, 64, 65, 66, 67, 68, 69, 70, 71, 72, 73, 74, 75, 76, 77, 78, 79, 80, 81, 82, 83, 84, 85, 86, 87, 88, 89, 90, 91, 92, 93, 94, 95, 96, 97, 98, 99, 100, 101, 102, 103, 104, 105, 106, 107, 108, 109, 110, 111, 112, 113, 114, 115, 124, 125, 126, 127, 128, 129, 130, 131, 132, 133, 134, 135, 136, 137, 138, 139, 140, 141, 142, 143, 144, 145, 146, 147, 148, 149, 150, 151, 152, 153, 154, 155, 156, 157, 158, 159, 160, 161, 162, 163, 164, 165, 166, 167, 168, 169, 170, 171, 172, 173, 174, 175, 176, 177, 178, 179, 180, 181, 182, 183, 184, 185, 186, 187, 188, 189, 190, 191, 192] (by decide +kernel) (by decide +kernel)
set_option maxRecDepth 20000 in
theorem gX12_income_X12_goesDays : GoodIn wsX12_income (wsV RX12 580 RX12 yX12_goesDays wsX12_goesDays) := goodIn_app (goodIn_of _ (by decide +kernel)) ggX12_income_X12_goesDays
set_option maxRecDepth 20000 in
theorem ggX12_income_X12_goodLong : GoodIn wsX12_income wsX12_goodLong := goodIn_r _ [119, 120, 121, 122, 12, 123, 33, 34, 124, 125, 126, 127, 128, 129, 130, 131, 132, 133, 134, 135, 136, 137, 138, 139, 140, 141, 142, 143, 144, 145, 146, 147, 148, 149, 150, 151, 152, 153, 154, 155, 156, 157, 158, 159, 160, 161, 162, 163, 164, 165, 166, 167, 168, 169, 170, 171, 172, 173, 174, 175, 176, 177, 178, 179, 180, 181, 182, 183, 184, 185, 186, 187, 188, 189, 190, 191, 192] (by decide +kernel) (by decide +kernel)
set_option maxRecDepth 20000 in
theorem gX12_income_X12_goodLong : GoodIn wsX12_income (wsV RX12 126 RX12 yX12_goodLong wsX12_goodLong) := goodIn_app (goodIn_of _ (by decide +kernel)) ggX12_income_X12_goodLong
theorem dX12_income_0 : decode cX12_income 0 = .ok (.aload_n 0, 1) := by decide +kernel
theorem dX12_income_1 : decode cX12_income 1 = .ok (.iconst 0, 1) := by decide +kernel
theorem dX12_income_2 : decode cX12_income 2 = .ok (.putfield 107, 3) := by decide +kernel
theorem dX12_income_5 : decode cX12_income 5 = .ok (.aload_n 0, 1) := by decide +kernel
theorem dX12_income_6 : decode cX12_income 6 = .ok (.iload_n 1, 1) := by decide +kernel
theorem dX12_income_7 : decode cX12_income 7 = .ok (.invokevirtual 577, 3) := by decide +kernel
theorem dX12_income_10 : decode cX12_income 10 = .ok (.istore_n 2, 1) := by decide +kernel
theorem dX12_income_11 : decode cX12_income 11 = .ok (.iload_n 2, 1) := by decide +kernel
theorem dX12_income_12 : decode cX12_income 12 = .ok (.ifCond .le 12, 3) := by decide +kernel
theorem dX12_income_15 : decode cX12_income 15 = .ok (.aload_n 0, 1) := by decide +kernel
theorem dX12_income_16 : decode cX12_income 16 = .ok (.iload_n 2, 1) := by decide +kernel
theorem dX12_income_17 : decode cX12_income 17 = .ok (.ldc2_w 482, 3) := by decide +kernel
theorem dX12_income_20 : decode cX12_income 20 = .ok (.invokevirtual 430, 3) := by decide +kernel
theorem dX12_income_23 : decode cX12_income 23 = .ok (.lreturn, 1) := by decide +kernel
theorem dX12_income_24 : decode cX12_income 24 = .ok (.aload_n 0, 1) := by decide +kernel
theorem dX12_income_25 : decode cX12_income 25 = .ok (.aload_n 0, 1) := by decide +kernel
theorem dX12_income_26 : decode cX12_income 26 = .ok (.getfield 89, 3) := by decide +kernel
theorem dX12_income_29 : decode cX12_income 29 = .ok (.aload_n 0, 1) := by decide +kernel
theorem dX12_income_30 : decode cX12_income 30 = .ok (.getfield 101, 3) := by decide +kernel
theorem dX12_income_33 : decode cX12_income 33 = .ok (.invokevirtual 583, 3) := by decide +kernel
theorem dX12_income_36 : decode cX12_income 36 = .ok (.aload_n 0, 1) := by decide +kernel
theorem dX12_income_37 : decode cX12_income 37 = .ok (.aload_n 0, 1) := by decide +kernel
theorem dX12_income_38 : decode cX12_income 38 = .ok (.getfield 92, 3) := by decide +kernel
theorem dX12_income_41 : decode cX12_income 41 = .ok (.aload_n 0, 1) := by decide +kernel
theorem dX12_income_42 : decode cX12_income 42 = .ok (.getfield 104, 3) := by decide +kernel
theorem dX12_income_45 : decode cX12_income 45 = .ok (.invokevirtual 583, 3) := by decide +kernel
theorem dX12_income_48 : decode cX12_income 48 = .ok (.aload_n 0, 1) := by decide +kernel
theorem dX12_income_49 : decode cX12_income 49 = .ok (.getfield 377, 3) := by decide +kernel
theorem dX12_income_52 : decode cX12_income 52 = .ok (.istore_n 3, 1) := by decide +kernel
theorem dX12_income_53 : decode cX12_income 53 = .ok (.aload_n 0, 1) := by decide +kernel
theorem dX12_income_54 : decode cX12_income 54 = .ok (.getfield 380, 3) := by decide +kernel
theorem dX12_income_57 : decode cX12_income 57 = .ok (.lstore 4, 2) := by decide +kernel
theorem dX12_income_59 : decode cX12_income 59 = .ok (.aload_n 0, 1) := by decide +kernel
theorem dX12_income_60 : decode cX12_income 60 = .ok (.iload_n 1, 1) := by decide +kernel
theorem dX12_income_61 : decode cX12_income 61 = .ok (.invokevirtual 580, 3) := by decide +kernel
theorem dX12_income_64 : decode cX12_income 64 = .ok (.lstore 6, 2) := by decide +kernel
theorem dX12_income_66 : decode cX12_income 66 = .ok (.aload_n 0, 1) := by decide +kernel
theorem dX12_income_67 : decode cX12_income 67 = .ok (.aload_n 0, 1) := by decide +kernel
theorem dX12_income_68 : decode cX12_income 68 = .ok (.getfield 101, 3) := by decide +kernel
theorem dX12_income_71 : decode cX12_income 71 = .ok (.aload_n 0, 1) := by decide +kernel
theorem dX12_income_72 : decode cX12_income 72 = .ok (.getfield 89, 3) := by decide +kernel
theorem dX12_income_75 : decode cX12_income 75 = .ok (.invokevirtual 583, 3) := by decide +kernel
theorem dX12_income_78 : decode cX12_income 78 = .ok (.aload_n 0, 1) := by decide +kernel
theorem dX12_income_79 : decode cX12_income 79 = .ok (.aload_n 0, 1) := by decide +kernel
theorem dX12_income_80 : decode cX12_income 80 = .ok (.getfield 104, 3) := by decide +kernel
theorem dX12_income_83 : decode cX12_income 83 = .ok (.aload_n 0, 1) := by decide +kernel
theorem dX12_income_84 : decode cX12_income 84 = .ok (.getfield 92, 3) := by decide +kernel
theorem dX12_income_87 : decode cX12_income 87 = .ok (.invokevirtual 583, 3) := by decide +kernel
theorem dX12_income_90 : decode cX12_income 90 = .ok (.aload_n 0, 1) := by decide +kernel
theorem dX12_income_91 : decode cX12_income 91 = .ok (.iload_n 3, 1) := by decide +kernel
theorem dX12_income_92 : decode cX12_income 92 = .ok (.putfield 377, 3) := by decide +kernel
theorem dX12_income_95 : decode cX12_income 95 = .ok (.aload_n 0, 1) := by decide +kernel
theorem dX12_income_96 : decode cX12_income 96 = .ok (.lload 4, 2) := by decide +kernel
theorem dX12_income_98 : decode cX12_income 98 = .ok (.putfield 380, 3) := by decide +kernel
theorem dX12_income_101 : decode cX12_income 101 = .ok (.aload_n 0, 1) := by decide +kernel
theorem dX12_income_102 : decode cX12_income 102 = .ok (.lload 6, 2) := by decide +kernel
theorem dX12_income_104 : decode cX12_income 104 = .ok (.invokevirtual 126, 3) := by decide +kernel
theorem dX12_income_107 : decode cX12_income 107 = .ok (.lreturn, 1) := by decide +kernel
set_option maxRecDepth 20000 in
theorem ggX12_denied_X12_refused : GoodIn wsX12_denied wsX12_refused := goodIn_r _ [5, 6, 7, 8, 9, 10, 11, 12, 13, 14, 15, 16, 17, 18, 19, 20, 21, 22, 23, 24, 25, 26, 27, 28, 29, 30, 31, 32, 33, 34, 35, 36, 37, 38, 39, 40, 41, 42, 43, 44, 45, 46, 47, 48, 49, 50, 51, 52, 53, 54, 55, 56, 57, 58, 59, 60, 61, 62, 63, 64, 65, 66, 67, 68, 69, 70, 71, 72, 73, 74, 75, 76] (by decide +kernel) (by decide +kernel)
set_option maxRecDepth 20000 in
theorem gX12_denied_X12_refused : GoodIn wsX12_denied (wsV RX12 113 RX12 yX12_refused wsX12_refused) := goodIn_app (goodIn_of _ (by decide +kernel)) ggX12_denied_X12_refused
theorem dX12_denied_0 : decode cX12_denied 0 = .ok (.aload_n 0, 1) := by decide +kernel
theorem dX12_denied_1 : decode cX12_denied 1 = .ok (.iconst 1, 1) := by decide +kernel
theorem dX12_denied_2 : decode cX12_denied 2 = .ok (.invokevirtual 113, 3) := by decide +kernel
theorem dX12_denied_5 : decode cX12_denied 5 = .ok (.pop, 1) := by decide +kernel
theorem dX12_denied_6 : decode cX12_denied 6 = .ok (.iconst 0, 1) := by decide +kernel
theorem dX12_denied_7 : decode cX12_denied 7 = .ok (.ireturn, 1) := by decide +kernel
set_option maxRecDepth 20000 in
theorem ggX12_keep_X12_denied : GoodIn wsX12_keep wsX12_denied := goodIn_r _ [16, 17, 18, 19, 15, 20, 21, 22, 31, 32, 33, 34, 35, 36, 37, 38, 39, 40, 41, 42, 43, 44, 45, 46, 47, 48, 49, 50, 51, 52, 53, 54, 55, 56, 57, 58, 59, 60, 61, 62, 63, 64, 65, 66, 67, 68, 69, 70, 71, 72, 73, 74, 75, 76, 77, 78, 79, 80, 81, 82, 83, 84, 85, 86, 87, 88, 89, 90, 91, 92, 93, 94, 95, 96, 97, 98, 99] (by decide +kernel) (by decide +kernel)
set_option maxRecDepth 20000 in
theorem gX12_keep_X12_denied : GoodIn wsX12_keep (wsV RX12 587 RX12 yX12_denied wsX12_denied) := goodIn_app (goodIn_of _ (by decide +kernel)) ggX12_keep_X12_denied
set_option maxRecDepth 20000 in
theorem ggX12_keep_X12_good : GoodIn wsX12_keep wsX12_good := goodIn_r _ [30, 21, 22, 31, 32, 33, 34, 35, 36, 37, 38, 39, 40, 41, 42, 43, 44, 45, 46, 47, 48, 49, 50, 51, 52, 53, 54, 55, 56, 57, 58, 59, 60, 61, 62, 63, 64, 65, 66, 67, 68, 69, 70, 71, 72, 73, 74, 75, 76, 77, 78, 79, 80, 81, 82, 83, 84, 85, 86, 87, 88, 89, 90, 91, 92, 93, 94, 95, 96, 97, 98, 99] (by decide +kernel) (by decide +kernel)
set_option maxRecDepth 20000 in
theorem gX12_keep_X12_good : GoodIn wsX12_keep (wsV RX12 117 RX12 yX12_good wsX12_good) := goodIn_app (goodIn_of _ (by decide +kernel)) ggX12_keep_X12_good
theorem dX12_keep_0 : decode cX12_keep 0 = .ok (.aload_n 0, 1) := by decide +kernel
theorem dX12_keep_1 : decode cX12_keep 1 = .ok (.iconst 0, 1) := by decide +kernel
theorem dX12_keep_2 : decode cX12_keep 2 = .ok (.putfield 107, 3) := by decide +kernel
theorem dX12_keep_5 : decode cX12_keep 5 = .ok (.aload_n 0, 1) := by decide +kernel
theorem dX12_keep_6 : decode cX12_keep 6 = .ok (.getfield 361, 3) := by decide +kernel
theorem dX12_keep_9 : decode cX12_keep 9 = .ok (.ifCond .ne 8, 3) := by decide +kernel
theorem dX12_keep_12 : decode cX12_keep 12 = .ok (.aload_n 0, 1) := by decide +kernel
theorem dX12_keep_13 : decode cX12_keep 13 = .ok (.invokevirtual 587, 3) := by decide +kernel
theorem dX12_keep_16 : decode cX12_keep 16 = .ok (.ireturn, 1) := by decide +kernel
theorem dX12_keep_17 : decode cX12_keep 17 = .ok (.aload_n 0, 1) := by decide +kernel
theorem dX12_keep_18 : decode cX12_keep 18 = .ok (.aload_n 0, 1) := by decide +kernel
theorem dX12_keep_19 : decode cX12_keep 19 = .ok (.getfield 89, 3) := by decide +kernel
theorem dX12_keep_22 : decode cX12_keep 22 = .ok (.aload_n 0, 1) := by decide +kernel
theorem dX12_keep_23 : decode cX12_keep 23 = .ok (.getfield 95, 3) := by decide +kernel
theorem dX12_keep_26 : decode cX12_keep 26 = .ok (.invokevirtual 583, 3) := by decide +kernel
theorem dX12_keep_29 : decode cX12_keep 29 = .ok (.aload_n 0, 1) := by decide +kernel
theorem dX12_keep_30 : decode cX12_keep 30 = .ok (.aload_n 0, 1) := by decide +kernel
theorem dX12_keep_31 : decode cX12_keep 31 = .ok (.getfield 92, 3) := by decide +kernel
theorem dX12_keep_34 : decode cX12_keep 34 = .ok (.aload_n 0, 1) := by decide +kernel
theorem dX12_keep_35 : decode cX12_keep 35 = .ok (.getfield 98, 3) := by decide +kernel
theorem dX12_keep_38 : decode cX12_keep 38 = .ok (.invokevirtual 583, 3) := by decide +kernel
theorem dX12_keep_41 : decode cX12_keep 41 = .ok (.aload_n 0, 1) := by decide +kernel
theorem dX12_keep_42 : decode cX12_keep 42 = .ok (.aload_n 0, 1) := by decide +kernel
theorem dX12_keep_43 : decode cX12_keep 43 = .ok (.getfield 377, 3) := by decide +kernel
theorem dX12_keep_46 : decode cX12_keep 46 = .ok (.putfield 591, 3) := by decide +kernel
theorem dX12_keep_49 : decode cX12_keep 49 = .ok (.aload_n 0, 1) := by decide +kernel
theorem dX12_keep_50 : decode cX12_keep 50 = .ok (.aload_n 0, 1) := by decide +kernel
theorem dX12_keep_51 : decode cX12_keep 51 = .ok (.getfield 380, 3) := by decide +kernel
theorem dX12_keep_54 : decode cX12_keep 54 = .ok (.putfield 594, 3) := by decide +kernel
theorem dX12_keep_57 : decode cX12_keep 57 = .ok (.aload_n 0, 1) := by decide +kernel
theorem dX12_keep_58 : decode cX12_keep 58 = .ok (.iconst 1, 1) := by decide +kernel
theorem dX12_keep_59 : decode cX12_keep 59 = .ok (.putfield 382, 3) := by decide +kernel
theorem dX12_keep_62 : decode cX12_keep 62 = .ok (.aload_n 0, 1) := by decide +kernel
theorem dX12_keep_63 : decode cX12_keep 63 = .ok (.iconst 0, 1) := by decide +kernel
theorem dX12_keep_64 : decode cX12_keep 64 = .ok (.invokevirtual 117, 3) := by decide +kernel
theorem dX12_keep_67 : decode cX12_keep 67 = .ok (.pop, 1) := by decide +kernel
theorem dX12_keep_68 : decode cX12_keep 68 = .ok (.iconst 1, 1) := by decide +kernel
theorem dX12_keep_69 : decode cX12_keep 69 = .ok (.ireturn, 1) := by decide +kernel
set_option maxRecDepth 20000 in
theorem ggX12_back_X12_denied : GoodIn wsX12_back wsX12_denied := goodIn_r _ [15, 16, 17, 18, 14, 19, 20, 21, 30, 31, 32, 33, 34, 35, 36, 37, 38, 39, 40, 41, 42, 43, 44, 45, 46, 47, 48, 49, 50, 51, 52, 53, 54, 55, 56, 57, 58, 59, 60, 61, 62, 63, 64, 65, 66, 67, 68, 69, 70, 71, 72, 73, 74, 75, 76, 77, 78, 79, 80, 81, 82, 83, 84, 85, 86, 87, 88, 89, 90, 91, 92, 93, 94, 95, 96, 97, 98] (by decide +kernel) (by decide +kernel)
set_option maxRecDepth 20000 in
theorem gX12_back_X12_denied : GoodIn wsX12_back (wsV RX12 587 RX12 yX12_denied wsX12_denied) := goodIn_app (goodIn_of _ (by decide +kernel)) ggX12_back_X12_denied
set_option maxRecDepth 20000 in
theorem ggX12_back_X12_good : GoodIn wsX12_back wsX12_good := goodIn_r _ [29, 20, 21, 30, 31, 32, 33, 34, 35, 36, 37, 38, 39, 40, 41, 42, 43, 44, 45, 46, 47, 48, 49, 50, 51, 52, 53, 54, 55, 56, 57, 58, 59, 60, 61, 62, 63, 64, 65, 66, 67, 68, 69, 70, 71, 72, 73, 74, 75, 76, 77, 78, 79, 80, 81, 82, 83, 84, 85, 86, 87, 88, 89, 90, 91, 92, 93, 94, 95, 96, 97, 98] (by decide +kernel) (by decide +kernel)
set_option maxRecDepth 20000 in
theorem gX12_back_X12_good : GoodIn wsX12_back (wsV RX12 117 RX12 yX12_good wsX12_good) := goodIn_app (goodIn_of _ (by decide +kernel)) ggX12_back_X12_good
theorem dX12_back_0 : decode cX12_back 0 = .ok (.aload_n 0, 1) := by decide +kernel
theorem dX12_back_1 : decode cX12_back 1 = .ok (.iconst 0, 1) := by decide +kernel
theorem dX12_back_2 : decode cX12_back 2 = .ok (.putfield 107, 3) := by decide +kernel
theorem dX12_back_5 : decode cX12_back 5 = .ok (.aload_n 0, 1) := by decide +kernel
theorem dX12_back_6 : decode cX12_back 6 = .ok (.getfield 382, 3) := by decide +kernel
theorem dX12_back_9 : decode cX12_back 9 = .ok (.ifCond .ne 8, 3) := by decide +kernel
theorem dX12_back_12 : decode cX12_back 12 = .ok (.aload_n 0, 1) := by decide +kernel
theorem dX12_back_13 : decode cX12_back 13 = .ok (.invokevirtual 587, 3) := by decide +kernel
theorem dX12_back_16 : decode cX12_back 16 = .ok (.ireturn, 1) := by decide +kernel
theorem dX12_back_17 : decode cX12_back 17 = .ok (.aload_n 0, 1) := by decide +kernel
theorem dX12_back_18 : decode cX12_back 18 = .ok (.aload_n 0, 1) := by decide +kernel
theorem dX12_back_19 : decode cX12_back 19 = .ok (.getfield 95, 3) := by decide +kernel
theorem dX12_back_22 : decode cX12_back 22 = .ok (.aload_n 0, 1) := by decide +kernel
theorem dX12_back_23 : decode cX12_back 23 = .ok (.getfield 89, 3) := by decide +kernel
theorem dX12_back_26 : decode cX12_back 26 = .ok (.invokevirtual 583, 3) := by decide +kernel
theorem dX12_back_29 : decode cX12_back 29 = .ok (.aload_n 0, 1) := by decide +kernel
theorem dX12_back_30 : decode cX12_back 30 = .ok (.aload_n 0, 1) := by decide +kernel
theorem dX12_back_31 : decode cX12_back 31 = .ok (.getfield 98, 3) := by decide +kernel
theorem dX12_back_34 : decode cX12_back 34 = .ok (.aload_n 0, 1) := by decide +kernel
theorem dX12_back_35 : decode cX12_back 35 = .ok (.getfield 92, 3) := by decide +kernel
theorem dX12_back_38 : decode cX12_back 38 = .ok (.invokevirtual 583, 3) := by decide +kernel
theorem dX12_back_41 : decode cX12_back 41 = .ok (.aload_n 0, 1) := by decide +kernel
theorem dX12_back_42 : decode cX12_back 42 = .ok (.aload_n 0, 1) := by decide +kernel
theorem dX12_back_43 : decode cX12_back 43 = .ok (.getfield 591, 3) := by decide +kernel
theorem dX12_back_46 : decode cX12_back 46 = .ok (.putfield 377, 3) := by decide +kernel
theorem dX12_back_49 : decode cX12_back 49 = .ok (.aload_n 0, 1) := by decide +kernel
theorem dX12_back_50 : decode cX12_back 50 = .ok (.aload_n 0, 1) := by decide +kernel
theorem dX12_back_51 : decode cX12_back 51 = .ok (.getfield 594, 3) := by decide +kernel
theorem dX12_back_54 : decode cX12_back 54 = .ok (.putfield 380, 3) := by decide +kernel
theorem dX12_back_57 : decode cX12_back 57 = .ok (.aload_n 0, 1) := by decide +kernel
theorem dX12_back_58 : decode cX12_back 58 = .ok (.iconst 0, 1) := by decide +kernel
theorem dX12_back_59 : decode cX12_back 59 = .ok (.invokevirtual 117, 3) := by decide +kernel
theorem dX12_back_62 : decode cX12_back 62 = .ok (.pop, 1) := by decide +kernel
theorem dX12_back_63 : decode cX12_back 63 = .ok (.iconst 1, 1) := by decide +kernel
theorem dX12_back_64 : decode cX12_back 64 = .ok (.ireturn, 1) := by decide +kernel
theorem dX12_size_0 : decode cX12_size 0 = .ok (.aload_n 0, 1) := by decide +kernel
theorem dX12_size_1 : decode cX12_size 1 = .ok (.iconst 0, 1) := by decide +kernel
theorem dX12_size_2 : decode cX12_size 2 = .ok (.putfield 107, 3) := by decide +kernel
theorem dX12_size_5 : decode cX12_size 5 = .ok (.iload_n 1, 1) := by decide +kernel
theorem dX12_size_6 : decode cX12_size 6 = .ok (.tableswitch 67 0 4 #[34, 39, 44, 49, 54], 34) := by decide +kernel
theorem dX12_size_40 : decode cX12_size 40 = .ok (.aload_n 0, 1) := by decide +kernel
theorem dX12_size_41 : decode cX12_size 41 = .ok (.getfield 358, 3) := by decide +kernel
theorem dX12_size_44 : decode cX12_size 44 = .ok (.ireturn, 1) := by decide +kernel
theorem dX12_size_45 : decode cX12_size 45 = .ok (.aload_n 0, 1) := by decide +kernel
theorem dX12_size_46 : decode cX12_size 46 = .ok (.getfield 364, 3) := by decide +kernel
theorem dX12_size_49 : decode cX12_size 49 = .ok (.ireturn, 1) := by decide +kernel
theorem dX12_size_50 : decode cX12_size 50 = .ok (.aload_n 0, 1) := by decide +kernel
theorem dX12_size_51 : decode cX12_size 51 = .ok (.getfield 150, 3) := by decide +kernel
theorem dX12_size_54 : decode cX12_size 54 = .ok (.ireturn, 1) := by decide +kernel
theorem dX12_size_55 : decode cX12_size 55 = .ok (.aload_n 0, 1) := by decide +kernel
theorem dX12_size_56 : decode cX12_size 56 = .ok (.getfield 349, 3) := by decide +kernel
theorem dX12_size_59 : decode cX12_size 59 = .ok (.ireturn, 1) := by decide +kernel
theorem dX12_size_60 : decode cX12_size 60 = .ok (.aload_n 0, 1) := by decide +kernel
theorem dX12_size_61 : decode cX12_size 61 = .ok (.getfield 382, 3) := by decide +kernel
theorem dX12_size_64 : decode cX12_size 64 = .ok (.ifCond .eq 7, 3) := by decide +kernel
theorem dX12_size_67 : decode cX12_size 67 = .ok (.iconst 1, 1) := by decide +kernel
theorem dX12_size_68 : decode cX12_size 68 = .ok (.goto 4, 3) := by decide +kernel
theorem dX12_size_71 : decode cX12_size 71 = .ok (.iconst 0, 1) := by decide +kernel
theorem dX12_size_72 : decode cX12_size 72 = .ok (.ireturn, 1) := by decide +kernel
theorem dX12_size_73 : decode cX12_size 73 = .ok (.iconst (-1), 1) := by decide +kernel
theorem dX12_size_74 : decode cX12_size 74 = .ok (.ireturn, 1) := by decide +kernel
theorem dX12_trouble_0 : decode cX12_trouble 0 = .ok (.aload_n 0, 1) := by decide +kernel
theorem dX12_trouble_1 : decode cX12_trouble 1 = .ok (.iconst 0, 1) := by decide +kernel
theorem dX12_trouble_2 : decode cX12_trouble 2 = .ok (.putfield 107, 3) := by decide +kernel
theorem dX12_trouble_5 : decode cX12_trouble 5 = .ok (.aload_n 0, 1) := by decide +kernel
theorem dX12_trouble_6 : decode cX12_trouble 6 = .ok (.getfield 110, 3) := by decide +kernel
