theorem dX12_refuses_19 : decode cX12_refuses 19 = .ok (.aload_n 0, 1) := by decide +kernel
theorem dX12_refuses_20 : decode cX12_refuses 20 = .ok (.iload_n 1, 1) := by decide +kernel
theorem dX12_refuses_21 : decode cX12_refuses 21 = .ok (.iload_n 2, 1) := by decide +kernel
theorem dX12_refuses_22 : decode cX12_refuses 22 = .ok (.invokevirtual 468, 3) := by decide +kernel
theorem dX12_refuses_25 : decode cX12_refuses 25 = .ok (.ifCond .eq 7, 3) := by decide +kernel
theorem dX12_refuses_28 : decode cX12_refuses 28 = .ok (.iconst 0, 1) := by decide +kernel
theorem dX12_refuses_29 : decode cX12_refuses 29 = .ok (.goto 4, 3) := by decide +kernel
theorem dX12_refuses_32 : decode cX12_refuses 32 = .ok (.iconst 5, 1) := by decide +kernel
theorem dX12_refuses_33 : decode cX12_refuses 33 = .ok (.ireturn, 1) := by decide +kernel
set_option maxRecDepth 20000 in
theorem ggX12_refusesBy_X12_isBond : GoodIn wsX12_refusesBy wsX12_isBond := goodIn_r _ [5, 6, 24, 25, 26, 27, 28, 29, 30, 31, 32, 33, 34, 35, 36, 37, 38, 39, 40, 41, 42, 43, 44, 45, 46, 47, 48, 49, 50, 51, 52, 53, 54, 55, 56, 57, 58, 59, 60, 61, 62, 63, 64, 65, 66, 67, 68, 69, 70, 71, 72, 73, 74, 75, 76, 77, 78, 79, 80, 81, 82, 83, 84, 85, 86, 87, 88, 89, 90, 91, 92] (by decide +kernel) (by decide +kernel)
set_option maxRecDepth 20000 in
theorem gX12_refusesBy_X12_isBond : GoodIn wsX12_refusesBy (wsV RX12 438 RX12 yX12_isBond wsX12_isBond) := goodIn_app (goodIn_of _ (by decide +kernel)) ggX12_refusesBy_X12_isBond
set_option maxRecDepth 20000 in
theorem ggX12_refusesBy_X12_isDate : GoodIn wsX12_refusesBy wsX12_isDate := goodIn_r _ [9, 10, 11, 12, 13, 4, 14, 15, 16, 17] (by decide +kernel) (by decide +kernel)
set_option maxRecDepth 20000 in
theorem gX12_refusesBy_X12_isDate : GoodIn wsX12_refusesBy (va_wsS RX12 246 yX12_isDate wsX12_isDate) := goodIn_app (goodIn_of _ (by decide +kernel)) ggX12_refusesBy_X12_isDate
theorem dX12_refusesBy_0 : decode cX12_refusesBy 0 = .ok (.aload_n 0, 1) := by decide +kernel
theorem dX12_refusesBy_1 : decode cX12_refusesBy 1 = .ok (.iload_n 1, 1) := by decide +kernel
theorem dX12_refusesBy_2 : decode cX12_refusesBy 2 = .ok (.invokevirtual 438, 3) := by decide +kernel
theorem dX12_refusesBy_5 : decode cX12_refusesBy 5 = .ok (.ifCond .ne 5, 3) := by decide +kernel
theorem dX12_refusesBy_8 : decode cX12_refusesBy 8 = .ok (.iconst 1, 1) := by decide +kernel
theorem dX12_refusesBy_9 : decode cX12_refusesBy 9 = .ok (.ireturn, 1) := by decide +kernel
theorem dX12_refusesBy_10 : decode cX12_refusesBy 10 = .ok (.iload_n 2, 1) := by decide +kernel
theorem dX12_refusesBy_11 : decode cX12_refusesBy 11 = .ok (.invokestatic 246, 3) := by decide +kernel
theorem dX12_refusesBy_14 : decode cX12_refusesBy 14 = .ok (.ifCond .eq 7, 3) := by decide +kernel
theorem dX12_refusesBy_17 : decode cX12_refusesBy 17 = .ok (.iload_n 3, 1) := by decide +kernel
theorem dX12_refusesBy_18 : decode cX12_refusesBy 18 = .ok (.ifCond .ne 5, 3) := by decide +kernel
theorem dX12_refusesBy_21 : decode cX12_refusesBy 21 = .ok (.iconst 2, 1) := by decide +kernel
theorem dX12_refusesBy_22 : decode cX12_refusesBy 22 = .ok (.ireturn, 1) := by decide +kernel
theorem dX12_refusesBy_23 : decode cX12_refusesBy 23 = .ok (.aload_n 0, 1) := by decide +kernel
theorem dX12_refusesBy_24 : decode cX12_refusesBy 24 = .ok (.iload_n 1, 1) := by decide +kernel
theorem dX12_refusesBy_25 : decode cX12_refusesBy 25 = .ok (.iload_n 2, 1) := by decide +kernel
theorem dX12_refusesBy_26 : decode cX12_refusesBy 26 = .ok (.invokevirtual 468, 3) := by decide +kernel
theorem dX12_refusesBy_29 : decode cX12_refusesBy 29 = .ok (.ifCond .eq 7, 3) := by decide +kernel
theorem dX12_refusesBy_32 : decode cX12_refusesBy 32 = .ok (.iconst 0, 1) := by decide +kernel
theorem dX12_refusesBy_33 : decode cX12_refusesBy 33 = .ok (.goto 4, 3) := by decide +kernel
theorem dX12_refusesBy_36 : decode cX12_refusesBy 36 = .ok (.iconst 5, 1) := by decide +kernel
theorem dX12_refusesBy_37 : decode cX12_refusesBy 37 = .ok (.ireturn, 1) := by decide +kernel
set_option maxRecDepth 20000 in
theorem ggX12_current_X12_refuses : GoodIn wsX12_current wsX12_refuses := goodIn_r _ [6, 7, 8, 9, 5, 10, 11, 12, 13, 14, 15, 16, 17, 18, 19, 20, 21, 22, 23, 24, 25, 26, 27, 28, 48, 49, 50, 51, 52, 53, 54, 55, 56, 57, 58, 59, 60, 61, 62, 63, 64, 65, 66, 67, 68, 69, 70, 71, 72, 73, 74, 75, 76, 77, 78, 79, 80, 81, 82, 83, 84, 85, 86, 87, 88, 89, 90, 91, 92, 93, 94, 95, 96, 97, 98, 99, 100, 101, 102, 103, 104, 105, 106, 107, 108, 109, 110, 111, 112, 113, 114, 115, 116] (by decide +kernel) (by decide +kernel)
set_option maxRecDepth 20000 in
theorem gX12_current_X12_refuses : GoodIn wsX12_current (wsV RX12 474 RX12 yX12_refuses wsX12_refuses) := goodIn_app (goodIn_of _ (by decide +kernel)) ggX12_current_X12_refuses
set_option maxRecDepth 20000 in
theorem ggX12_current_X12_refused : GoodIn wsX12_current wsX12_refused := goodIn_r _ [32, 33, 34, 48, 49, 50, 51, 52, 53, 54, 55, 56, 57, 58, 59, 60, 61, 62, 63, 64, 65, 66, 67, 68, 69, 70, 71, 72, 73, 74, 75, 76, 77, 78, 79, 80, 81, 82, 83, 84, 85, 86, 87, 88, 89, 90, 91, 92, 93, 94, 95, 96, 97, 98, 99, 100, 101, 102, 103, 104, 105, 106, 107, 108, 109, 110, 111, 112, 113, 114, 115, 116] (by decide +kernel) (by decide +kernel)
set_option maxRecDepth 20000 in
theorem gX12_current_X12_refused : GoodIn wsX12_current (wsV RX12 113 RX12 yX12_refused wsX12_refused) := goodIn_app (goodIn_of _ (by decide +kernel)) ggX12_current_X12_refused
set_option maxRecDepth 20000 in
theorem ggX12_current_X12_currentOf : GoodIn wsX12_current wsX12_currentOf := goodIn_r _ [38, 39, 40, 41, 5, 42, 43, 48, 49, 50, 51, 52, 53, 54, 55, 56, 57, 58, 59, 60, 61, 62, 63, 64, 65, 66, 67, 68, 69, 70, 71, 72, 73, 74, 75, 76, 77, 78, 79, 80, 81, 82, 83, 84, 85, 86, 87, 88, 89, 90, 91, 92, 93, 94, 95, 96, 97, 98, 99, 100, 101, 102, 103, 104, 105, 106, 107, 108, 109, 110, 111, 112, 113, 114, 115, 116] (by decide +kernel) (by decide +kernel)
set_option maxRecDepth 20000 in
theorem gX12_current_X12_currentOf : GoodIn wsX12_current (wsV RX12 471 RX12 yX12_currentOf wsX12_currentOf) := goodIn_app (goodIn_of _ (by decide +kernel)) ggX12_current_X12_currentOf
set_option maxRecDepth 20000 in
theorem ggX12_current_X12_good : GoodIn wsX12_current wsX12_good := goodIn_r _ [47, 33, 34, 48, 49, 50, 51, 52, 53, 54, 55, 56, 57, 58, 59, 60, 61, 62, 63, 64, 65, 66, 67, 68, 69, 70, 71, 72, 73, 74, 75, 76, 77, 78, 79, 80, 81, 82, 83, 84, 85, 86, 87, 88, 89, 90, 91, 92, 93, 94, 95, 96, 97, 98, 99, 100, 101, 102, 103, 104, 105, 106, 107, 108, 109, 110, 111, 112, 113, 114, 115, 116] (by decide +kernel) (by decide +kernel)
set_option maxRecDepth 20000 in
theorem gX12_current_X12_good : GoodIn wsX12_current (wsV RX12 117 RX12 yX12_good wsX12_good) := goodIn_app (goodIn_of _ (by decide +kernel)) ggX12_current_X12_good
theorem dX12_current_0 : decode cX12_current 0 = .ok (.aload_n 0, 1) := by decide +kernel
theorem dX12_current_1 : decode cX12_current 1 = .ok (.iconst 0, 1) := by decide +kernel
theorem dX12_current_2 : decode cX12_current 2 = .ok (.putfield 107, 3) := by decide +kernel
theorem dX12_current_5 : decode cX12_current 5 = .ok (.aload_n 0, 1) := by decide +kernel
theorem dX12_current_6 : decode cX12_current 6 = .ok (.iload_n 1, 1) := by decide +kernel
theorem dX12_current_7 : decode cX12_current 7 = .ok (.iload_n 2, 1) := by decide +kernel
theorem dX12_current_8 : decode cX12_current 8 = .ok (.invokevirtual 474, 3) := by decide +kernel
theorem dX12_current_11 : decode cX12_current 11 = .ok (.istore_n 3, 1) := by decide +kernel
theorem dX12_current_12 : decode cX12_current 12 = .ok (.iload_n 3, 1) := by decide +kernel
theorem dX12_current_13 : decode cX12_current 13 = .ok (.ifCond .le 9, 3) := by decide +kernel
theorem dX12_current_16 : decode cX12_current 16 = .ok (.aload_n 0, 1) := by decide +kernel
theorem dX12_current_17 : decode cX12_current 17 = .ok (.iload_n 3, 1) := by decide +kernel
theorem dX12_current_18 : decode cX12_current 18 = .ok (.invokevirtual 113, 3) := by decide +kernel
theorem dX12_current_21 : decode cX12_current 21 = .ok (.ireturn, 1) := by decide +kernel
theorem dX12_current_22 : decode cX12_current 22 = .ok (.aload_n 0, 1) := by decide +kernel
theorem dX12_current_23 : decode cX12_current 23 = .ok (.aload_n 0, 1) := by decide +kernel
theorem dX12_current_24 : decode cX12_current 24 = .ok (.iload_n 1, 1) := by decide +kernel
theorem dX12_current_25 : decode cX12_current 25 = .ok (.iload_n 2, 1) := by decide +kernel
theorem dX12_current_26 : decode cX12_current 26 = .ok (.invokevirtual 471, 3) := by decide +kernel
theorem dX12_current_29 : decode cX12_current 29 = .ok (.invokevirtual 117, 3) := by decide +kernel
theorem dX12_current_32 : decode cX12_current 32 = .ok (.ireturn, 1) := by decide +kernel
set_option maxRecDepth 20000 in
theorem ggX12_isEx_X12_refuses : GoodIn wsX12_isEx wsX12_refuses := goodIn_r _ [6, 7, 8, 9, 5, 10, 11, 12, 13, 14, 15, 16, 17, 18, 19, 20, 21, 22, 23, 24, 25, 26, 27, 28, 59, 60, 61, 62, 63, 64, 65, 66, 67, 68, 69, 70, 71, 72, 73, 74, 75, 76, 77, 78, 79, 80, 81, 82, 83, 84, 85, 86, 87, 88, 89, 90, 91, 92, 93, 94, 95, 96, 97, 98, 99, 100, 101, 102, 103, 104, 105, 106, 107, 108, 109, 110, 111, 112, 113, 114, 115, 116, 117, 118, 119, 120, 121, 122, 123, 124, 125, 126, 127] (by decide +kernel) (by decide +kernel)
set_option maxRecDepth 20000 in
theorem gX12_isEx_X12_refuses : GoodIn wsX12_isEx (wsV RX12 474 RX12 yX12_refuses wsX12_refuses) := goodIn_app (goodIn_of _ (by decide +kernel)) ggX12_isEx_X12_refuses
set_option maxRecDepth 20000 in
theorem ggX12_isEx_X12_refused : GoodIn wsX12_isEx wsX12_refused := goodIn_r _ [32, 33, 34, 59, 60, 61, 62, 63, 64, 65, 66, 67, 68, 69, 70, 71, 72, 73, 74, 75, 76, 77, 78, 79, 80, 81, 82, 83, 84, 85, 86, 87, 88, 89, 90, 91, 92, 93, 94, 95, 96, 97, 98, 99, 100, 101, 102, 103, 104, 105, 106, 107, 108, 109, 110, 111, 112, 113, 114, 115, 116, 117, 118, 119, 120, 121, 122, 123, 124, 125, 126, 127] (by decide +kernel) (by decide +kernel)
set_option maxRecDepth 20000 in
theorem gX12_isEx_X12_refused : GoodIn wsX12_isEx (wsV RX12 113 RX12 yX12_refused wsX12_refused) := goodIn_app (goodIn_of _ (by decide +kernel)) ggX12_isEx_X12_refused
set_option maxRecDepth 20000 in
theorem ggX12_isEx_X12_isExAt : GoodIn wsX12_isEx wsX12_isExAt := goodIn_r _ [38, 39, 40, 41, 42, 5, 43, 44, 45, 46, 47, 48, 49, 50, 51, 52, 53, 54, 59, 60, 61, 62, 63, 64, 65, 66, 67, 68, 69, 70, 71, 72, 73, 74, 75, 76, 77, 78, 79, 80, 81, 82, 83, 84, 85, 86, 87, 88, 89, 90, 91, 92, 93, 94, 95, 96, 97, 98, 99, 100, 101, 102, 103, 104, 105, 106, 107, 108, 109, 110, 111, 112, 113, 114, 115, 116, 117, 118, 119, 120, 121, 122, 123, 124, 125, 126, 127] (by decide +kernel) (by decide +kernel)
set_option maxRecDepth 20000 in
theorem gX12_isEx_X12_isExAt : GoodIn wsX12_isEx (wsV RX12 477 RX12 yX12_isExAt wsX12_isExAt) := goodIn_app (goodIn_of _ (by decide +kernel)) ggX12_isEx_X12_isExAt
set_option maxRecDepth 20000 in
theorem ggX12_isEx_X12_good : GoodIn wsX12_isEx wsX12_good := goodIn_r _ [58, 33, 34, 59, 60, 61, 62, 63, 64, 65, 66, 67, 68, 69, 70, 71, 72, 73, 74, 75, 76, 77, 78, 79, 80, 81, 82, 83, 84, 85, 86, 87, 88, 89, 90, 91, 92, 93, 94, 95, 96, 97, 98, 99, 100, 101, 102, 103, 104, 105, 106, 107, 108, 109, 110, 111, 112, 113, 114, 115, 116, 117, 118, 119, 120, 121, 122, 123, 124, 125, 126, 127] (by decide +kernel) (by decide +kernel)
set_option maxRecDepth 20000 in
theorem gX12_isEx_X12_good : GoodIn wsX12_isEx (wsV RX12 117 RX12 yX12_good wsX12_good) := goodIn_app (goodIn_of _ (by decide +kernel)) ggX12_isEx_X12_good
theorem dX12_isEx_0 : decode cX12_isEx 0 = .ok (.aload_n 0, 1) := by decide +kernel
theorem dX12_isEx_1 : decode cX12_isEx 1 = .ok (.iconst 0, 1) := by decide +kernel
theorem dX12_isEx_2 : decode cX12_isEx 2 = .ok (.putfield 107, 3) := by decide +kernel
theorem dX12_isEx_5 : decode cX12_isEx 5 = .ok (.aload_n 0, 1) := by decide +kernel
theorem dX12_isEx_6 : decode cX12_isEx 6 = .ok (.iload_n 1, 1) := by decide +kernel
theorem dX12_isEx_7 : decode cX12_isEx 7 = .ok (.iload_n 2, 1) := by decide +kernel
theorem dX12_isEx_8 : decode cX12_isEx 8 = .ok (.invokevirtual 474, 3) := by decide +kernel
theorem dX12_isEx_11 : decode cX12_isEx 11 = .ok (.istore_n 3, 1) := by decide +kernel
theorem dX12_isEx_12 : decode cX12_isEx 12 = .ok (.iload_n 3, 1) := by decide +kernel
theorem dX12_isEx_13 : decode cX12_isEx 13 = .ok (.ifCond .le 9, 3) := by decide +kernel
theorem dX12_isEx_16 : decode cX12_isEx 16 = .ok (.aload_n 0, 1) := by decide +kernel
theorem dX12_isEx_17 : decode cX12_isEx 17 = .ok (.iload_n 3, 1) := by decide +kernel
theorem dX12_isEx_18 : decode cX12_isEx 18 = .ok (.invokevirtual 113, 3) := by decide +kernel
theorem dX12_isEx_21 : decode cX12_isEx 21 = .ok (.ireturn, 1) := by decide +kernel
theorem dX12_isEx_22 : decode cX12_isEx 22 = .ok (.aload_n 0, 1) := by decide +kernel
theorem dX12_isEx_23 : decode cX12_isEx 23 = .ok (.aload_n 0, 1) := by decide +kernel
theorem dX12_isEx_24 : decode cX12_isEx 24 = .ok (.iload_n 1, 1) := by decide +kernel
theorem dX12_isEx_25 : decode cX12_isEx 25 = .ok (.iload_n 2, 1) := by decide +kernel
theorem dX12_isEx_26 : decode cX12_isEx 26 = .ok (.invokevirtual 477, 3) := by decide +kernel
theorem dX12_isEx_29 : decode cX12_isEx 29 = .ok (.ifCond .eq 7, 3) := by decide +kernel
theorem dX12_isEx_32 : decode cX12_isEx 32 = .ok (.iconst 1, 1) := by decide +kernel
theorem dX12_isEx_33 : decode cX12_isEx 33 = .ok (.goto 4, 3) := by decide +kernel
theorem dX12_isEx_36 : decode cX12_isEx 36 = .ok (.iconst 0, 1) := by decide +kernel
theorem dX12_isEx_37 : decode cX12_isEx 37 = .ok (.invokevirtual 117, 3) := by decide +kernel
theorem dX12_isEx_40 : decode cX12_isEx 40 = .ok (.ireturn, 1) := by decide +kernel
set_option maxRecDepth 20000 in
theorem ggX12_accrued_X12_refuses : GoodIn wsX12_accrued wsX12_refuses := goodIn_r _ [7, 8, 9, 10, 6, 11, 12, 13, 14, 15, 16, 17, 18, 19, 20, 21, 22, 23, 24, 25, 26, 27, 28, 29, 123, 124, 125, 126, 127, 128, 129, 130, 131, 132, 133, 134, 135, 136, 137, 138, 139, 140, 141, 142, 143, 144, 145, 146, 147, 148, 149, 150, 151, 152, 153, 154, 155, 156, 157, 158, 159, 160, 161, 162, 163, 164, 165, 166, 167, 168, 169, 170, 171, 172, 173, 174, 175, 176, 177, 178, 179, 180, 181, 182, 183, 184, 185, 186, 187, 188, 189, 190, 191] (by decide +kernel) (by decide +kernel)
set_option maxRecDepth 20000 in
theorem gX12_accrued_X12_refuses : GoodIn wsX12_accrued (wsV RX12 474 RX12 yX12_refuses wsX12_refuses) := goodIn_app (goodIn_of _ (by decide +kernel)) ggX12_accrued_X12_refuses
set_option maxRecDepth 20000 in
theorem ggX12_accrued_X12_refusedLong : GoodIn wsX12_accrued wsX12_refusedLong := goodIn_r _ [33, 34, 35, 36, 6, 37, 38, 39, 123, 124, 125, 126, 127, 128, 129, 130, 131, 132, 133, 134, 135, 136, 137, 138, 139, 140, 141, 142, 143, 144, 145, 146, 147, 148, 149, 150, 151, 152, 153, 154, 155, 156, 157, 158, 159, 160, 161, 162, 163, 164, 165, 166, 167, 168, 169, 170, 171, 172, 173, 174, 175, 176, 177, 178, 179, 180, 181, 182, 183, 184, 185, 186, 187, 188, 189, 190, 191] (by decide +kernel) (by decide +kernel)
set_option maxRecDepth 20000 in
theorem gX12_accrued_X12_refusedLong : GoodIn wsX12_accrued (wsV RX12 430 RX12 yX12_refusedLong wsX12_refusedLong) := goodIn_app (goodIn_of _ (by decide +kernel)) ggX12_accrued_X12_refusedLong
theorem dX12_accrued_0 : decode cX12_accrued 0 = .ok (.aload_n 0, 1) := by decide +kernel
theorem dX12_accrued_1 : decode cX12_accrued 1 = .ok (.iconst 0, 1) := by decide +kernel
theorem dX12_accrued_2 : decode cX12_accrued 2 = .ok (.putfield 107, 3) := by decide +kernel
theorem dX12_accrued_5 : decode cX12_accrued 5 = .ok (.aload_n 0, 1) := by decide +kernel
theorem dX12_accrued_6 : decode cX12_accrued 6 = .ok (.iload_n 1, 1) := by decide +kernel
theorem dX12_accrued_7 : decode cX12_accrued 7 = .ok (.iload_n 2, 1) := by decide +kernel
theorem dX12_accrued_8 : decode cX12_accrued 8 = .ok (.invokevirtual 474, 3) := by decide +kernel
theorem dX12_accrued_11 : decode cX12_accrued 11 = .ok (.istore 4, 2) := by decide +kernel
theorem dX12_accrued_13 : decode cX12_accrued 13 = .ok (.iload 4, 2) := by decide +kernel
theorem dX12_accrued_15 : decode cX12_accrued 15 = .ok (.ifCond .le 13, 3) := by decide +kernel
theorem dX12_accrued_18 : decode cX12_accrued 18 = .ok (.aload_n 0, 1) := by decide +kernel
theorem dX12_accrued_19 : decode cX12_accrued 19 = .ok (.iload 4, 2) := by decide +kernel
theorem dX12_accrued_21 : decode cX12_accrued 21 = .ok (.ldc2_w 482, 3) := by decide +kernel
theorem dX12_accrued_24 : decode cX12_accrued 24 = .ok (.invokevirtual 430, 3) := by decide +kernel
theorem dX12_accrued_27 : decode cX12_accrued 27 = .ok (.lreturn, 1) := by decide +kernel
theorem dX12_accrued_28 : decode cX12_accrued 28 = .ok (.aload_n 0, 1) := by decide +kernel
theorem dX12_accrued_29 : decode cX12_accrued 29 = .ok (.iload_n 1, 1) := by decide +kernel
theorem dX12_accrued_30 : decode cX12_accrued 30 = .ok (.iload_n 2, 1) := by decide +kernel
theorem dX12_accrued_31 : decode cX12_accrued 31 = .ok (.invokevirtual 484, 3) := by decide +kernel
theorem dX12_accrued_34 : decode cX12_accrued 34 = .ok (.aload_n 0, 1) := by decide +kernel
theorem dX12_accrued_35 : decode cX12_accrued 35 = .ok (.iload_n 3, 1) := by decide +kernel
theorem dX12_accrued_36 : decode cX12_accrued 36 = .ok (.invokevirtual 434, 3) := by decide +kernel
theorem dX12_accrued_39 : decode cX12_accrued 39 = .ok (.lreturn, 1) := by decide +kernel
set_option maxRecDepth 20000 in
theorem ggX12_rest_X12_refuses : GoodIn wsX12_rest wsX12_refuses := goodIn_r _ [9, 10, 11, 12, 8, 13, 14, 15, 16, 17, 18, 19, 20, 21, 22, 23, 24, 25, 26, 27, 28, 29, 30, 31, 106, 107, 108, 109, 110, 111, 112, 113, 114, 115, 116, 117, 118, 119, 120, 121, 122, 123, 124, 125, 126, 127, 128, 129, 130, 131, 132, 133, 134, 135, 136, 137, 138, 139, 140, 141, 142, 143, 144, 145, 146, 147, 148, 149, 150, 151, 152, 153, 154, 155, 156, 157, 158, 159, 160, 161, 162, 163, 164, 165, 166, 167, 168, 169, 170, 171, 172, 173, 174] (by decide +kernel) (by decide +kernel)
set_option maxRecDepth 20000 in
theorem gX12_rest_X12_refuses : GoodIn wsX12_rest (wsV RX12 474 RX12 yX12_refuses wsX12_refuses) := goodIn_app (goodIn_of _ (by decide +kernel)) ggX12_rest_X12_refuses
set_option maxRecDepth 20000 in
theorem ggX12_rest_X12_refusedLong : GoodIn wsX12_rest wsX12_refusedLong := goodIn_r _ [35, 36, 37, 38, 8, 39, 40, 41, 106, 107, 108, 109, 110, 111, 112, 113, 114, 115, 116, 117, 118, 119, 120, 121, 122, 123, 124, 125, 126, 127, 128, 129, 130, 131, 132, 133, 134, 135, 136, 137, 138, 139, 140, 141, 142, 143, 144, 145, 146, 147, 148, 149, 150, 151, 152, 153, 154, 155, 156, 157, 158, 159, 160, 161, 162, 163, 164, 165, 166, 167, 168, 169, 170, 171, 172, 173, 174] (by decide +kernel) (by decide +kernel)
set_option maxRecDepth 20000 in
theorem gX12_rest_X12_refusedLong : GoodIn wsX12_rest (wsV RX12 430 RX12 yX12_refusedLong wsX12_refusedLong) := goodIn_app (goodIn_of _ (by decide +kernel)) ggX12_rest_X12_refusedLong
set_option maxRecDepth 20000 in
theorem ggX12_rest_X12_currentOf : GoodIn wsX12_rest wsX12_currentOf := goodIn_r _ [45, 46, 47, 48, 8, 49, 50, 106, 107, 108, 109, 110, 111, 112, 113, 114, 115, 116, 117, 118, 119, 120, 121, 122, 123, 124, 125, 126, 127, 128, 129, 130, 131, 132, 133, 134, 135, 136, 137, 138, 139, 140, 141, 142, 143, 144, 145, 146, 147, 148, 149, 150, 151, 152, 153, 154, 155, 156, 157, 158, 159, 160, 161, 162, 163, 164, 165, 166, 167, 168, 169, 170, 171, 172, 173, 174] (by decide +kernel) (by decide +kernel)
set_option maxRecDepth 20000 in
theorem gX12_rest_X12_currentOf : GoodIn wsX12_rest (wsV RX12 471 RX12 yX12_currentOf wsX12_currentOf) := goodIn_app (goodIn_of _ (by decide +kernel)) ggX12_rest_X12_currentOf
theorem dX12_rest_0 : decode cX12_rest 0 = .ok (.aload_n 0, 1) := by decide +kernel
theorem dX12_rest_1 : decode cX12_rest 1 = .ok (.iconst 0, 1) := by decide +kernel
theorem dX12_rest_2 : decode cX12_rest 2 = .ok (.putfield 107, 3) := by decide +kernel
theorem dX12_rest_5 : decode cX12_rest 5 = .ok (.aload_n 0, 1) := by decide +kernel
theorem dX12_rest_6 : decode cX12_rest 6 = .ok (.iload_n 1, 1) := by decide +kernel
theorem dX12_rest_7 : decode cX12_rest 7 = .ok (.iload_n 2, 1) := by decide +kernel
theorem dX12_rest_8 : decode cX12_rest 8 = .ok (.invokevirtual 474, 3) := by decide +kernel
theorem dX12_rest_11 : decode cX12_rest 11 = .ok (.istore 4, 2) := by decide +kernel
theorem dX12_rest_13 : decode cX12_rest 13 = .ok (.iload 4, 2) := by decide +kernel
theorem dX12_rest_15 : decode cX12_rest 15 = .ok (.ifCond .le 13, 3) := by decide +kernel
theorem dX12_rest_18 : decode cX12_rest 18 = .ok (.aload_n 0, 1) := by decide +kernel
theorem dX12_rest_19 : decode cX12_rest 19 = .ok (.iload 4, 2) := by decide +kernel
theorem dX12_rest_21 : decode cX12_rest 21 = .ok (.ldc2_w 428, 3) := by decide +kernel
theorem dX12_rest_24 : decode cX12_rest 24 = .ok (.invokevirtual 430, 3) := by decide +kernel
theorem dX12_rest_27 : decode cX12_rest 27 = .ok (.lreturn, 1) := by decide +kernel
theorem dX12_rest_28 : decode cX12_rest 28 = .ok (.aload_n 0, 1) := by decide +kernel
theorem dX12_rest_29 : decode cX12_rest 29 = .ok (.iload_n 1, 1) := by decide +kernel
theorem dX12_rest_30 : decode cX12_rest 30 = .ok (.iload_n 2, 1) := by decide +kernel
theorem dX12_rest_31 : decode cX12_rest 31 = .ok (.aload_n 0, 1) := by decide +kernel
theorem dX12_rest_32 : decode cX12_rest 32 = .ok (.iload_n 1, 1) := by decide +kernel
theorem dX12_rest_33 : decode cX12_rest 33 = .ok (.aload_n 0, 1) := by decide +kernel
theorem dX12_rest_34 : decode cX12_rest 34 = .ok (.iload_n 1, 1) := by decide +kernel
theorem dX12_rest_35 : decode cX12_rest 35 = .ok (.iload_n 2, 1) := by decide +kernel
theorem dX12_rest_36 : decode cX12_rest 36 = .ok (.invokevirtual 471, 3) := by decide +kernel
theorem dX12_rest_39 : decode cX12_rest 39 = .ok (.invokevirtual 391, 3) := by decide +kernel
theorem dX12_rest_42 : decode cX12_rest 42 = .ok (.invokevirtual 400, 3) := by decide +kernel
theorem dX12_rest_45 : decode cX12_rest 45 = .ok (.aload_n 0, 1) := by decide +kernel
theorem dX12_rest_46 : decode cX12_rest 46 = .ok (.aload_n 0, 1) := by decide +kernel
theorem dX12_rest_47 : decode cX12_rest 47 = .ok (.getfield 13, 3) := by decide +kernel
theorem dX12_rest_50 : decode cX12_rest 50 = .ok (.iload_n 1, 1) := by decide +kernel
theorem dX12_rest_51 : decode cX12_rest 51 = .ok (.iaload, 1) := by decide +kernel
theorem dX12_rest_52 : decode cX12_rest 52 = .ok (.i2l, 1) := by decide +kernel
theorem dX12_rest_53 : decode cX12_rest 53 = .ok (.ldc2_w 408, 3) := by decide +kernel
theorem dX12_rest_56 : decode cX12_rest 56 = .ok (.invokevirtual 410, 3) := by decide +kernel
theorem dX12_rest_59 : decode cX12_rest 59 = .ok (.aload_n 0, 1) := by decide +kernel
theorem dX12_rest_60 : decode cX12_rest 60 = .ok (.iload_n 3, 1) := by decide +kernel
theorem dX12_rest_61 : decode cX12_rest 61 = .ok (.invokevirtual 434, 3) := by decide +kernel
theorem dX12_rest_64 : decode cX12_rest 64 = .ok (.lreturn, 1) := by decide +kernel
set_option maxRecDepth 20000 in
theorem ggX12_isPoints_X12_in : GoodIn wsX12_isPoints wsX12_in := goodIn_r _ [4] (by decide +kernel) (by decide +kernel)
set_option maxRecDepth 20000 in
theorem gX12_isPoints_X12_in : GoodIn wsX12_isPoints (va_wsS RX12 132 yX12_in wsX12_in) := goodIn_app (goodIn_of _ (by decide +kernel)) ggX12_isPoints_X12_in
theorem dX12_isPoints_0 : decode cX12_isPoints 0 = .ok (.iload_n 0, 1) := by decide +kernel
theorem dX12_isPoints_1 : decode cX12_isPoints 1 = .ok (.sipush (-2000), 3) := by decide +kernel
theorem dX12_isPoints_4 : decode cX12_isPoints 4 = .ok (.sipush 10000, 3) := by decide +kernel
theorem dX12_isPoints_7 : decode cX12_isPoints 7 = .ok (.invokestatic 132, 3) := by decide +kernel
theorem dX12_isPoints_10 : decode cX12_isPoints 10 = .ok (.ireturn, 1) := by decide +kernel
set_option maxRecDepth 20000 in
theorem ggX12_dirty_X12_isPoints : GoodIn wsX12_dirty wsX12_isPoints := goodIn_r _ [6, 7, 8, 5, 9] (by decide +kernel) (by decide +kernel)
set_option maxRecDepth 20000 in
theorem gX12_dirty_X12_isPoints : GoodIn wsX12_dirty (va_wsS RX12 515 yX12_isPoints wsX12_isPoints) := goodIn_app (goodIn_of _ (by decide +kernel)) ggX12_dirty_X12_isPoints
set_option maxRecDepth 20000 in
theorem ggX12_dirty_X12_refusesBy : GoodIn wsX12_dirty wsX12_refusesBy := goodIn_r _ [13, 14, 15, 16, 5, 17, 18, 19, 20, 21, 22, 23, 7, 8, 9, 24, 25, 26, 27, 28, 29, 30, 31, 32, 163, 164, 165, 166, 167, 168, 169, 170, 171, 172, 173, 174, 175, 176, 177, 178, 179, 180, 181, 182, 183, 184, 185, 186, 187, 188, 189, 190, 191, 192, 193, 194, 195, 196, 197, 198, 199, 200, 201, 202, 203, 204, 205, 206, 207, 208, 209, 210, 211, 212, 213, 214, 215, 216, 217, 218, 219, 220, 221, 222, 223, 224, 225, 226, 227, 228, 229, 230, 231] (by decide +kernel) (by decide +kernel)
set_option maxRecDepth 20000 in
theorem gX12_dirty_X12_refusesBy : GoodIn wsX12_dirty (wsV RX12 518 RX12 yX12_refusesBy wsX12_refusesBy) := goodIn_app (goodIn_of _ (by decide +kernel)) ggX12_dirty_X12_refusesBy
set_option maxRecDepth 20000 in
theorem ggX12_dirty_X12_refusedLong : GoodIn wsX12_dirty wsX12_refusedLong := goodIn_r _ [36, 37, 38, 39, 5, 40, 41, 42, 163, 164, 165, 166, 167, 168, 169, 170, 171, 172, 173, 174, 175, 176, 177, 178, 179, 180, 181, 182, 183, 184, 185, 186, 187, 188, 189, 190, 191, 192, 193, 194, 195, 196, 197, 198, 199, 200, 201, 202, 203, 204, 205, 206, 207, 208, 209, 210, 211, 212, 213, 214, 215, 216, 217, 218, 219, 220, 221, 222, 223, 224, 225, 226, 227, 228, 229, 230, 231] (by decide +kernel) (by decide +kernel)
set_option maxRecDepth 20000 in
theorem gX12_dirty_X12_refusedLong : GoodIn wsX12_dirty (wsV RX12 430 RX12 yX12_refusedLong wsX12_refusedLong) := goodIn_app (goodIn_of _ (by decide +kernel)) ggX12_dirty_X12_refusedLong
set_option maxRecDepth 20000 in
theorem ggX12_dirty_X12_dirtyAt : GoodIn wsX12_dirty wsX12_dirtyAt := goodIn_r _ [134, 47, 50, 48, 135, 136, 49, 137, 138, 163, 164, 165, 166, 167, 168, 169, 170, 171, 172, 173, 174, 175, 176, 177, 178, 179, 180, 181, 182, 183, 184, 185, 186, 187, 188, 189, 190, 191, 192, 193, 194, 195, 196, 197, 198, 199, 200, 201, 202, 203, 204, 205, 206, 207, 208, 209, 210, 211, 212, 213, 214, 215, 216, 217, 218, 219, 220, 221, 222, 223, 224, 225, 226, 227, 228, 229, 230, 231] (by decide +kernel) (by decide +kernel)
