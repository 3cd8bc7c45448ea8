set_option maxRecDepth 20000 in
theorem ggX11_accrued_X11_openSettle : GoodIn wsX11_accrued wsX11_openSettle := goodIn_r _ [8, 9, 2, 10, 11, 12, 7, 13, 14, 15, 16, 17, 18, 19, 20, 21, 22, 23, 24, 25, 26, 27, 28, 29, 30, 31, 32, 33, 34, 35, 36, 37, 38, 39, 40, 41, 42, 43, 44, 45, 46, 47, 48, 49, 50, 51, 52, 53, 54, 55, 56, 57, 58, 59, 60, 61, 62, 63, 64, 65, 66, 67, 68, 69, 70, 71, 72, 73, 74, 75, 76, 77, 78, 79, 80, 81, 82, 83, 84, 85, 86, 87, 88, 89, 90, 91, 92, 93, 94, 95, 96, 97, 98, 99, 100, 101, 102, 103, 104, 105, 106, 107, 108, 109, 110, 111, 112, 113, 114, 115, 116, 117, 118, 119, 120, 121, 122, 123, 124, 125, 126, 127, 128, 129, 130, 131, 136, 137, 138, 139, 140, 141, 142, 143, 144, 145, 146, 147, 148, 149, 150, 159, 160, 161, 162, 163, 164, 165, 166, 167, 168, 169, 170, 171, 172, 173, 174, 175, 176, 177, 178, 179, 180, 181, 182, 183, 184, 185, 186, 151, 152, 153, 154, 155, 156, 157, 158, 187, 188] (by decide +kernel) (by decide +kernel)
set_option maxRecDepth 20000 in
theorem gX11_accrued_X11_openSettle : GoodIn wsX11_accrued (wsV RX11 244 RX11 yX11_openSettle wsX11_openSettle) := goodIn_app (goodIn_of _ (by decide +kernel)) ggX11_accrued_X11_openSettle
theorem dX11_accrued_0 : decode cX11_accrued 0 = .ok (.aload_n 0, 1) := by decide +kernel
theorem dX11_accrued_1 : decode cX11_accrued 1 = .ok (.iload_n 1, 1) := by decide +kernel
theorem dX11_accrued_2 : decode cX11_accrued 2 = .ok (.iload_n 2, 1) := by decide +kernel
theorem dX11_accrued_3 : decode cX11_accrued 3 = .ok (.iconst 1, 1) := by decide +kernel
theorem dX11_accrued_4 : decode cX11_accrued 4 = .ok (.invokevirtual 244, 3) := by decide +kernel
theorem dX11_accrued_7 : decode cX11_accrued 7 = .ok (.ifCond .ne 7, 3) := by decide +kernel
theorem dX11_accrued_10 : decode cX11_accrued 10 = .ok (.ldc2_w 256, 3) := by decide +kernel
theorem dX11_accrued_13 : decode cX11_accrued 13 = .ok (.lreturn, 1) := by decide +kernel
theorem dX11_accrued_14 : decode cX11_accrued 14 = .ok (.aload_n 0, 1) := by decide +kernel
theorem dX11_accrued_15 : decode cX11_accrued 15 = .ok (.getfield 19, 3) := by decide +kernel
theorem dX11_accrued_18 : decode cX11_accrued 18 = .ok (.getfield 258, 3) := by decide +kernel
theorem dX11_accrued_21 : decode cX11_accrued 21 = .ok (.iload_n 3, 1) := by decide +kernel
theorem dX11_accrued_22 : decode cX11_accrued 22 = .ok (.invokevirtual 168, 3) := by decide +kernel
theorem dX11_accrued_25 : decode cX11_accrued 25 = .ok (.lreturn, 1) := by decide +kernel
set_option maxRecDepth 20000 in
theorem ggX11_rest_X11_openSettle : GoodIn wsX11_rest wsX11_openSettle := goodIn_r _ [8, 9, 2, 10, 11, 12, 7, 13, 14, 15, 16, 17, 18, 19, 20, 21, 22, 23, 24, 25, 26, 27, 28, 29, 30, 31, 32, 33, 34, 35, 36, 37, 38, 39, 40, 41, 42, 43, 44, 45, 46, 47, 48, 49, 50, 51, 52, 53, 54, 55, 56, 57, 58, 59, 60, 61, 62, 63, 64, 65, 66, 67, 68, 69, 70, 71, 72, 73, 74, 75, 76, 77, 78, 79, 80, 81, 82, 83, 84, 85, 86, 87, 88, 89, 90, 91, 92, 93, 94, 95, 96, 97, 98, 99, 100, 101, 102, 103, 104, 105, 106, 107, 108, 109, 110, 111, 112, 113, 114, 115, 116, 117, 118, 119, 120, 121, 122, 123, 124, 125, 126, 127, 128, 129, 130, 131, 136, 137, 138, 139, 140, 141, 142, 143, 144, 145, 146, 147, 148, 149, 150, 159, 160, 161, 162, 163, 164, 165, 166, 167, 168, 169, 170, 171, 172, 173, 174, 175, 176, 177, 178, 179, 180, 181, 182, 183, 184, 185, 186, 151, 152, 153, 154, 155, 156, 157, 158, 187, 188] (by decide +kernel) (by decide +kernel)
set_option maxRecDepth 20000 in
theorem gX11_rest_X11_openSettle : GoodIn wsX11_rest (wsV RX11 244 RX11 yX11_openSettle wsX11_openSettle) := goodIn_app (goodIn_of _ (by decide +kernel)) ggX11_rest_X11_openSettle
theorem dX11_rest_0 : decode cX11_rest 0 = .ok (.aload_n 0, 1) := by decide +kernel
theorem dX11_rest_1 : decode cX11_rest 1 = .ok (.iload_n 1, 1) := by decide +kernel
theorem dX11_rest_2 : decode cX11_rest 2 = .ok (.iload_n 2, 1) := by decide +kernel
theorem dX11_rest_3 : decode cX11_rest 3 = .ok (.iconst 1, 1) := by decide +kernel
theorem dX11_rest_4 : decode cX11_rest 4 = .ok (.invokevirtual 244, 3) := by decide +kernel
theorem dX11_rest_7 : decode cX11_rest 7 = .ok (.ifCond .ne 7, 3) := by decide +kernel
theorem dX11_rest_10 : decode cX11_rest 10 = .ok (.ldc2_w 261, 3) := by decide +kernel
theorem dX11_rest_13 : decode cX11_rest 13 = .ok (.lreturn, 1) := by decide +kernel
theorem dX11_rest_14 : decode cX11_rest 14 = .ok (.aload_n 0, 1) := by decide +kernel
theorem dX11_rest_15 : decode cX11_rest 15 = .ok (.getfield 19, 3) := by decide +kernel
theorem dX11_rest_18 : decode cX11_rest 18 = .ok (.getfield 263, 3) := by decide +kernel
theorem dX11_rest_21 : decode cX11_rest 21 = .ok (.iload_n 3, 1) := by decide +kernel
theorem dX11_rest_22 : decode cX11_rest 22 = .ok (.invokevirtual 168, 3) := by decide +kernel
theorem dX11_rest_25 : decode cX11_rest 25 = .ok (.lreturn, 1) := by decide +kernel
set_option maxRecDepth 20000 in
theorem ggX11_dirty_X11_arePoints : GoodIn wsX11_dirty wsX11_arePoints := goodIn_r _ [6] (by decide +kernel) (by decide +kernel)
set_option maxRecDepth 20000 in
theorem gX11_dirty_X11_arePoints : GoodIn wsX11_dirty (va_wsS RX11 266 yX11_arePoints wsX11_arePoints) := goodIn_app (goodIn_of _ (by decide +kernel)) ggX11_dirty_X11_arePoints
set_option maxRecDepth 20000 in
theorem ggX11_dirty_X11_openSettle : GoodIn wsX11_dirty wsX11_openSettle := goodIn_r _ [10, 11, 2, 12, 13, 14, 5, 15, 16, 17, 18, 19, 20, 21, 22, 23, 24, 25, 26, 27, 28, 29, 30, 31, 32, 33, 34, 35, 36, 37, 38, 39, 40, 41, 42, 43, 44, 45, 46, 47, 48, 49, 50, 51, 52, 53, 54, 55, 56, 57, 58, 59, 60, 61, 62, 63, 64, 65, 66, 67, 68, 69, 70, 71, 72, 73, 74, 75, 76, 77, 78, 79, 80, 81, 82, 83, 84, 85, 86, 87, 88, 89, 90, 91, 92, 93, 94, 95, 96, 97, 98, 99, 100, 101, 102, 103, 104, 105, 106, 107, 108, 109, 110, 111, 112, 113, 114, 115, 116, 117, 118, 119, 120, 121, 122, 123, 124, 125, 126, 127, 128, 129, 130, 131, 132, 133, 152, 153, 154, 155, 156, 157, 158, 159, 160, 161, 162, 163, 164, 165, 166, 167, 168, 169, 170, 171, 172, 173, 174, 175, 176, 177, 178, 179, 180, 181, 182, 183, 184, 185, 186, 187, 188, 189, 190, 191, 192, 193, 194, 195, 196, 197, 198, 199, 200, 201, 202, 203, 204] (by decide +kernel) (by decide +kernel)
set_option maxRecDepth 20000 in
theorem gX11_dirty_X11_openSettle : GoodIn wsX11_dirty (wsV RX11 244 RX11 yX11_openSettle wsX11_openSettle) := goodIn_app (goodIn_of _ (by decide +kernel)) ggX11_dirty_X11_openSettle
theorem dX11_dirty_0 : decode cX11_dirty 0 = .ok (.aload_n 0, 1) := by decide +kernel
theorem dX11_dirty_1 : decode cX11_dirty 1 = .ok (.iload_n 1, 1) := by decide +kernel
theorem dX11_dirty_2 : decode cX11_dirty 2 = .ok (.iload_n 2, 1) := by decide +kernel
theorem dX11_dirty_3 : decode cX11_dirty 3 = .ok (.iload_n 3, 1) := by decide +kernel
theorem dX11_dirty_4 : decode cX11_dirty 4 = .ok (.invokestatic 266, 3) := by decide +kernel
theorem dX11_dirty_7 : decode cX11_dirty 7 = .ok (.invokevirtual 244, 3) := by decide +kernel
theorem dX11_dirty_10 : decode cX11_dirty 10 = .ok (.ifCond .ne 7, 3) := by decide +kernel
theorem dX11_dirty_13 : decode cX11_dirty 13 = .ok (.ldc2_w 256, 3) := by decide +kernel
theorem dX11_dirty_16 : decode cX11_dirty 16 = .ok (.lreturn, 1) := by decide +kernel
theorem dX11_dirty_17 : decode cX11_dirty 17 = .ok (.aload_n 0, 1) := by decide +kernel
theorem dX11_dirty_18 : decode cX11_dirty 18 = .ok (.getfield 19, 3) := by decide +kernel
theorem dX11_dirty_21 : decode cX11_dirty 21 = .ok (.iload_n 3, 1) := by decide +kernel
theorem dX11_dirty_22 : decode cX11_dirty 22 = .ok (.invokestatic 269, 3) := by decide +kernel
theorem dX11_dirty_25 : decode cX11_dirty 25 = .ok (.invokevirtual 273, 3) := by decide +kernel
theorem dX11_dirty_28 : decode cX11_dirty 28 = .ok (.invokestatic 277, 3) := by decide +kernel
theorem dX11_dirty_31 : decode cX11_dirty 31 = .ok (.lreturn, 1) := by decide +kernel
set_option maxRecDepth 20000 in
theorem ggX11_clean_X11_arePoints : GoodIn wsX11_clean wsX11_arePoints := goodIn_r _ [6] (by decide +kernel) (by decide +kernel)
set_option maxRecDepth 20000 in
theorem gX11_clean_X11_arePoints : GoodIn wsX11_clean (va_wsS RX11 266 yX11_arePoints wsX11_arePoints) := goodIn_app (goodIn_of _ (by decide +kernel)) ggX11_clean_X11_arePoints
set_option maxRecDepth 20000 in
theorem ggX11_clean_X11_openSettle : GoodIn wsX11_clean wsX11_openSettle := goodIn_r _ [10, 11, 2, 12, 13, 14, 5, 15, 16, 17, 18, 19, 20, 21, 22, 23, 24, 25, 26, 27, 28, 29, 30, 31, 32, 33, 34, 35, 36, 37, 38, 39, 40, 41, 42, 43, 44, 45, 46, 47, 48, 49, 50, 51, 52, 53, 54, 55, 56, 57, 58, 59, 60, 61, 62, 63, 64, 65, 66, 67, 68, 69, 70, 71, 72, 73, 74, 75, 76, 77, 78, 79, 80, 81, 82, 83, 84, 85, 86, 87, 88, 89, 90, 91, 92, 93, 94, 95, 96, 97, 98, 99, 100, 101, 102, 103, 104, 105, 106, 107, 108, 109, 110, 111, 112, 113, 114, 115, 116, 117, 118, 119, 120, 121, 122, 123, 124, 125, 126, 127, 128, 129, 130, 131, 132, 133, 156, 157, 158, 159, 160, 161, 162, 163, 164, 165, 166, 167, 168, 169, 170, 171, 172, 173, 174, 175, 176, 177, 178, 179, 180, 181, 182, 183, 184, 185, 186, 187, 188, 189, 190, 191, 192, 193, 194, 195, 196, 197, 198, 199, 200, 201, 202, 203, 204, 205, 206, 207, 208] (by decide +kernel) (by decide +kernel)
set_option maxRecDepth 20000 in
theorem gX11_clean_X11_openSettle : GoodIn wsX11_clean (wsV RX11 244 RX11 yX11_openSettle wsX11_openSettle) := goodIn_app (goodIn_of _ (by decide +kernel)) ggX11_clean_X11_openSettle
theorem dX11_clean_0 : decode cX11_clean 0 = .ok (.aload_n 0, 1) := by decide +kernel
theorem dX11_clean_1 : decode cX11_clean 1 = .ok (.iload_n 1, 1) := by decide +kernel
theorem dX11_clean_2 : decode cX11_clean 2 = .ok (.iload_n 2, 1) := by decide +kernel
theorem dX11_clean_3 : decode cX11_clean 3 = .ok (.iload_n 3, 1) := by decide +kernel
theorem dX11_clean_4 : decode cX11_clean 4 = .ok (.invokestatic 266, 3) := by decide +kernel
theorem dX11_clean_7 : decode cX11_clean 7 = .ok (.invokevirtual 244, 3) := by decide +kernel
theorem dX11_clean_10 : decode cX11_clean 10 = .ok (.ifCond .ne 7, 3) := by decide +kernel
theorem dX11_clean_13 : decode cX11_clean 13 = .ok (.ldc2_w 256, 3) := by decide +kernel
theorem dX11_clean_16 : decode cX11_clean 16 = .ok (.lreturn, 1) := by decide +kernel
theorem dX11_clean_17 : decode cX11_clean 17 = .ok (.aload_n 0, 1) := by decide +kernel
theorem dX11_clean_18 : decode cX11_clean 18 = .ok (.getfield 19, 3) := by decide +kernel
theorem dX11_clean_21 : decode cX11_clean 21 = .ok (.iload_n 3, 1) := by decide +kernel
theorem dX11_clean_22 : decode cX11_clean 22 = .ok (.invokestatic 269, 3) := by decide +kernel
theorem dX11_clean_25 : decode cX11_clean 25 = .ok (.invokevirtual 281, 3) := by decide +kernel
theorem dX11_clean_28 : decode cX11_clean 28 = .ok (.invokestatic 277, 3) := by decide +kernel
theorem dX11_clean_31 : decode cX11_clean 31 = .ok (.lreturn, 1) := by decide +kernel
set_option maxRecDepth 20000 in
theorem ggX11_risk_X11_openSettle : GoodIn wsX11_risk wsX11_openSettle := goodIn_r _ [8, 9, 2, 10, 11, 12, 7, 13, 14, 15, 16, 17, 18, 19, 20, 21, 22, 23, 24, 25, 26, 27, 28, 29, 30, 31, 32, 33, 34, 35, 36, 37, 38, 39, 40, 41, 42, 43, 44, 45, 46, 47, 48, 49, 50, 51, 52, 53, 54, 55, 56, 57, 58, 59, 60, 61, 62, 63, 64, 65, 66, 67, 68, 69, 70, 71, 72, 73, 74, 75, 76, 77, 78, 79, 80, 81, 82, 83, 84, 85, 86, 87, 88, 89, 90, 91, 92, 93, 94, 95, 96, 97, 98, 99, 100, 101, 102, 103, 104, 105, 106, 107, 108, 109, 110, 111, 112, 113, 114, 115, 116, 117, 118, 119, 120, 121, 122, 123, 124, 125, 126, 127, 128, 129, 130, 131, 149, 150, 151, 152, 153, 154, 155, 156, 157, 158, 159, 160, 161, 162, 163, 164, 165, 166, 167, 168, 169, 170, 171, 172, 173, 174, 175, 176, 177, 178, 179, 180, 181, 182, 183, 184, 185, 186, 187, 188, 189, 190, 191, 192, 193, 194, 195, 196, 197, 198, 199, 200, 201] (by decide +kernel) (by decide +kernel)
set_option maxRecDepth 20000 in
theorem gX11_risk_X11_openSettle : GoodIn wsX11_risk (wsV RX11 244 RX11 yX11_openSettle wsX11_openSettle) := goodIn_app (goodIn_of _ (by decide +kernel)) ggX11_risk_X11_openSettle
theorem dX11_risk_0 : decode cX11_risk 0 = .ok (.aload_n 0, 1) := by decide +kernel
theorem dX11_risk_1 : decode cX11_risk 1 = .ok (.iload_n 1, 1) := by decide +kernel
theorem dX11_risk_2 : decode cX11_risk 2 = .ok (.iload_n 2, 1) := by decide +kernel
theorem dX11_risk_3 : decode cX11_risk 3 = .ok (.iload_n 3, 1) := by decide +kernel
theorem dX11_risk_4 : decode cX11_risk 4 = .ok (.sipush (-2000), 3) := by decide +kernel
theorem dX11_risk_7 : decode cX11_risk 7 = .ok (.if_icmp .le 14, 3) := by decide +kernel
theorem dX11_risk_10 : decode cX11_risk 10 = .ok (.iload_n 3, 1) := by decide +kernel
theorem dX11_risk_11 : decode cX11_risk 11 = .ok (.sipush 10000, 3) := by decide +kernel
theorem dX11_risk_14 : decode cX11_risk 14 = .ok (.if_icmp .ge 7, 3) := by decide +kernel
theorem dX11_risk_17 : decode cX11_risk 17 = .ok (.iconst 1, 1) := by decide +kernel
theorem dX11_risk_18 : decode cX11_risk 18 = .ok (.goto 4, 3) := by decide +kernel
theorem dX11_risk_21 : decode cX11_risk 21 = .ok (.iconst 0, 1) := by decide +kernel
theorem dX11_risk_22 : decode cX11_risk 22 = .ok (.invokevirtual 244, 3) := by decide +kernel
theorem dX11_risk_25 : decode cX11_risk 25 = .ok (.ifCond .ne 7, 3) := by decide +kernel
theorem dX11_risk_28 : decode cX11_risk 28 = .ok (.ldc2_w 256, 3) := by decide +kernel
theorem dX11_risk_31 : decode cX11_risk 31 = .ok (.lreturn, 1) := by decide +kernel
theorem dX11_risk_32 : decode cX11_risk 32 = .ok (.aload_n 0, 1) := by decide +kernel
theorem dX11_risk_33 : decode cX11_risk 33 = .ok (.getfield 19, 3) := by decide +kernel
theorem dX11_risk_36 : decode cX11_risk 36 = .ok (.iload_n 3, 1) := by decide +kernel
theorem dX11_risk_37 : decode cX11_risk 37 = .ok (.iconst 1, 1) := by decide +kernel
theorem dX11_risk_38 : decode cX11_risk 38 = .ok (.isub, 1) := by decide +kernel
theorem dX11_risk_39 : decode cX11_risk 39 = .ok (.invokestatic 269, 3) := by decide +kernel
theorem dX11_risk_42 : decode cX11_risk 42 = .ok (.invokevirtual 273, 3) := by decide +kernel
theorem dX11_risk_45 : decode cX11_risk 45 = .ok (.aload_n 0, 1) := by decide +kernel
theorem dX11_risk_46 : decode cX11_risk 46 = .ok (.getfield 19, 3) := by decide +kernel
theorem dX11_risk_49 : decode cX11_risk 49 = .ok (.iload_n 3, 1) := by decide +kernel
theorem dX11_risk_50 : decode cX11_risk 50 = .ok (.iconst 1, 1) := by decide +kernel
theorem dX11_risk_51 : decode cX11_risk 51 = .ok (.iadd, 1) := by decide +kernel
theorem dX11_risk_52 : decode cX11_risk 52 = .ok (.invokestatic 269, 3) := by decide +kernel
theorem dX11_risk_55 : decode cX11_risk 55 = .ok (.invokevirtual 273, 3) := by decide +kernel
theorem dX11_risk_58 : decode cX11_risk 58 = .ok (.dsub, 1) := by decide +kernel
theorem dX11_risk_59 : decode cX11_risk 59 = .ok (.ldc2_w 284, 3) := by decide +kernel
theorem dX11_risk_62 : decode cX11_risk 62 = .ok (.ddiv, 1) := by decide +kernel
theorem dX11_risk_63 : decode cX11_risk 63 = .ok (.invokestatic 277, 3) := by decide +kernel
theorem dX11_risk_66 : decode cX11_risk 66 = .ok (.lreturn, 1) := by decide +kernel
set_option maxRecDepth 20000 in
theorem ggX11_bracket_X11_isPrice : GoodIn wsX11_bracket wsX11_isPrice := goodIn_r _ [10, 11] (by decide +kernel) (by decide +kernel)
set_option maxRecDepth 20000 in
theorem gX11_bracket_X11_isPrice : GoodIn wsX11_bracket (va_wsS RX11 286 yX11_isPrice wsX11_isPrice) := goodIn_app (goodIn_of _ (by decide +kernel)) ggX11_bracket_X11_isPrice
set_option maxRecDepth 20000 in
theorem ggX11_bracket_X11_openSettle : GoodIn wsX11_bracket wsX11_openSettle := goodIn_r _ [15, 4, 3, 16, 17, 18, 9, 19, 20, 21, 22, 23, 24, 25, 26, 27, 28, 29, 30, 31, 32, 33, 34, 35, 36, 37, 38, 39, 40, 41, 42, 43, 44, 45, 46, 47, 48, 49, 50, 51, 52, 53, 54, 55, 56, 57, 58, 59, 60, 61, 62, 63, 64, 65, 66, 67, 68, 69, 70, 71, 72, 73, 74, 75, 76, 77, 78, 79, 80, 81, 82, 83, 84, 85, 86, 87, 88, 89, 90, 91, 92, 93, 94, 95, 96, 97, 98, 99, 100, 101, 102, 103, 104, 105, 106, 107, 108, 109, 110, 111, 112, 113, 114, 115, 116, 117, 118, 119, 120, 121, 122, 123, 124, 125, 126, 127, 128, 129, 130, 131, 132, 133, 134, 135, 136, 137, 175, 176, 177, 178, 179, 180, 181, 182, 183, 184, 185, 186, 187, 188, 189, 196, 197, 198, 199, 200, 201, 202, 203, 204, 205, 206, 207, 208, 209, 210, 211, 212, 213, 214, 215, 216, 217, 218, 219, 220, 221, 222, 223, 224, 225, 226, 227, 228, 229, 230, 231, 232, 233] (by decide +kernel) (by decide +kernel)
set_option maxRecDepth 20000 in
theorem gX11_bracket_X11_openSettle : GoodIn wsX11_bracket (wsV RX11 244 RX11 yX11_openSettle wsX11_openSettle) := goodIn_app (goodIn_of _ (by decide +kernel)) ggX11_bracket_X11_openSettle
theorem dX11_bracket_0 : decode cX11_bracket 0 = .ok (.aload_n 0, 1) := by decide +kernel
theorem dX11_bracket_1 : decode cX11_bracket 1 = .ok (.iload_n 1, 1) := by decide +kernel
theorem dX11_bracket_2 : decode cX11_bracket 2 = .ok (.iload_n 2, 1) := by decide +kernel
theorem dX11_bracket_3 : decode cX11_bracket 3 = .ok (.iload_n 3, 1) := by decide +kernel
theorem dX11_bracket_4 : decode cX11_bracket 4 = .ok (.invokestatic 286, 3) := by decide +kernel
theorem dX11_bracket_7 : decode cX11_bracket 7 = .ok (.ifCond .eq 19, 3) := by decide +kernel
theorem dX11_bracket_10 : decode cX11_bracket 10 = .ok (.iload 4, 2) := by decide +kernel
theorem dX11_bracket_12 : decode cX11_bracket 12 = .ok (.ifCond .lt 14, 3) := by decide +kernel
theorem dX11_bracket_15 : decode cX11_bracket 15 = .ok (.iload 4, 2) := by decide +kernel
theorem dX11_bracket_17 : decode cX11_bracket 17 = .ok (.bipush 60, 2) := by decide +kernel
theorem dX11_bracket_19 : decode cX11_bracket 19 = .ok (.if_icmp .gt 7, 3) := by decide +kernel
theorem dX11_bracket_22 : decode cX11_bracket 22 = .ok (.iconst 1, 1) := by decide +kernel
theorem dX11_bracket_23 : decode cX11_bracket 23 = .ok (.goto 4, 3) := by decide +kernel
theorem dX11_bracket_26 : decode cX11_bracket 26 = .ok (.iconst 0, 1) := by decide +kernel
theorem dX11_bracket_27 : decode cX11_bracket 27 = .ok (.invokevirtual 244, 3) := by decide +kernel
theorem dX11_bracket_30 : decode cX11_bracket 30 = .ok (.ifCond .ne 7, 3) := by decide +kernel
theorem dX11_bracket_33 : decode cX11_bracket 33 = .ok (.ldc2_w 256, 3) := by decide +kernel
theorem dX11_bracket_36 : decode cX11_bracket 36 = .ok (.lreturn, 1) := by decide +kernel
theorem dX11_bracket_37 : decode cX11_bracket 37 = .ok (.aload_n 0, 1) := by decide +kernel
theorem dX11_bracket_38 : decode cX11_bracket 38 = .ok (.getfield 26, 3) := by decide +kernel
theorem dX11_bracket_41 : decode cX11_bracket 41 = .ok (.aload_n 0, 1) := by decide +kernel
theorem dX11_bracket_42 : decode cX11_bracket 42 = .ok (.getfield 19, 3) := by decide +kernel
theorem dX11_bracket_45 : decode cX11_bracket 45 = .ok (.iload_n 3, 1) := by decide +kernel
theorem dX11_bracket_46 : decode cX11_bracket 46 = .ok (.invokevirtual 289, 3) := by decide +kernel
theorem dX11_bracket_49 : decode cX11_bracket 49 = .ok (.ifCond .ne 12, 3) := by decide +kernel
theorem dX11_bracket_52 : decode cX11_bracket 52 = .ok (.aload_n 0, 1) := by decide +kernel
theorem dX11_bracket_53 : decode cX11_bracket 53 = .ok (.iconst 5, 1) := by decide +kernel
theorem dX11_bracket_54 : decode cX11_bracket 54 = .ok (.putfield 74, 3) := by decide +kernel
theorem dX11_bracket_57 : decode cX11_bracket 57 = .ok (.ldc2_w 256, 3) := by decide +kernel
theorem dX11_bracket_60 : decode cX11_bracket 60 = .ok (.lreturn, 1) := by decide +kernel
theorem dX11_bracket_61 : decode cX11_bracket 61 = .ok (.aload_n 0, 1) := by decide +kernel
theorem dX11_bracket_62 : decode cX11_bracket 62 = .ok (.getfield 26, 3) := by decide +kernel
theorem dX11_bracket_65 : decode cX11_bracket 65 = .ok (.iload 4, 2) := by decide +kernel
theorem dX11_bracket_67 : decode cX11_bracket 67 = .ok (.invokevirtual 292, 3) := by decide +kernel
theorem dX11_bracket_70 : decode cX11_bracket 70 = .ok (.iload 5, 2) := by decide +kernel
theorem dX11_bracket_72 : decode cX11_bracket 72 = .ok (.ifCond .eq 13, 3) := by decide +kernel
theorem dX11_bracket_75 : decode cX11_bracket 75 = .ok (.aload_n 0, 1) := by decide +kernel
theorem dX11_bracket_76 : decode cX11_bracket 76 = .ok (.getfield 26, 3) := by decide +kernel
theorem dX11_bracket_79 : decode cX11_bracket 79 = .ok (.getfield 295, 3) := by decide +kernel
theorem dX11_bracket_82 : decode cX11_bracket 82 = .ok (.goto 10, 3) := by decide +kernel
theorem dX11_bracket_85 : decode cX11_bracket 85 = .ok (.aload_n 0, 1) := by decide +kernel
theorem dX11_bracket_86 : decode cX11_bracket 86 = .ok (.getfield 26, 3) := by decide +kernel
theorem dX11_bracket_89 : decode cX11_bracket 89 = .ok (.getfield 299, 3) := by decide +kernel
theorem dX11_bracket_92 : decode cX11_bracket 92 = .ok (.invokestatic 277, 3) := by decide +kernel
theorem dX11_bracket_95 : decode cX11_bracket 95 = .ok (.lreturn, 1) := by decide +kernel
set_option maxRecDepth 20000 in
theorem ggX11_narrows_X11_isPrice : GoodIn wsX11_narrows wsX11_isPrice := goodIn_r _ [9, 10] (by decide +kernel) (by decide +kernel)
set_option maxRecDepth 20000 in
theorem gX11_narrows_X11_isPrice : GoodIn wsX11_narrows (va_wsS RX11 286 yX11_isPrice wsX11_isPrice) := goodIn_app (goodIn_of _ (by decide +kernel)) ggX11_narrows_X11_isPrice
set_option maxRecDepth 20000 in
theorem ggX11_narrows_X11_openSettle : GoodIn wsX11_narrows wsX11_openSettle := goodIn_r _ [14, 15, 2, 16, 17, 18, 8, 19, 20, 21, 22, 23, 24, 25, 26, 27, 28, 29, 30, 31, 32, 33, 34, 35, 36, 37, 38, 39, 40, 41, 42, 43, 44, 45, 46, 47, 48, 49, 50, 51, 52, 53, 54, 55, 56, 57, 58, 59, 60, 61, 62, 63, 64, 65, 66, 67, 68, 69, 70, 71, 72, 73, 74, 75, 76, 77, 78, 79, 80, 81, 82, 83, 84, 85, 86, 87, 88, 89, 90, 91, 92, 93, 94, 95, 96, 97, 98, 99, 100, 101, 102, 103, 104, 105, 106, 107, 108, 109, 110, 111, 112, 113, 114, 115, 116, 117, 118, 119, 120, 121, 122, 123, 124, 125, 126, 127, 128, 129, 130, 131, 132, 133, 134, 135, 136, 137, 169, 170, 171, 172, 173, 174, 175, 176, 177, 178, 179, 180, 181, 182, 183, 190, 191, 192, 193, 194, 195, 196, 197, 198, 199, 200, 201, 202, 203, 204, 205, 206, 207, 208, 209, 210, 211, 212, 213, 214, 215, 216, 217, 218, 219, 220, 221, 222, 223, 224, 225, 226, 227] (by decide +kernel) (by decide +kernel)
set_option maxRecDepth 20000 in
theorem gX11_narrows_X11_openSettle : GoodIn wsX11_narrows (wsV RX11 244 RX11 yX11_openSettle wsX11_openSettle) := goodIn_app (goodIn_of _ (by decide +kernel)) ggX11_narrows_X11_openSettle
set_option maxRecDepth 20000 in
theorem ggX11_narrows_X11_refuse : GoodIn wsX11_narrows wsX11_refuse := goodIn_r _ [163, 15, 169, 170, 171, 172, 173, 174, 175, 176, 177, 178, 179, 180, 181, 182, 183] (by decide +kernel) (by decide +kernel)
set_option maxRecDepth 20000 in
theorem gX11_narrows_X11_refuse : GoodIn wsX11_narrows (wsV RX11 97 RX11 yX11_refuse wsX11_refuse) := goodIn_app (goodIn_of _ (by decide +kernel)) ggX11_narrows_X11_refuse
theorem dX11_narrows_0 : decode cX11_narrows 0 = .ok (.aload_n 0, 1) := by decide +kernel
theorem dX11_narrows_1 : decode cX11_narrows 1 = .ok (.iload_n 1, 1) := by decide +kernel
theorem dX11_narrows_2 : decode cX11_narrows 2 = .ok (.iload_n 2, 1) := by decide +kernel
theorem dX11_narrows_3 : decode cX11_narrows 3 = .ok (.iload_n 3, 1) := by decide +kernel
theorem dX11_narrows_4 : decode cX11_narrows 4 = .ok (.invokestatic 286, 3) := by decide +kernel
theorem dX11_narrows_7 : decode cX11_narrows 7 = .ok (.invokevirtual 244, 3) := by decide +kernel
theorem dX11_narrows_10 : decode cX11_narrows 10 = .ok (.ifCond .ne 5, 3) := by decide +kernel
theorem dX11_narrows_13 : decode cX11_narrows 13 = .ok (.iconst (-1), 1) := by decide +kernel
theorem dX11_narrows_14 : decode cX11_narrows 14 = .ok (.ireturn, 1) := by decide +kernel
theorem dX11_narrows_15 : decode cX11_narrows 15 = .ok (.aload_n 0, 1) := by decide +kernel
theorem dX11_narrows_16 : decode cX11_narrows 16 = .ok (.getfield 26, 3) := by decide +kernel
theorem dX11_narrows_19 : decode cX11_narrows 19 = .ok (.aload_n 0, 1) := by decide +kernel
theorem dX11_narrows_20 : decode cX11_narrows 20 = .ok (.getfield 19, 3) := by decide +kernel
theorem dX11_narrows_23 : decode cX11_narrows 23 = .ok (.iload_n 3, 1) := by decide +kernel
theorem dX11_narrows_24 : decode cX11_narrows 24 = .ok (.invokevirtual 289, 3) := by decide +kernel
theorem dX11_narrows_27 : decode cX11_narrows 27 = .ok (.ifCond .ne 9, 3) := by decide +kernel
theorem dX11_narrows_30 : decode cX11_narrows 30 = .ok (.aload_n 0, 1) := by decide +kernel
theorem dX11_narrows_31 : decode cX11_narrows 31 = .ok (.iconst 5, 1) := by decide +kernel
theorem dX11_narrows_32 : decode cX11_narrows 32 = .ok (.invokevirtual 97, 3) := by decide +kernel
theorem dX11_narrows_35 : decode cX11_narrows 35 = .ok (.ireturn, 1) := by decide +kernel
theorem dX11_narrows_36 : decode cX11_narrows 36 = .ok (.iconst 0, 1) := by decide +kernel
theorem dX11_narrows_37 : decode cX11_narrows 37 = .ok (.istore 4, 2) := by decide +kernel
theorem dX11_narrows_39 : decode cX11_narrows 39 = .ok (.iload 4, 2) := by decide +kernel
theorem dX11_narrows_41 : decode cX11_narrows 41 = .ok (.bipush 60, 2) := by decide +kernel
theorem dX11_narrows_43 : decode cX11_narrows 43 = .ok (.if_icmp .gt 43, 3) := by decide +kernel
theorem dX11_narrows_46 : decode cX11_narrows 46 = .ok (.aload_n 0, 1) := by decide +kernel
theorem dX11_narrows_47 : decode cX11_narrows 47 = .ok (.getfield 26, 3) := by decide +kernel
theorem dX11_narrows_50 : decode cX11_narrows 50 = .ok (.getfield 295, 3) := by decide +kernel
theorem dX11_narrows_53 : decode cX11_narrows 53 = .ok (.aload_n 0, 1) := by decide +kernel
theorem dX11_narrows_54 : decode cX11_narrows 54 = .ok (.getfield 26, 3) := by decide +kernel
theorem dX11_narrows_57 : decode cX11_narrows 57 = .ok (.getfield 299, 3) := by decide +kernel
theorem dX11_narrows_60 : decode cX11_narrows 60 = .ok (.dsub, 1) := by decide +kernel
