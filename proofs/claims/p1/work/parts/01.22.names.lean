set_option maxRecDepth 20000 in
theorem gX12_dirty_X12_dirtyAt : GoodIn wsX12_dirty (wsV RX12 511 RX12 yX12_dirtyAt wsX12_dirtyAt) := goodIn_app (goodIn_of _ (by decide +kernel)) ggX12_dirty_X12_dirtyAt
set_option maxRecDepth 20000 in
theorem ggX12_dirty_X12_goodBits : GoodIn wsX12_dirty wsX12_goodBits := goodIn_r _ [142, 143, 144, 145, 146, 147, 148, 149, 150, 151, 152, 153, 154, 155, 156, 157, 5, 158, 159, 160, 161, 162, 41, 42, 163, 164, 165, 166, 167, 168, 169, 170, 171, 172, 173, 174, 175, 176, 177, 178, 179, 180, 181, 182, 183, 184, 185, 186, 187, 188, 189, 190, 191, 192, 193, 194, 195, 196, 197, 198, 199, 200, 201, 202, 203, 204, 205, 206, 207, 208, 209, 210, 211, 212, 213, 214, 215, 216, 217, 218, 219, 220, 221, 222, 223, 224, 225, 226, 227, 228, 229, 230, 231] (by decide +kernel) (by decide +kernel)
set_option maxRecDepth 20000 in
theorem gX12_dirty_X12_goodBits : GoodIn wsX12_dirty (wsV RX12 524 RX12 yX12_goodBits wsX12_goodBits) := goodIn_app (goodIn_of _ (by decide +kernel)) ggX12_dirty_X12_goodBits
theorem dX12_dirty_0 : decode cX12_dirty 0 = .ok (.aload_n 0, 1) := by decide +kernel
theorem dX12_dirty_1 : decode cX12_dirty 1 = .ok (.iconst 0, 1) := by decide +kernel
theorem dX12_dirty_2 : decode cX12_dirty 2 = .ok (.putfield 107, 3) := by decide +kernel
theorem dX12_dirty_5 : decode cX12_dirty 5 = .ok (.aload_n 0, 1) := by decide +kernel
theorem dX12_dirty_6 : decode cX12_dirty 6 = .ok (.iload_n 1, 1) := by decide +kernel
theorem dX12_dirty_7 : decode cX12_dirty 7 = .ok (.iload_n 2, 1) := by decide +kernel
theorem dX12_dirty_8 : decode cX12_dirty 8 = .ok (.iload_n 3, 1) := by decide +kernel
theorem dX12_dirty_9 : decode cX12_dirty 9 = .ok (.invokestatic 515, 3) := by decide +kernel
theorem dX12_dirty_12 : decode cX12_dirty 12 = .ok (.invokevirtual 518, 3) := by decide +kernel
theorem dX12_dirty_15 : decode cX12_dirty 15 = .ok (.istore 4, 2) := by decide +kernel
theorem dX12_dirty_17 : decode cX12_dirty 17 = .ok (.iload 4, 2) := by decide +kernel
theorem dX12_dirty_19 : decode cX12_dirty 19 = .ok (.ifCond .le 13, 3) := by decide +kernel
theorem dX12_dirty_22 : decode cX12_dirty 22 = .ok (.aload_n 0, 1) := by decide +kernel
theorem dX12_dirty_23 : decode cX12_dirty 23 = .ok (.iload 4, 2) := by decide +kernel
theorem dX12_dirty_25 : decode cX12_dirty 25 = .ok (.ldc2_w 482, 3) := by decide +kernel
theorem dX12_dirty_28 : decode cX12_dirty 28 = .ok (.invokevirtual 430, 3) := by decide +kernel
theorem dX12_dirty_31 : decode cX12_dirty 31 = .ok (.lreturn, 1) := by decide +kernel
theorem dX12_dirty_32 : decode cX12_dirty 32 = .ok (.aload_n 0, 1) := by decide +kernel
theorem dX12_dirty_33 : decode cX12_dirty 33 = .ok (.iload_n 1, 1) := by decide +kernel
theorem dX12_dirty_34 : decode cX12_dirty 34 = .ok (.iload_n 2, 1) := by decide +kernel
theorem dX12_dirty_35 : decode cX12_dirty 35 = .ok (.invokevirtual 521, 3) := by decide +kernel
theorem dX12_dirty_38 : decode cX12_dirty 38 = .ok (.aload_n 0, 1) := by decide +kernel
theorem dX12_dirty_39 : decode cX12_dirty 39 = .ok (.aload_n 0, 1) := by decide +kernel
theorem dX12_dirty_40 : decode cX12_dirty 40 = .ok (.iload_n 3, 1) := by decide +kernel
theorem dX12_dirty_41 : decode cX12_dirty 41 = .ok (.invokestatic 507, 3) := by decide +kernel
theorem dX12_dirty_44 : decode cX12_dirty 44 = .ok (.invokevirtual 511, 3) := by decide +kernel
theorem dX12_dirty_47 : decode cX12_dirty 47 = .ok (.invokevirtual 524, 3) := by decide +kernel
theorem dX12_dirty_50 : decode cX12_dirty 50 = .ok (.lreturn, 1) := by decide +kernel
set_option maxRecDepth 20000 in
theorem ggX12_clean_X12_isPoints : GoodIn wsX12_clean wsX12_isPoints := goodIn_r _ [6, 7, 8, 5, 9] (by decide +kernel) (by decide +kernel)
set_option maxRecDepth 20000 in
theorem gX12_clean_X12_isPoints : GoodIn wsX12_clean (va_wsS RX12 515 yX12_isPoints wsX12_isPoints) := goodIn_app (goodIn_of _ (by decide +kernel)) ggX12_clean_X12_isPoints
set_option maxRecDepth 20000 in
theorem ggX12_clean_X12_refusesBy : GoodIn wsX12_clean wsX12_refusesBy := goodIn_r _ [13, 14, 15, 16, 5, 17, 18, 19, 20, 21, 22, 23, 7, 8, 9, 24, 25, 26, 27, 28, 29, 30, 31, 32, 167, 168, 169, 170, 171, 172, 173, 174, 175, 176, 177, 178, 179, 180, 181, 182, 183, 184, 185, 186, 187, 188, 189, 190, 191, 192, 193, 194, 195, 196, 197, 198, 199, 200, 201, 202, 203, 204, 205, 206, 207, 208, 209, 210, 211, 212, 213, 214, 215, 216, 217, 218, 219, 220, 221, 222, 223, 224, 225, 226, 227, 228, 229, 230, 231, 232, 233, 234, 235] (by decide +kernel) (by decide +kernel)
set_option maxRecDepth 20000 in
theorem gX12_clean_X12_refusesBy : GoodIn wsX12_clean (wsV RX12 518 RX12 yX12_refusesBy wsX12_refusesBy) := goodIn_app (goodIn_of _ (by decide +kernel)) ggX12_clean_X12_refusesBy
set_option maxRecDepth 20000 in
theorem ggX12_clean_X12_refusedLong : GoodIn wsX12_clean wsX12_refusedLong := goodIn_r _ [36, 37, 38, 39, 5, 40, 41, 42, 167, 168, 169, 170, 171, 172, 173, 174, 175, 176, 177, 178, 179, 180, 181, 182, 183, 184, 185, 186, 187, 188, 189, 190, 191, 192, 193, 194, 195, 196, 197, 198, 199, 200, 201, 202, 203, 204, 205, 206, 207, 208, 209, 210, 211, 212, 213, 214, 215, 216, 217, 218, 219, 220, 221, 222, 223, 224, 225, 226, 227, 228, 229, 230, 231, 232, 233, 234, 235] (by decide +kernel) (by decide +kernel)
set_option maxRecDepth 20000 in
theorem gX12_clean_X12_refusedLong : GoodIn wsX12_clean (wsV RX12 430 RX12 yX12_refusedLong wsX12_refusedLong) := goodIn_app (goodIn_of _ (by decide +kernel)) ggX12_clean_X12_refusedLong
set_option maxRecDepth 20000 in
theorem ggX12_clean_X12_cleanAt : GoodIn wsX12_clean wsX12_cleanAt := goodIn_r _ [130, 51, 131, 132, 5, 133, 134, 135, 136, 137, 138, 47, 50, 48, 139, 140, 49, 141, 142, 167, 168, 169, 170, 171, 172, 173, 174, 175, 176, 177, 178, 179, 180, 181, 182, 183, 184, 185, 186, 187, 188, 189, 190, 191, 192, 193, 194, 195, 196, 197, 198, 199, 200, 201, 202, 203, 204, 205, 206, 207, 208, 209, 210, 211, 212, 213, 214, 215, 216, 217, 218, 219, 220, 221, 222, 223, 224, 225, 226, 227, 228, 229, 230, 231, 232, 233, 234, 235] (by decide +kernel) (by decide +kernel)
set_option maxRecDepth 20000 in
theorem gX12_clean_X12_cleanAt : GoodIn wsX12_clean (wsV RX12 527 RX12 yX12_cleanAt wsX12_cleanAt) := goodIn_app (goodIn_of _ (by decide +kernel)) ggX12_clean_X12_cleanAt
set_option maxRecDepth 20000 in
theorem ggX12_clean_X12_goodBits : GoodIn wsX12_clean wsX12_goodBits := goodIn_r _ [146, 147, 148, 149, 150, 151, 152, 153, 154, 155, 156, 157, 158, 159, 160, 161, 5, 162, 163, 164, 165, 166, 41, 42, 167, 168, 169, 170, 171, 172, 173, 174, 175, 176, 177, 178, 179, 180, 181, 182, 183, 184, 185, 186, 187, 188, 189, 190, 191, 192, 193, 194, 195, 196, 197, 198, 199, 200, 201, 202, 203, 204, 205, 206, 207, 208, 209, 210, 211, 212, 213, 214, 215, 216, 217, 218, 219, 220, 221, 222, 223, 224, 225, 226, 227, 228, 229, 230, 231, 232, 233, 234, 235] (by decide +kernel) (by decide +kernel)
set_option maxRecDepth 20000 in
theorem gX12_clean_X12_goodBits : GoodIn wsX12_clean (wsV RX12 524 RX12 yX12_goodBits wsX12_goodBits) := goodIn_app (goodIn_of _ (by decide +kernel)) ggX12_clean_X12_goodBits
theorem dX12_clean_0 : decode cX12_clean 0 = .ok (.aload_n 0, 1) := by decide +kernel
theorem dX12_clean_1 : decode cX12_clean 1 = .ok (.iconst 0, 1) := by decide +kernel
theorem dX12_clean_2 : decode cX12_clean 2 = .ok (.putfield 107, 3) := by decide +kernel
theorem dX12_clean_5 : decode cX12_clean 5 = .ok (.aload_n 0, 1) := by decide +kernel
theorem dX12_clean_6 : decode cX12_clean 6 = .ok (.iload_n 1, 1) := by decide +kernel
theorem dX12_clean_7 : decode cX12_clean 7 = .ok (.iload_n 2, 1) := by decide +kernel
theorem dX12_clean_8 : decode cX12_clean 8 = .ok (.iload_n 3, 1) := by decide +kernel
theorem dX12_clean_9 : decode cX12_clean 9 = .ok (.invokestatic 515, 3) := by decide +kernel
theorem dX12_clean_12 : decode cX12_clean 12 = .ok (.invokevirtual 518, 3) := by decide +kernel
theorem dX12_clean_15 : decode cX12_clean 15 = .ok (.istore 4, 2) := by decide +kernel
theorem dX12_clean_17 : decode cX12_clean 17 = .ok (.iload 4, 2) := by decide +kernel
theorem dX12_clean_19 : decode cX12_clean 19 = .ok (.ifCond .le 13, 3) := by decide +kernel
theorem dX12_clean_22 : decode cX12_clean 22 = .ok (.aload_n 0, 1) := by decide +kernel
theorem dX12_clean_23 : decode cX12_clean 23 = .ok (.iload 4, 2) := by decide +kernel
theorem dX12_clean_25 : decode cX12_clean 25 = .ok (.ldc2_w 482, 3) := by decide +kernel
theorem dX12_clean_28 : decode cX12_clean 28 = .ok (.invokevirtual 430, 3) := by decide +kernel
theorem dX12_clean_31 : decode cX12_clean 31 = .ok (.lreturn, 1) := by decide +kernel
theorem dX12_clean_32 : decode cX12_clean 32 = .ok (.aload_n 0, 1) := by decide +kernel
theorem dX12_clean_33 : decode cX12_clean 33 = .ok (.iload_n 1, 1) := by decide +kernel
theorem dX12_clean_34 : decode cX12_clean 34 = .ok (.iload_n 2, 1) := by decide +kernel
theorem dX12_clean_35 : decode cX12_clean 35 = .ok (.invokevirtual 521, 3) := by decide +kernel
theorem dX12_clean_38 : decode cX12_clean 38 = .ok (.aload_n 0, 1) := by decide +kernel
theorem dX12_clean_39 : decode cX12_clean 39 = .ok (.aload_n 0, 1) := by decide +kernel
theorem dX12_clean_40 : decode cX12_clean 40 = .ok (.iload_n 3, 1) := by decide +kernel
theorem dX12_clean_41 : decode cX12_clean 41 = .ok (.invokevirtual 527, 3) := by decide +kernel
theorem dX12_clean_44 : decode cX12_clean 44 = .ok (.invokevirtual 524, 3) := by decide +kernel
theorem dX12_clean_47 : decode cX12_clean 47 = .ok (.lreturn, 1) := by decide +kernel
set_option maxRecDepth 20000 in
theorem ggX12_risk_X12_in : GoodIn wsX12_risk wsX12_in := goodIn_r _ [7] (by decide +kernel) (by decide +kernel)
set_option maxRecDepth 20000 in
theorem gX12_risk_X12_in : GoodIn wsX12_risk (va_wsS RX12 132 yX12_in wsX12_in) := goodIn_app (goodIn_of _ (by decide +kernel)) ggX12_risk_X12_in
set_option maxRecDepth 20000 in
theorem ggX12_risk_X12_refusesBy : GoodIn wsX12_risk wsX12_refusesBy := goodIn_r _ [11, 12, 13, 14, 6, 15, 16, 17, 18, 19, 20, 21, 4, 5, 7, 22, 23, 24, 25, 26, 27, 28, 29, 30, 161, 162, 163, 164, 165, 166, 167, 168, 169, 170, 171, 172, 173, 174, 175, 176, 177, 178, 179, 180, 181, 182, 183, 184, 185, 186, 187, 188, 189, 190, 191, 192, 193, 194, 195, 196, 197, 198, 199, 200, 201, 202, 203, 204, 205, 206, 207, 208, 209, 210, 211, 212, 213, 214, 215, 216, 217, 218, 219, 220, 221, 222, 223, 224, 225, 226, 227, 228, 229] (by decide +kernel) (by decide +kernel)
set_option maxRecDepth 20000 in
theorem gX12_risk_X12_refusesBy : GoodIn wsX12_risk (wsV RX12 518 RX12 yX12_refusesBy wsX12_refusesBy) := goodIn_app (goodIn_of _ (by decide +kernel)) ggX12_risk_X12_refusesBy
set_option maxRecDepth 20000 in
theorem ggX12_risk_X12_refusedLong : GoodIn wsX12_risk wsX12_refusedLong := goodIn_r _ [34, 35, 36, 37, 6, 38, 39, 40, 161, 162, 163, 164, 165, 166, 167, 168, 169, 170, 171, 172, 173, 174, 175, 176, 177, 178, 179, 180, 181, 182, 183, 184, 185, 186, 187, 188, 189, 190, 191, 192, 193, 194, 195, 196, 197, 198, 199, 200, 201, 202, 203, 204, 205, 206, 207, 208, 209, 210, 211, 212, 213, 214, 215, 216, 217, 218, 219, 220, 221, 222, 223, 224, 225, 226, 227, 228, 229] (by decide +kernel) (by decide +kernel)
set_option maxRecDepth 20000 in
theorem gX12_risk_X12_refusedLong : GoodIn wsX12_risk (wsV RX12 430 RX12 yX12_refusedLong wsX12_refusedLong) := goodIn_app (goodIn_of _ (by decide +kernel)) ggX12_risk_X12_refusedLong
set_option maxRecDepth 20000 in
theorem ggX12_risk_X12_dirtyAt : GoodIn wsX12_risk wsX12_dirtyAt := goodIn_r _ [132, 45, 48, 46, 133, 134, 47, 135, 136, 161, 162, 163, 164, 165, 166, 167, 168, 169, 170, 171, 172, 173, 174, 175, 176, 177, 178, 179, 180, 181, 182, 183, 184, 185, 186, 187, 188, 189, 190, 191, 192, 193, 194, 195, 196, 197, 198, 199, 200, 201, 202, 203, 204, 205, 206, 207, 208, 209, 210, 211, 212, 213, 214, 215, 216, 217, 218, 219, 220, 221, 222, 223, 224, 225, 226, 227, 228, 229] (by decide +kernel) (by decide +kernel)
set_option maxRecDepth 20000 in
theorem gX12_risk_X12_dirtyAt : GoodIn wsX12_risk (wsV RX12 511 RX12 yX12_dirtyAt wsX12_dirtyAt) := goodIn_app (goodIn_of _ (by decide +kernel)) ggX12_risk_X12_dirtyAt
set_option maxRecDepth 20000 in
theorem ggX12_risk_X12_goodBits : GoodIn wsX12_risk wsX12_goodBits := goodIn_r _ [140, 141, 142, 143, 144, 145, 146, 147, 148, 149, 150, 151, 152, 153, 154, 155, 6, 156, 157, 158, 159, 160, 39, 40, 161, 162, 163, 164, 165, 166, 167, 168, 169, 170, 171, 172, 173, 174, 175, 176, 177, 178, 179, 180, 181, 182, 183, 184, 185, 186, 187, 188, 189, 190, 191, 192, 193, 194, 195, 196, 197, 198, 199, 200, 201, 202, 203, 204, 205, 206, 207, 208, 209, 210, 211, 212, 213, 214, 215, 216, 217, 218, 219, 220, 221, 222, 223, 224, 225, 226, 227, 228, 229] (by decide +kernel) (by decide +kernel)
set_option maxRecDepth 20000 in
theorem gX12_risk_X12_goodBits : GoodIn wsX12_risk (wsV RX12 524 RX12 yX12_goodBits wsX12_goodBits) := goodIn_app (goodIn_of _ (by decide +kernel)) ggX12_risk_X12_goodBits
theorem dX12_risk_0 : decode cX12_risk 0 = .ok (.aload_n 0, 1) := by decide +kernel
theorem dX12_risk_1 : decode cX12_risk 1 = .ok (.iconst 0, 1) := by decide +kernel
theorem dX12_risk_2 : decode cX12_risk 2 = .ok (.putfield 107, 3) := by decide +kernel
theorem dX12_risk_5 : decode cX12_risk 5 = .ok (.aload_n 0, 1) := by decide +kernel
theorem dX12_risk_6 : decode cX12_risk 6 = .ok (.iload_n 1, 1) := by decide +kernel
theorem dX12_risk_7 : decode cX12_risk 7 = .ok (.iload_n 2, 1) := by decide +kernel
theorem dX12_risk_8 : decode cX12_risk 8 = .ok (.iload_n 3, 1) := by decide +kernel
theorem dX12_risk_9 : decode cX12_risk 9 = .ok (.sipush (-1999), 3) := by decide +kernel
theorem dX12_risk_12 : decode cX12_risk 12 = .ok (.sipush 9999, 3) := by decide +kernel
theorem dX12_risk_15 : decode cX12_risk 15 = .ok (.invokestatic 132, 3) := by decide +kernel
theorem dX12_risk_18 : decode cX12_risk 18 = .ok (.invokevirtual 518, 3) := by decide +kernel
theorem dX12_risk_21 : decode cX12_risk 21 = .ok (.istore 4, 2) := by decide +kernel
theorem dX12_risk_23 : decode cX12_risk 23 = .ok (.iload 4, 2) := by decide +kernel
theorem dX12_risk_25 : decode cX12_risk 25 = .ok (.ifCond .le 13, 3) := by decide +kernel
theorem dX12_risk_28 : decode cX12_risk 28 = .ok (.aload_n 0, 1) := by decide +kernel
theorem dX12_risk_29 : decode cX12_risk 29 = .ok (.iload 4, 2) := by decide +kernel
theorem dX12_risk_31 : decode cX12_risk 31 = .ok (.ldc2_w 482, 3) := by decide +kernel
theorem dX12_risk_34 : decode cX12_risk 34 = .ok (.invokevirtual 430, 3) := by decide +kernel
theorem dX12_risk_37 : decode cX12_risk 37 = .ok (.lreturn, 1) := by decide +kernel
theorem dX12_risk_38 : decode cX12_risk 38 = .ok (.aload_n 0, 1) := by decide +kernel
theorem dX12_risk_39 : decode cX12_risk 39 = .ok (.iload_n 1, 1) := by decide +kernel
theorem dX12_risk_40 : decode cX12_risk 40 = .ok (.iload_n 2, 1) := by decide +kernel
theorem dX12_risk_41 : decode cX12_risk 41 = .ok (.invokevirtual 521, 3) := by decide +kernel
theorem dX12_risk_44 : decode cX12_risk 44 = .ok (.aload_n 0, 1) := by decide +kernel
theorem dX12_risk_45 : decode cX12_risk 45 = .ok (.aload_n 0, 1) := by decide +kernel
theorem dX12_risk_46 : decode cX12_risk 46 = .ok (.iload_n 3, 1) := by decide +kernel
theorem dX12_risk_47 : decode cX12_risk 47 = .ok (.iconst 1, 1) := by decide +kernel
theorem dX12_risk_48 : decode cX12_risk 48 = .ok (.isub, 1) := by decide +kernel
theorem dX12_risk_49 : decode cX12_risk 49 = .ok (.invokestatic 507, 3) := by decide +kernel
theorem dX12_risk_52 : decode cX12_risk 52 = .ok (.invokevirtual 511, 3) := by decide +kernel
theorem dX12_risk_55 : decode cX12_risk 55 = .ok (.aload_n 0, 1) := by decide +kernel
theorem dX12_risk_56 : decode cX12_risk 56 = .ok (.iload_n 3, 1) := by decide +kernel
theorem dX12_risk_57 : decode cX12_risk 57 = .ok (.iconst 1, 1) := by decide +kernel
theorem dX12_risk_58 : decode cX12_risk 58 = .ok (.iadd, 1) := by decide +kernel
theorem dX12_risk_59 : decode cX12_risk 59 = .ok (.invokestatic 507, 3) := by decide +kernel
theorem dX12_risk_62 : decode cX12_risk 62 = .ok (.invokevirtual 511, 3) := by decide +kernel
theorem dX12_risk_65 : decode cX12_risk 65 = .ok (.dsub, 1) := by decide +kernel
theorem dX12_risk_66 : decode cX12_risk 66 = .ok (.ldc2_w 530, 3) := by decide +kernel
theorem dX12_risk_69 : decode cX12_risk 69 = .ok (.ddiv, 1) := by decide +kernel
theorem dX12_risk_70 : decode cX12_risk 70 = .ok (.invokevirtual 524, 3) := by decide +kernel
theorem dX12_risk_73 : decode cX12_risk 73 = .ok (.lreturn, 1) := by decide +kernel
set_option maxRecDepth 20000 in
theorem ggX12_bracket_X12_in : GoodIn wsX12_bracket wsX12_in := goodIn_r _ [9] (by decide +kernel) (by decide +kernel)
set_option maxRecDepth 20000 in
theorem gX12_bracket_X12_in : GoodIn wsX12_bracket (va_wsS RX12 132 yX12_in wsX12_in) := goodIn_app (goodIn_of _ (by decide +kernel)) ggX12_bracket_X12_in
set_option maxRecDepth 20000 in
theorem ggX12_bracket_X12_refusesBy : GoodIn wsX12_bracket wsX12_refusesBy := goodIn_r _ [13, 14, 15, 16, 8, 17, 18, 19, 20, 21, 22, 23, 6, 7, 9, 24, 25, 26, 27, 28, 29, 30, 31, 32, 176, 177, 178, 179, 180, 181, 182, 183, 184, 185, 186, 187, 188, 189, 190, 191, 192, 193, 194, 195, 196, 197, 198, 199, 200, 201, 202, 203, 204, 205, 206, 207, 208, 209, 210, 211, 212, 213, 214, 215, 216, 217, 218, 219, 220, 221, 222, 223, 224, 225, 226, 227, 228, 229, 230, 231, 232, 233, 234, 235, 236, 237, 238, 239, 240, 241, 242, 243, 244] (by decide +kernel) (by decide +kernel)
set_option maxRecDepth 20000 in
theorem gX12_bracket_X12_refusesBy : GoodIn wsX12_bracket (wsV RX12 518 RX12 yX12_refusesBy wsX12_refusesBy) := goodIn_app (goodIn_of _ (by decide +kernel)) ggX12_bracket_X12_refusesBy
set_option maxRecDepth 20000 in
theorem ggX12_bracket_X12_refusedLong : GoodIn wsX12_bracket wsX12_refusedLong := goodIn_r _ [36, 37, 38, 39, 8, 40, 41, 42, 176, 177, 178, 179, 180, 181, 182, 183, 184, 185, 186, 187, 188, 189, 190, 191, 192, 193, 194, 195, 196, 197, 198, 199, 200, 201, 202, 203, 204, 205, 206, 207, 208, 209, 210, 211, 212, 213, 214, 215, 216, 217, 218, 219, 220, 221, 222, 223, 224, 225, 226, 227, 228, 229, 230, 231, 232, 233, 234, 235, 236, 237, 238, 239, 240, 241, 242, 243, 244] (by decide +kernel) (by decide +kernel)
set_option maxRecDepth 20000 in
theorem gX12_bracket_X12_refusedLong : GoodIn wsX12_bracket (wsV RX12 430 RX12 yX12_refusedLong wsX12_refusedLong) := goodIn_app (goodIn_of _ (by decide +kernel)) ggX12_bracket_X12_refusedLong
set_option maxRecDepth 20000 in
theorem ggX12_bracket_X12_brackets : GoodIn wsX12_bracket wsX12_brackets := goodIn_r _ [130, 131, 51, 132, 133, 5, 4, 134, 135, 136, 137, 138, 8, 139, 47, 50, 48, 140, 141, 49, 142, 176, 177, 178, 179, 180, 181, 182, 183, 184, 185, 186, 187, 188, 189, 190, 191, 192, 193, 194, 195, 196, 197, 198, 199, 200, 201, 202, 203, 204, 205, 206, 207, 208, 209, 210, 211, 212, 213, 214, 215, 216, 217, 218, 219, 220, 221, 222, 223, 224, 225, 226, 227, 228, 229, 230, 231, 232, 233, 234, 235, 236, 237, 238, 239, 240, 241, 242, 243, 244] (by decide +kernel) (by decide +kernel)
set_option maxRecDepth 20000 in
theorem gX12_bracket_X12_brackets : GoodIn wsX12_bracket (wsV RX12 552 RX12 yX12_brackets wsX12_brackets) := goodIn_app (goodIn_of _ (by decide +kernel)) ggX12_bracket_X12_brackets
set_option maxRecDepth 20000 in
theorem ggX12_bracket_X12_goodBits : GoodIn wsX12_bracket wsX12_goodBits := goodIn_r _ [155, 156, 157, 158, 159, 160, 161, 162, 163, 164, 165, 166, 167, 168, 169, 170, 8, 171, 172, 173, 174, 175, 41, 42, 176, 177, 178, 179, 180, 181, 182, 183, 184, 185, 186, 187, 188, 189, 190, 191, 192, 193, 194, 195, 196, 197, 198, 199, 200, 201, 202, 203, 204, 205, 206, 207, 208, 209, 210, 211, 212, 213, 214, 215, 216, 217, 218, 219, 220, 221, 222, 223, 224, 225, 226, 227, 228, 229, 230, 231, 232, 233, 234, 235, 236, 237, 238, 239, 240, 241, 242, 243, 244] (by decide +kernel) (by decide +kernel)
set_option maxRecDepth 20000 in
theorem gX12_bracket_X12_goodBits : GoodIn wsX12_bracket (wsV RX12 524 RX12 yX12_goodBits wsX12_goodBits) := goodIn_app (goodIn_of _ (by decide +kernel)) ggX12_bracket_X12_goodBits
theorem dX12_bracket_0 : decode cX12_bracket 0 = .ok (.aload_n 0, 1) := by decide +kernel
theorem dX12_bracket_1 : decode cX12_bracket 1 = .ok (.iconst 0, 1) := by decide +kernel
theorem dX12_bracket_2 : decode cX12_bracket 2 = .ok (.putfield 107, 3) := by decide +kernel
theorem dX12_bracket_5 : decode cX12_bracket 5 = .ok (.aload_n 0, 1) := by decide +kernel
theorem dX12_bracket_6 : decode cX12_bracket 6 = .ok (.iload_n 1, 1) := by decide +kernel
theorem dX12_bracket_7 : decode cX12_bracket 7 = .ok (.iload_n 2, 1) := by decide +kernel
theorem dX12_bracket_8 : decode cX12_bracket 8 = .ok (.iload_n 3, 1) := by decide +kernel
theorem dX12_bracket_9 : decode cX12_bracket 9 = .ok (.iconst 1, 1) := by decide +kernel
theorem dX12_bracket_10 : decode cX12_bracket 10 = .ok (.ldc_w 348, 3) := by decide +kernel
theorem dX12_bracket_13 : decode cX12_bracket 13 = .ok (.invokestatic 132, 3) := by decide +kernel
theorem dX12_bracket_16 : decode cX12_bracket 16 = .ok (.ifCond .eq 18, 3) := by decide +kernel
theorem dX12_bracket_19 : decode cX12_bracket 19 = .ok (.iload 4, 2) := by decide +kernel
theorem dX12_bracket_21 : decode cX12_bracket 21 = .ok (.iconst 0, 1) := by decide +kernel
theorem dX12_bracket_22 : decode cX12_bracket 22 = .ok (.bipush 60, 2) := by decide +kernel
theorem dX12_bracket_24 : decode cX12_bracket 24 = .ok (.invokestatic 132, 3) := by decide +kernel
theorem dX12_bracket_27 : decode cX12_bracket 27 = .ok (.ifCond .eq 7, 3) := by decide +kernel
theorem dX12_bracket_30 : decode cX12_bracket 30 = .ok (.iconst 1, 1) := by decide +kernel
theorem dX12_bracket_31 : decode cX12_bracket 31 = .ok (.goto 4, 3) := by decide +kernel
theorem dX12_bracket_34 : decode cX12_bracket 34 = .ok (.iconst 0, 1) := by decide +kernel
theorem dX12_bracket_35 : decode cX12_bracket 35 = .ok (.invokevirtual 518, 3) := by decide +kernel
theorem dX12_bracket_38 : decode cX12_bracket 38 = .ok (.istore 6, 2) := by decide +kernel
theorem dX12_bracket_40 : decode cX12_bracket 40 = .ok (.iload 6, 2) := by decide +kernel
theorem dX12_bracket_42 : decode cX12_bracket 42 = .ok (.ifCond .le 13, 3) := by decide +kernel
theorem dX12_bracket_45 : decode cX12_bracket 45 = .ok (.aload_n 0, 1) := by decide +kernel
theorem dX12_bracket_46 : decode cX12_bracket 46 = .ok (.iload 6, 2) := by decide +kernel
theorem dX12_bracket_48 : decode cX12_bracket 48 = .ok (.ldc2_w 482, 3) := by decide +kernel
theorem dX12_bracket_51 : decode cX12_bracket 51 = .ok (.invokevirtual 430, 3) := by decide +kernel
theorem dX12_bracket_54 : decode cX12_bracket 54 = .ok (.lreturn, 1) := by decide +kernel
theorem dX12_bracket_55 : decode cX12_bracket 55 = .ok (.aload_n 0, 1) := by decide +kernel
theorem dX12_bracket_56 : decode cX12_bracket 56 = .ok (.iload_n 1, 1) := by decide +kernel
theorem dX12_bracket_57 : decode cX12_bracket 57 = .ok (.iload_n 2, 1) := by decide +kernel
theorem dX12_bracket_58 : decode cX12_bracket 58 = .ok (.invokevirtual 521, 3) := by decide +kernel
theorem dX12_bracket_61 : decode cX12_bracket 61 = .ok (.aload_n 0, 1) := by decide +kernel
theorem dX12_bracket_62 : decode cX12_bracket 62 = .ok (.iload_n 3, 1) := by decide +kernel
theorem dX12_bracket_63 : decode cX12_bracket 63 = .ok (.invokevirtual 552, 3) := by decide +kernel
theorem dX12_bracket_66 : decode cX12_bracket 66 = .ok (.ifCond .ne 12, 3) := by decide +kernel
theorem dX12_bracket_69 : decode cX12_bracket 69 = .ok (.aload_n 0, 1) := by decide +kernel
theorem dX12_bracket_70 : decode cX12_bracket 70 = .ok (.iconst 5, 1) := by decide +kernel
theorem dX12_bracket_71 : decode cX12_bracket 71 = .ok (.ldc2_w 482, 3) := by decide +kernel
theorem dX12_bracket_74 : decode cX12_bracket 74 = .ok (.invokevirtual 430, 3) := by decide +kernel
theorem dX12_bracket_77 : decode cX12_bracket 77 = .ok (.lreturn, 1) := by decide +kernel
theorem dX12_bracket_78 : decode cX12_bracket 78 = .ok (.iconst 0, 1) := by decide +kernel
theorem dX12_bracket_79 : decode cX12_bracket 79 = .ok (.istore 7, 2) := by decide +kernel
theorem dX12_bracket_81 : decode cX12_bracket 81 = .ok (.iload 7, 2) := by decide +kernel
theorem dX12_bracket_83 : decode cX12_bracket 83 = .ok (.iload 4, 2) := by decide +kernel
theorem dX12_bracket_85 : decode cX12_bracket 85 = .ok (.if_icmp .ge 15, 3) := by decide +kernel
theorem dX12_bracket_88 : decode cX12_bracket 88 = .ok (.aload_n 0, 1) := by decide +kernel
theorem dX12_bracket_89 : decode cX12_bracket 89 = .ok (.iload 7, 2) := by decide +kernel
theorem dX12_bracket_91 : decode cX12_bracket 91 = .ok (.invokevirtual 555, 3) := by decide +kernel
theorem dX12_bracket_94 : decode cX12_bracket 94 = .ok (.iinc 7 1, 3) := by decide +kernel
theorem dX12_bracket_97 : decode cX12_bracket 97 = .ok (.goto (-16), 3) := by decide +kernel
theorem dX12_bracket_100 : decode cX12_bracket 100 = .ok (.aload_n 0, 1) := by decide +kernel
theorem dX12_bracket_101 : decode cX12_bracket 101 = .ok (.iload 5, 2) := by decide +kernel
theorem dX12_bracket_103 : decode cX12_bracket 103 = .ok (.ifCond .eq 10, 3) := by decide +kernel
theorem dX12_bracket_106 : decode cX12_bracket 106 = .ok (.aload_n 0, 1) := by decide +kernel
theorem dX12_bracket_107 : decode cX12_bracket 107 = .ok (.getfield 540, 3) := by decide +kernel
theorem dX12_bracket_110 : decode cX12_bracket 110 = .ok (.goto 7, 3) := by decide +kernel
theorem dX12_bracket_113 : decode cX12_bracket 113 = .ok (.aload_n 0, 1) := by decide +kernel
