theorem dX12_period_115 : decode cX12_period 115 = .ok (.bipush 82, 2) := by decide +kernel
theorem dX12_period_117 : decode cX12_period 117 = .ok (.iload_n 1, 1) := by decide +kernel
theorem dX12_period_118 : decode cX12_period 118 = .ok (.imul, 1) := by decide +kernel
theorem dX12_period_119 : decode cX12_period 119 = .ok (.iload_n 2, 1) := by decide +kernel
theorem dX12_period_120 : decode cX12_period 120 = .ok (.iadd, 1) := by decide +kernel
theorem dX12_period_121 : decode cX12_period 121 = .ok (.iaload, 1) := by decide +kernel
theorem dX12_period_122 : decode cX12_period 122 = .ok (.invokestatic 425, 3) := by decide +kernel
theorem dX12_period_125 : decode cX12_period 125 = .ok (.invokevirtual 117, 3) := by decide +kernel
theorem dX12_period_128 : decode cX12_period 128 = .ok (.ireturn, 1) := by decide +kernel
theorem dX12_period_129 : decode cX12_period 129 = .ok (.aload_n 0, 1) := by decide +kernel
theorem dX12_period_130 : decode cX12_period 130 = .ok (.aload_n 0, 1) := by decide +kernel
theorem dX12_period_131 : decode cX12_period 131 = .ok (.getfield 73, 3) := by decide +kernel
theorem dX12_period_134 : decode cX12_period 134 = .ok (.bipush 82, 2) := by decide +kernel
theorem dX12_period_136 : decode cX12_period 136 = .ok (.iload_n 1, 1) := by decide +kernel
theorem dX12_period_137 : decode cX12_period 137 = .ok (.imul, 1) := by decide +kernel
theorem dX12_period_138 : decode cX12_period 138 = .ok (.iload_n 2, 1) := by decide +kernel
theorem dX12_period_139 : decode cX12_period 139 = .ok (.iadd, 1) := by decide +kernel
theorem dX12_period_140 : decode cX12_period 140 = .ok (.iaload, 1) := by decide +kernel
theorem dX12_period_141 : decode cX12_period 141 = .ok (.invokestatic 425, 3) := by decide +kernel
theorem dX12_period_144 : decode cX12_period 144 = .ok (.invokevirtual 117, 3) := by decide +kernel
theorem dX12_period_147 : decode cX12_period 147 = .ok (.ireturn, 1) := by decide +kernel
theorem dX12_period_148 : decode cX12_period 148 = .ok (.aload_n 0, 1) := by decide +kernel
theorem dX12_period_149 : decode cX12_period 149 = .ok (.aload_n 0, 1) := by decide +kernel
theorem dX12_period_150 : decode cX12_period 150 = .ok (.iload_n 1, 1) := by decide +kernel
theorem dX12_period_151 : decode cX12_period 151 = .ok (.aload_n 0, 1) := by decide +kernel
theorem dX12_period_152 : decode cX12_period 152 = .ok (.iload_n 1, 1) := by decide +kernel
theorem dX12_period_153 : decode cX12_period 153 = .ok (.iload_n 2, 1) := by decide +kernel
theorem dX12_period_154 : decode cX12_period 154 = .ok (.invokevirtual 397, 3) := by decide +kernel
theorem dX12_period_157 : decode cX12_period 157 = .ok (.aload_n 0, 1) := by decide +kernel
theorem dX12_period_158 : decode cX12_period 158 = .ok (.iload_n 1, 1) := by decide +kernel
theorem dX12_period_159 : decode cX12_period 159 = .ok (.iload_n 2, 1) := by decide +kernel
theorem dX12_period_160 : decode cX12_period 160 = .ok (.invokevirtual 391, 3) := by decide +kernel
theorem dX12_period_163 : decode cX12_period 163 = .ok (.invokevirtual 445, 3) := by decide +kernel
theorem dX12_period_166 : decode cX12_period 166 = .ok (.ifCond .eq 7, 3) := by decide +kernel
theorem dX12_period_169 : decode cX12_period 169 = .ok (.iconst 1, 1) := by decide +kernel
theorem dX12_period_170 : decode cX12_period 170 = .ok (.goto 4, 3) := by decide +kernel
theorem dX12_period_173 : decode cX12_period 173 = .ok (.iconst 0, 1) := by decide +kernel
theorem dX12_period_174 : decode cX12_period 174 = .ok (.invokevirtual 117, 3) := by decide +kernel
theorem dX12_period_177 : decode cX12_period 177 = .ok (.ireturn, 1) := by decide +kernel
theorem dX12_period_178 : decode cX12_period 178 = .ok (.aload_n 0, 1) := by decide +kernel
theorem dX12_period_179 : decode cX12_period 179 = .ok (.aload_n 0, 1) := by decide +kernel
theorem dX12_period_180 : decode cX12_period 180 = .ok (.getfield 92, 3) := by decide +kernel
theorem dX12_period_183 : decode cX12_period 183 = .ok (.bipush 82, 2) := by decide +kernel
theorem dX12_period_185 : decode cX12_period 185 = .ok (.iload_n 1, 1) := by decide +kernel
theorem dX12_period_186 : decode cX12_period 186 = .ok (.imul, 1) := by decide +kernel
theorem dX12_period_187 : decode cX12_period 187 = .ok (.iload_n 2, 1) := by decide +kernel
theorem dX12_period_188 : decode cX12_period 188 = .ok (.iadd, 1) := by decide +kernel
theorem dX12_period_189 : decode cX12_period 189 = .ok (.iaload, 1) := by decide +kernel
theorem dX12_period_190 : decode cX12_period 190 = .ok (.invokevirtual 117, 3) := by decide +kernel
theorem dX12_period_193 : decode cX12_period 193 = .ok (.ireturn, 1) := by decide +kernel
theorem dX12_period_194 : decode cX12_period 194 = .ok (.aload_n 0, 1) := by decide +kernel
theorem dX12_period_195 : decode cX12_period 195 = .ok (.iconst 1, 1) := by decide +kernel
theorem dX12_period_196 : decode cX12_period 196 = .ok (.invokevirtual 113, 3) := by decide +kernel
theorem dX12_period_199 : decode cX12_period 199 = .ok (.ireturn, 1) := by decide +kernel
set_option maxRecDepth 20000 in
theorem ggX12_fraction_X12_isPeriod : GoodIn wsX12_fraction wsX12_isPeriod := goodIn_r _ [7, 8, 9, 10, 11, 6, 12, 13, 85, 86, 87, 88, 89, 90, 91, 92, 93, 94, 95, 96, 97, 98, 99, 100, 101, 102, 103, 104, 105, 106, 107, 108, 109, 110, 111, 112, 113, 114, 115, 116, 117, 118, 119, 120, 121, 122, 123, 124, 125, 126, 127, 128, 129, 130, 131, 132, 133, 134, 135, 136, 137, 138, 139, 140, 141, 142, 143, 144, 145, 146, 147, 148, 149, 150, 151, 152, 153] (by decide +kernel) (by decide +kernel)
set_option maxRecDepth 20000 in
theorem gX12_fraction_X12_isPeriod : GoodIn wsX12_fraction (wsV RX12 441 RX12 yX12_isPeriod wsX12_isPeriod) := goodIn_app (goodIn_of _ (by decide +kernel)) ggX12_fraction_X12_isPeriod
set_option maxRecDepth 20000 in
theorem ggX12_fraction_X12_refusedLong : GoodIn wsX12_fraction wsX12_refusedLong := goodIn_r _ [17, 18, 19, 20, 6, 21, 22, 23, 85, 86, 87, 88, 89, 90, 91, 92, 93, 94, 95, 96, 97, 98, 99, 100, 101, 102, 103, 104, 105, 106, 107, 108, 109, 110, 111, 112, 113, 114, 115, 116, 117, 118, 119, 120, 121, 122, 123, 124, 125, 126, 127, 128, 129, 130, 131, 132, 133, 134, 135, 136, 137, 138, 139, 140, 141, 142, 143, 144, 145, 146, 147, 148, 149, 150, 151, 152, 153] (by decide +kernel) (by decide +kernel)
set_option maxRecDepth 20000 in
theorem gX12_fraction_X12_refusedLong : GoodIn wsX12_fraction (wsV RX12 430 RX12 yX12_refusedLong wsX12_refusedLong) := goodIn_app (goodIn_of _ (by decide +kernel)) ggX12_fraction_X12_refusedLong
theorem dX12_fraction_0 : decode cX12_fraction 0 = .ok (.aload_n 0, 1) := by decide +kernel
theorem dX12_fraction_1 : decode cX12_fraction 1 = .ok (.iconst 0, 1) := by decide +kernel
theorem dX12_fraction_2 : decode cX12_fraction 2 = .ok (.putfield 107, 3) := by decide +kernel
theorem dX12_fraction_5 : decode cX12_fraction 5 = .ok (.aload_n 0, 1) := by decide +kernel
theorem dX12_fraction_6 : decode cX12_fraction 6 = .ok (.iload_n 1, 1) := by decide +kernel
theorem dX12_fraction_7 : decode cX12_fraction 7 = .ok (.iload_n 2, 1) := by decide +kernel
theorem dX12_fraction_8 : decode cX12_fraction 8 = .ok (.invokevirtual 441, 3) := by decide +kernel
theorem dX12_fraction_11 : decode cX12_fraction 11 = .ok (.ifCond .ne 12, 3) := by decide +kernel
theorem dX12_fraction_14 : decode cX12_fraction 14 = .ok (.aload_n 0, 1) := by decide +kernel
theorem dX12_fraction_15 : decode cX12_fraction 15 = .ok (.iconst 1, 1) := by decide +kernel
theorem dX12_fraction_16 : decode cX12_fraction 16 = .ok (.ldc2_w 428, 3) := by decide +kernel
theorem dX12_fraction_19 : decode cX12_fraction 19 = .ok (.invokevirtual 430, 3) := by decide +kernel
theorem dX12_fraction_22 : decode cX12_fraction 22 = .ok (.lreturn, 1) := by decide +kernel
theorem dX12_fraction_23 : decode cX12_fraction 23 = .ok (.aload_n 0, 1) := by decide +kernel
theorem dX12_fraction_24 : decode cX12_fraction 24 = .ok (.iload_n 1, 1) := by decide +kernel
theorem dX12_fraction_25 : decode cX12_fraction 25 = .ok (.aload_n 0, 1) := by decide +kernel
theorem dX12_fraction_26 : decode cX12_fraction 26 = .ok (.iload_n 1, 1) := by decide +kernel
theorem dX12_fraction_27 : decode cX12_fraction 27 = .ok (.iload_n 2, 1) := by decide +kernel
theorem dX12_fraction_28 : decode cX12_fraction 28 = .ok (.invokevirtual 397, 3) := by decide +kernel
theorem dX12_fraction_31 : decode cX12_fraction 31 = .ok (.aload_n 0, 1) := by decide +kernel
theorem dX12_fraction_32 : decode cX12_fraction 32 = .ok (.iload_n 1, 1) := by decide +kernel
theorem dX12_fraction_33 : decode cX12_fraction 33 = .ok (.iload_n 2, 1) := by decide +kernel
theorem dX12_fraction_34 : decode cX12_fraction 34 = .ok (.invokevirtual 391, 3) := by decide +kernel
theorem dX12_fraction_37 : decode cX12_fraction 37 = .ok (.invokevirtual 400, 3) := by decide +kernel
theorem dX12_fraction_40 : decode cX12_fraction 40 = .ok (.aload_n 0, 1) := by decide +kernel
theorem dX12_fraction_41 : decode cX12_fraction 41 = .ok (.iload_n 3, 1) := by decide +kernel
theorem dX12_fraction_42 : decode cX12_fraction 42 = .ok (.invokevirtual 434, 3) := by decide +kernel
theorem dX12_fraction_45 : decode cX12_fraction 45 = .ok (.lreturn, 1) := by decide +kernel
set_option maxRecDepth 20000 in
theorem ggX12_coupon_X12_isPeriod : GoodIn wsX12_coupon wsX12_isPeriod := goodIn_r _ [7, 8, 9, 10, 11, 6, 12, 13, 95, 96, 97, 98, 99, 100, 101, 102, 103, 104, 105, 106, 107, 108, 109, 110, 111, 112, 113, 114, 115, 116, 117, 118, 119, 120, 121, 122, 123, 124, 125, 126, 127, 128, 129, 130, 131, 132, 133, 134, 135, 136, 137, 138, 139, 140, 141, 142, 143, 144, 145, 146, 147, 148, 149, 150, 151, 152, 153, 154, 155, 156, 157, 158, 159, 160, 161, 162, 163] (by decide +kernel) (by decide +kernel)
set_option maxRecDepth 20000 in
theorem gX12_coupon_X12_isPeriod : GoodIn wsX12_coupon (wsV RX12 441 RX12 yX12_isPeriod wsX12_isPeriod) := goodIn_app (goodIn_of _ (by decide +kernel)) ggX12_coupon_X12_isPeriod
set_option maxRecDepth 20000 in
theorem ggX12_coupon_X12_refusedLong : GoodIn wsX12_coupon wsX12_refusedLong := goodIn_r _ [17, 18, 19, 20, 6, 21, 22, 23, 95, 96, 97, 98, 99, 100, 101, 102, 103, 104, 105, 106, 107, 108, 109, 110, 111, 112, 113, 114, 115, 116, 117, 118, 119, 120, 121, 122, 123, 124, 125, 126, 127, 128, 129, 130, 131, 132, 133, 134, 135, 136, 137, 138, 139, 140, 141, 142, 143, 144, 145, 146, 147, 148, 149, 150, 151, 152, 153, 154, 155, 156, 157, 158, 159, 160, 161, 162, 163] (by decide +kernel) (by decide +kernel)
set_option maxRecDepth 20000 in
theorem gX12_coupon_X12_refusedLong : GoodIn wsX12_coupon (wsV RX12 430 RX12 yX12_refusedLong wsX12_refusedLong) := goodIn_app (goodIn_of _ (by decide +kernel)) ggX12_coupon_X12_refusedLong
set_option maxRecDepth 20000 in
theorem ggX12_coupon_X12_coupons : GoodIn wsX12_coupon wsX12_coupons := goodIn_r _ [27, 28, 29, 30, 31, 32, 6, 33, 34, 35, 36, 37, 38, 39, 40, 41, 42, 43, 44, 45, 46, 47, 48, 49, 50, 51, 52, 53, 54, 55, 56, 57, 58, 59, 60, 61, 62, 63, 64, 65, 66, 67, 68, 69, 70, 71, 72, 73, 74, 75, 76, 77, 78, 79, 80, 81, 82, 95, 96, 97, 98, 99, 100, 101, 102, 103, 104, 105, 106, 107, 108, 109, 110, 111, 112, 113, 114, 115, 116, 117, 118, 119, 120, 121, 122, 123, 124, 125, 126, 127, 128, 129, 130, 131, 132, 133, 134, 135, 136, 137, 138, 139, 140, 141, 142, 143, 144, 145, 146, 147, 148, 149, 150, 151, 152, 153, 154, 155, 156, 157, 158, 159, 160, 161, 162, 163] (by decide +kernel) (by decide +kernel)
set_option maxRecDepth 20000 in
theorem gX12_coupon_X12_coupons : GoodIn wsX12_coupon (wsV RX12 448 RX12 yX12_coupons wsX12_coupons) := goodIn_app (goodIn_of _ (by decide +kernel)) ggX12_coupon_X12_coupons
theorem dX12_coupon_0 : decode cX12_coupon 0 = .ok (.aload_n 0, 1) := by decide +kernel
theorem dX12_coupon_1 : decode cX12_coupon 1 = .ok (.iconst 0, 1) := by decide +kernel
theorem dX12_coupon_2 : decode cX12_coupon 2 = .ok (.putfield 107, 3) := by decide +kernel
theorem dX12_coupon_5 : decode cX12_coupon 5 = .ok (.aload_n 0, 1) := by decide +kernel
theorem dX12_coupon_6 : decode cX12_coupon 6 = .ok (.iload_n 1, 1) := by decide +kernel
theorem dX12_coupon_7 : decode cX12_coupon 7 = .ok (.iload_n 2, 1) := by decide +kernel
theorem dX12_coupon_8 : decode cX12_coupon 8 = .ok (.invokevirtual 441, 3) := by decide +kernel
theorem dX12_coupon_11 : decode cX12_coupon 11 = .ok (.ifCond .ne 12, 3) := by decide +kernel
theorem dX12_coupon_14 : decode cX12_coupon 14 = .ok (.aload_n 0, 1) := by decide +kernel
theorem dX12_coupon_15 : decode cX12_coupon 15 = .ok (.iconst 1, 1) := by decide +kernel
theorem dX12_coupon_16 : decode cX12_coupon 16 = .ok (.ldc2_w 428, 3) := by decide +kernel
theorem dX12_coupon_19 : decode cX12_coupon 19 = .ok (.invokevirtual 430, 3) := by decide +kernel
theorem dX12_coupon_22 : decode cX12_coupon 22 = .ok (.lreturn, 1) := by decide +kernel
theorem dX12_coupon_23 : decode cX12_coupon 23 = .ok (.aload_n 0, 1) := by decide +kernel
theorem dX12_coupon_24 : decode cX12_coupon 24 = .ok (.iload_n 1, 1) := by decide +kernel
theorem dX12_coupon_25 : decode cX12_coupon 25 = .ok (.iload_n 2, 1) := by decide +kernel
theorem dX12_coupon_26 : decode cX12_coupon 26 = .ok (.invokevirtual 448, 3) := by decide +kernel
theorem dX12_coupon_29 : decode cX12_coupon 29 = .ok (.aload_n 0, 1) := by decide +kernel
theorem dX12_coupon_30 : decode cX12_coupon 30 = .ok (.iload_n 3, 1) := by decide +kernel
theorem dX12_coupon_31 : decode cX12_coupon 31 = .ok (.invokevirtual 434, 3) := by decide +kernel
theorem dX12_coupon_34 : decode cX12_coupon 34 = .ok (.lreturn, 1) := by decide +kernel
set_option maxRecDepth 20000 in
theorem ggX12_line_X12_isPeriod : GoodIn wsX12_line wsX12_isPeriod := goodIn_r _ [7, 8, 9, 10, 11, 6, 12, 13, 98, 99, 100, 101, 102, 103, 104, 105, 106, 107, 108, 109, 110, 111, 112, 113, 114, 115, 116, 117, 118, 119, 120, 121, 122, 123, 124, 125, 126, 127, 128, 129, 130, 131, 132, 133, 134, 135, 136, 137, 138, 139, 140, 141, 142, 143, 144, 145, 146, 147, 148, 149, 150, 151, 152, 153, 154, 155, 156, 157, 158, 159, 160, 161, 162, 163, 164, 165, 166] (by decide +kernel) (by decide +kernel)
set_option maxRecDepth 20000 in
theorem gX12_line_X12_isPeriod : GoodIn wsX12_line (wsV RX12 441 RX12 yX12_isPeriod wsX12_isPeriod) := goodIn_app (goodIn_of _ (by decide +kernel)) ggX12_line_X12_isPeriod
set_option maxRecDepth 20000 in
theorem ggX12_line_X12_refused : GoodIn wsX12_line wsX12_refused := goodIn_r _ [17, 18, 19, 98, 99, 100, 101, 102, 103, 104, 105, 106, 107, 108, 109, 110, 111, 112, 113, 114, 115, 116, 117, 118, 119, 120, 121, 122, 123, 124, 125, 126, 127, 128, 129, 130, 131, 132, 133, 134, 135, 136, 137, 138, 139, 140, 141, 142, 143, 144, 145, 146, 147, 148, 149, 150, 151, 152, 153, 154, 155, 156, 157, 158, 159, 160, 161, 162, 163, 164, 165, 166] (by decide +kernel) (by decide +kernel)
set_option maxRecDepth 20000 in
theorem gX12_line_X12_refused : GoodIn wsX12_line (wsV RX12 113 RX12 yX12_refused wsX12_refused) := goodIn_app (goodIn_of _ (by decide +kernel)) ggX12_line_X12_refused
set_option maxRecDepth 20000 in
theorem ggX12_line_X12_good : GoodIn wsX12_line wsX12_good := goodIn_r _ [97, 18, 19, 98, 99, 100, 101, 102, 103, 104, 105, 106, 107, 108, 109, 110, 111, 112, 113, 114, 115, 116, 117, 118, 119, 120, 121, 122, 123, 124, 125, 126, 127, 128, 129, 130, 131, 132, 133, 134, 135, 136, 137, 138, 139, 140, 141, 142, 143, 144, 145, 146, 147, 148, 149, 150, 151, 152, 153, 154, 155, 156, 157, 158, 159, 160, 161, 162, 163, 164, 165, 166] (by decide +kernel) (by decide +kernel)
set_option maxRecDepth 20000 in
theorem gX12_line_X12_good : GoodIn wsX12_line (wsV RX12 117 RX12 yX12_good wsX12_good) := goodIn_app (goodIn_of _ (by decide +kernel)) ggX12_line_X12_good
theorem dX12_line_0 : decode cX12_line 0 = .ok (.aload_n 0, 1) := by decide +kernel
theorem dX12_line_1 : decode cX12_line 1 = .ok (.iconst 0, 1) := by decide +kernel
theorem dX12_line_2 : decode cX12_line 2 = .ok (.putfield 107, 3) := by decide +kernel
theorem dX12_line_5 : decode cX12_line 5 = .ok (.aload_n 0, 1) := by decide +kernel
theorem dX12_line_6 : decode cX12_line 6 = .ok (.iload_n 1, 1) := by decide +kernel
theorem dX12_line_7 : decode cX12_line 7 = .ok (.iload_n 2, 1) := by decide +kernel
theorem dX12_line_8 : decode cX12_line 8 = .ok (.invokevirtual 441, 3) := by decide +kernel
theorem dX12_line_11 : decode cX12_line 11 = .ok (.ifCond .ne 9, 3) := by decide +kernel
theorem dX12_line_14 : decode cX12_line 14 = .ok (.aload_n 0, 1) := by decide +kernel
theorem dX12_line_15 : decode cX12_line 15 = .ok (.iconst 1, 1) := by decide +kernel
theorem dX12_line_16 : decode cX12_line 16 = .ok (.invokevirtual 113, 3) := by decide +kernel
theorem dX12_line_19 : decode cX12_line 19 = .ok (.ireturn, 1) := by decide +kernel
theorem dX12_line_20 : decode cX12_line 20 = .ok (.aload_n 0, 1) := by decide +kernel
theorem dX12_line_21 : decode cX12_line 21 = .ok (.iload_n 1, 1) := by decide +kernel
theorem dX12_line_22 : decode cX12_line 22 = .ok (.iload_n 2, 1) := by decide +kernel
theorem dX12_line_23 : decode cX12_line 23 = .ok (.invokevirtual 465, 3) := by decide +kernel
theorem dX12_line_26 : decode cX12_line 26 = .ok (.aload_n 0, 1) := by decide +kernel
theorem dX12_line_27 : decode cX12_line 27 = .ok (.aload_n 0, 1) := by decide +kernel
theorem dX12_line_28 : decode cX12_line 28 = .ok (.getfield 451, 3) := by decide +kernel
theorem dX12_line_31 : decode cX12_line 31 = .ok (.invokevirtual 117, 3) := by decide +kernel
theorem dX12_line_34 : decode cX12_line 34 = .ok (.ireturn, 1) := by decide +kernel
set_option maxRecDepth 20000 in
theorem ggX12_sign_X12_isPeriod : GoodIn wsX12_sign wsX12_isPeriod := goodIn_r _ [8, 9, 10, 11, 12, 7, 13, 14, 98, 99, 100, 101, 102, 103, 104, 105, 106, 107, 108, 109, 110, 111, 112, 113, 114, 115, 116, 117, 118, 119, 120, 121, 122, 123, 124, 125, 126, 127, 128, 129, 130, 131, 132, 133, 134, 135, 136, 137, 138, 139, 140, 141, 142, 143, 144, 145, 146, 147, 148, 149, 150, 151, 152, 153, 154, 155, 156, 157, 158, 159, 160, 161, 162, 163, 164, 165, 166] (by decide +kernel) (by decide +kernel)
set_option maxRecDepth 20000 in
theorem gX12_sign_X12_isPeriod : GoodIn wsX12_sign (wsV RX12 441 RX12 yX12_isPeriod wsX12_isPeriod) := goodIn_app (goodIn_of _ (by decide +kernel)) ggX12_sign_X12_isPeriod
set_option maxRecDepth 20000 in
theorem ggX12_sign_X12_refused : GoodIn wsX12_sign wsX12_refused := goodIn_r _ [18, 19, 20, 98, 99, 100, 101, 102, 103, 104, 105, 106, 107, 108, 109, 110, 111, 112, 113, 114, 115, 116, 117, 118, 119, 120, 121, 122, 123, 124, 125, 126, 127, 128, 129, 130, 131, 132, 133, 134, 135, 136, 137, 138, 139, 140, 141, 142, 143, 144, 145, 146, 147, 148, 149, 150, 151, 152, 153, 154, 155, 156, 157, 158, 159, 160, 161, 162, 163, 164, 165, 166] (by decide +kernel) (by decide +kernel)
set_option maxRecDepth 20000 in
theorem gX12_sign_X12_refused : GoodIn wsX12_sign (wsV RX12 113 RX12 yX12_refused wsX12_refused) := goodIn_app (goodIn_of _ (by decide +kernel)) ggX12_sign_X12_refused
set_option maxRecDepth 20000 in
theorem ggX12_sign_X12_good : GoodIn wsX12_sign wsX12_good := goodIn_r _ [97, 19, 20, 98, 99, 100, 101, 102, 103, 104, 105, 106, 107, 108, 109, 110, 111, 112, 113, 114, 115, 116, 117, 118, 119, 120, 121, 122, 123, 124, 125, 126, 127, 128, 129, 130, 131, 132, 133, 134, 135, 136, 137, 138, 139, 140, 141, 142, 143, 144, 145, 146, 147, 148, 149, 150, 151, 152, 153, 154, 155, 156, 157, 158, 159, 160, 161, 162, 163, 164, 165, 166] (by decide +kernel) (by decide +kernel)
set_option maxRecDepth 20000 in
theorem gX12_sign_X12_good : GoodIn wsX12_sign (wsV RX12 117 RX12 yX12_good wsX12_good) := goodIn_app (goodIn_of _ (by decide +kernel)) ggX12_sign_X12_good
theorem dX12_sign_0 : decode cX12_sign 0 = .ok (.aload_n 0, 1) := by decide +kernel
theorem dX12_sign_1 : decode cX12_sign 1 = .ok (.iconst 0, 1) := by decide +kernel
theorem dX12_sign_2 : decode cX12_sign 2 = .ok (.putfield 107, 3) := by decide +kernel
theorem dX12_sign_5 : decode cX12_sign 5 = .ok (.aload_n 0, 1) := by decide +kernel
theorem dX12_sign_6 : decode cX12_sign 6 = .ok (.iload_n 1, 1) := by decide +kernel
theorem dX12_sign_7 : decode cX12_sign 7 = .ok (.iload_n 2, 1) := by decide +kernel
theorem dX12_sign_8 : decode cX12_sign 8 = .ok (.invokevirtual 441, 3) := by decide +kernel
theorem dX12_sign_11 : decode cX12_sign 11 = .ok (.ifCond .eq 7, 3) := by decide +kernel
theorem dX12_sign_14 : decode cX12_sign 14 = .ok (.iload_n 3, 1) := by decide +kernel
theorem dX12_sign_15 : decode cX12_sign 15 = .ok (.ifCond .ge 9, 3) := by decide +kernel
theorem dX12_sign_18 : decode cX12_sign 18 = .ok (.aload_n 0, 1) := by decide +kernel
theorem dX12_sign_19 : decode cX12_sign 19 = .ok (.iconst 1, 1) := by decide +kernel
theorem dX12_sign_20 : decode cX12_sign 20 = .ok (.invokevirtual 113, 3) := by decide +kernel
theorem dX12_sign_23 : decode cX12_sign 23 = .ok (.ireturn, 1) := by decide +kernel
theorem dX12_sign_24 : decode cX12_sign 24 = .ok (.aload_n 0, 1) := by decide +kernel
theorem dX12_sign_25 : decode cX12_sign 25 = .ok (.iload_n 1, 1) := by decide +kernel
theorem dX12_sign_26 : decode cX12_sign 26 = .ok (.iload_n 2, 1) := by decide +kernel
theorem dX12_sign_27 : decode cX12_sign 27 = .ok (.invokevirtual 465, 3) := by decide +kernel
theorem dX12_sign_30 : decode cX12_sign 30 = .ok (.iload_n 3, 1) := by decide +kernel
theorem dX12_sign_31 : decode cX12_sign 31 = .ok (.aload_n 0, 1) := by decide +kernel
theorem dX12_sign_32 : decode cX12_sign 32 = .ok (.getfield 451, 3) := by decide +kernel
theorem dX12_sign_35 : decode cX12_sign 35 = .ok (.if_icmp .ge 16, 3) := by decide +kernel
theorem dX12_sign_38 : decode cX12_sign 38 = .ok (.aload_n 0, 1) := by decide +kernel
theorem dX12_sign_39 : decode cX12_sign 39 = .ok (.aload_n 0, 1) := by decide +kernel
theorem dX12_sign_40 : decode cX12_sign 40 = .ok (.getfield 83, 3) := by decide +kernel
theorem dX12_sign_43 : decode cX12_sign 43 = .ok (.iload_n 3, 1) := by decide +kernel
theorem dX12_sign_44 : decode cX12_sign 44 = .ok (.baload, 1) := by decide +kernel
theorem dX12_sign_45 : decode cX12_sign 45 = .ok (.invokevirtual 117, 3) := by decide +kernel
theorem dX12_sign_48 : decode cX12_sign 48 = .ok (.goto 8, 3) := by decide +kernel
theorem dX12_sign_51 : decode cX12_sign 51 = .ok (.aload_n 0, 1) := by decide +kernel
theorem dX12_sign_52 : decode cX12_sign 52 = .ok (.iconst 1, 1) := by decide +kernel
theorem dX12_sign_53 : decode cX12_sign 53 = .ok (.invokevirtual 113, 3) := by decide +kernel
theorem dX12_sign_56 : decode cX12_sign 56 = .ok (.ireturn, 1) := by decide +kernel
set_option maxRecDepth 20000 in
theorem ggX12_refuses_X12_isBond : GoodIn wsX12_refuses wsX12_isBond := goodIn_r _ [5, 6, 24, 25, 26, 27, 28, 29, 30, 31, 32, 33, 34, 35, 36, 37, 38, 39, 40, 41, 42, 43, 44, 45, 46, 47, 48, 49, 50, 51, 52, 53, 54, 55, 56, 57, 58, 59, 60, 61, 62, 63, 64, 65, 66, 67, 68, 69, 70, 71, 72, 73, 74, 75, 76, 77, 78, 79, 80, 81, 82, 83, 84, 85, 86, 87, 88, 89, 90, 91, 92] (by decide +kernel) (by decide +kernel)
set_option maxRecDepth 20000 in
theorem gX12_refuses_X12_isBond : GoodIn wsX12_refuses (wsV RX12 438 RX12 yX12_isBond wsX12_isBond) := goodIn_app (goodIn_of _ (by decide +kernel)) ggX12_refuses_X12_isBond
set_option maxRecDepth 20000 in
theorem ggX12_refuses_X12_isDate : GoodIn wsX12_refuses wsX12_isDate := goodIn_r _ [9, 10, 11, 12, 13, 4, 14, 15, 16, 17] (by decide +kernel) (by decide +kernel)
set_option maxRecDepth 20000 in
theorem gX12_refuses_X12_isDate : GoodIn wsX12_refuses (va_wsS RX12 246 yX12_isDate wsX12_isDate) := goodIn_app (goodIn_of _ (by decide +kernel)) ggX12_refuses_X12_isDate
theorem dX12_refuses_0 : decode cX12_refuses 0 = .ok (.aload_n 0, 1) := by decide +kernel
theorem dX12_refuses_1 : decode cX12_refuses 1 = .ok (.iload_n 1, 1) := by decide +kernel
theorem dX12_refuses_2 : decode cX12_refuses 2 = .ok (.invokevirtual 438, 3) := by decide +kernel
theorem dX12_refuses_5 : decode cX12_refuses 5 = .ok (.ifCond .ne 5, 3) := by decide +kernel
theorem dX12_refuses_8 : decode cX12_refuses 8 = .ok (.iconst 1, 1) := by decide +kernel
theorem dX12_refuses_9 : decode cX12_refuses 9 = .ok (.ireturn, 1) := by decide +kernel
theorem dX12_refuses_10 : decode cX12_refuses 10 = .ok (.iload_n 2, 1) := by decide +kernel
theorem dX12_refuses_11 : decode cX12_refuses 11 = .ok (.invokestatic 246, 3) := by decide +kernel
theorem dX12_refuses_14 : decode cX12_refuses 14 = .ok (.ifCond .ne 5, 3) := by decide +kernel
theorem dX12_refuses_17 : decode cX12_refuses 17 = .ok (.iconst 2, 1) := by decide +kernel
theorem dX12_refuses_18 : decode cX12_refuses 18 = .ok (.ireturn, 1) := by decide +kernel
