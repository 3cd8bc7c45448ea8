theorem dX11_period_115 : decode cX11_period 115 = .ok (.ireturn, 1) := by decide +kernel
theorem dX11_period_116 : decode cX11_period 116 = .ok (.aload 4, 2) := by decide +kernel
theorem dX11_period_118 : decode cX11_period 118 = .ok (.getfield 216, 3) := by decide +kernel
theorem dX11_period_121 : decode cX11_period 121 = .ok (.iload_n 2, 1) := by decide +kernel
theorem dX11_period_122 : decode cX11_period 122 = .ok (.iaload, 1) := by decide +kernel
theorem dX11_period_123 : decode cX11_period 123 = .ok (.invokestatic 159, 3) := by decide +kernel
theorem dX11_period_126 : decode cX11_period 126 = .ok (.ireturn, 1) := by decide +kernel
theorem dX11_period_127 : decode cX11_period 127 = .ok (.aload 4, 2) := by decide +kernel
theorem dX11_period_129 : decode cX11_period 129 = .ok (.getfield 219, 3) := by decide +kernel
theorem dX11_period_132 : decode cX11_period 132 = .ok (.iload_n 2, 1) := by decide +kernel
theorem dX11_period_133 : decode cX11_period 133 = .ok (.iaload, 1) := by decide +kernel
theorem dX11_period_134 : decode cX11_period 134 = .ok (.invokestatic 159, 3) := by decide +kernel
theorem dX11_period_137 : decode cX11_period 137 = .ok (.ireturn, 1) := by decide +kernel
theorem dX11_period_138 : decode cX11_period 138 = .ok (.aload 4, 2) := by decide +kernel
theorem dX11_period_140 : decode cX11_period 140 = .ok (.iload_n 2, 1) := by decide +kernel
theorem dX11_period_141 : decode cX11_period 141 = .ok (.invokevirtual 222, 3) := by decide +kernel
theorem dX11_period_144 : decode cX11_period 144 = .ok (.ifCond .eq 7, 3) := by decide +kernel
theorem dX11_period_147 : decode cX11_period 147 = .ok (.iconst 1, 1) := by decide +kernel
theorem dX11_period_148 : decode cX11_period 148 = .ok (.goto 4, 3) := by decide +kernel
theorem dX11_period_151 : decode cX11_period 151 = .ok (.iconst 0, 1) := by decide +kernel
theorem dX11_period_152 : decode cX11_period 152 = .ok (.ireturn, 1) := by decide +kernel
theorem dX11_period_153 : decode cX11_period 153 = .ok (.aload_n 0, 1) := by decide +kernel
theorem dX11_period_154 : decode cX11_period 154 = .ok (.getfield 47, 3) := by decide +kernel
theorem dX11_period_157 : decode cX11_period 157 = .ok (.iload_n 1, 1) := by decide +kernel
theorem dX11_period_158 : decode cX11_period 158 = .ok (.iload_n 2, 1) := by decide +kernel
theorem dX11_period_159 : decode cX11_period 159 = .ok (.invokevirtual 225, 3) := by decide +kernel
theorem dX11_period_162 : decode cX11_period 162 = .ok (.ireturn, 1) := by decide +kernel
set_option maxRecDepth 20000 in
theorem ggX11_fraction_X11_bondOf : GoodIn wsX11_fraction wsX11_bondOf := goodIn_r _ [7, 8, 9, 10, 11, 84, 85, 86, 87, 88, 89, 90, 91, 92, 93, 94, 95, 96, 97, 98, 99, 100, 101, 102, 103, 104, 105, 106, 107, 108, 109, 110] (by decide +kernel) (by decide +kernel)
set_option maxRecDepth 20000 in
theorem gX11_fraction_X11_bondOf : GoodIn wsX11_fraction (wsV RX11 172 RX11 yX11_bondOf wsX11_bondOf) := goodIn_app (goodIn_of _ (by decide +kernel)) ggX11_fraction_X11_bondOf
set_option maxRecDepth 20000 in
theorem ggX11_fraction_X11_refuse : GoodIn wsX11_fraction wsX11_refuse := goodIn_r _ [22, 1, 84, 85, 86, 87, 88, 89, 90, 91, 92, 93, 94, 95, 96, 97, 98] (by decide +kernel) (by decide +kernel)
set_option maxRecDepth 20000 in
theorem gX11_fraction_X11_refuse : GoodIn wsX11_fraction (wsV RX11 97 RX11 yX11_refuse wsX11_refuse) := goodIn_app (goodIn_of _ (by decide +kernel)) ggX11_fraction_X11_refuse
theorem dX11_fraction_0 : decode cX11_fraction 0 = .ok (.aload_n 0, 1) := by decide +kernel
theorem dX11_fraction_1 : decode cX11_fraction 1 = .ok (.iload_n 1, 1) := by decide +kernel
theorem dX11_fraction_2 : decode cX11_fraction 2 = .ok (.invokevirtual 172, 3) := by decide +kernel
theorem dX11_fraction_5 : decode cX11_fraction 5 = .ok (.astore 4, 2) := by decide +kernel
theorem dX11_fraction_7 : decode cX11_fraction 7 = .ok (.aload 4, 2) := by decide +kernel
theorem dX11_fraction_9 : decode cX11_fraction 9 = .ok (.ifnull 12, 3) := by decide +kernel
theorem dX11_fraction_12 : decode cX11_fraction 12 = .ok (.aload 4, 2) := by decide +kernel
theorem dX11_fraction_14 : decode cX11_fraction 14 = .ok (.iload_n 2, 1) := by decide +kernel
theorem dX11_fraction_15 : decode cX11_fraction 15 = .ok (.invokevirtual 207, 3) := by decide +kernel
theorem dX11_fraction_18 : decode cX11_fraction 18 = .ok (.ifCond .ne 10, 3) := by decide +kernel
theorem dX11_fraction_21 : decode cX11_fraction 21 = .ok (.aload_n 0, 1) := by decide +kernel
theorem dX11_fraction_22 : decode cX11_fraction 22 = .ok (.iconst 1, 1) := by decide +kernel
theorem dX11_fraction_23 : decode cX11_fraction 23 = .ok (.invokevirtual 97, 3) := by decide +kernel
theorem dX11_fraction_26 : decode cX11_fraction 26 = .ok (.i2l, 1) := by decide +kernel
theorem dX11_fraction_27 : decode cX11_fraction 27 = .ok (.lreturn, 1) := by decide +kernel
theorem dX11_fraction_28 : decode cX11_fraction 28 = .ok (.aload_n 0, 1) := by decide +kernel
theorem dX11_fraction_29 : decode cX11_fraction 29 = .ok (.iconst 0, 1) := by decide +kernel
theorem dX11_fraction_30 : decode cX11_fraction 30 = .ok (.putfield 74, 3) := by decide +kernel
theorem dX11_fraction_33 : decode cX11_fraction 33 = .ok (.aload 4, 2) := by decide +kernel
theorem dX11_fraction_35 : decode cX11_fraction 35 = .ok (.iload_n 2, 1) := by decide +kernel
theorem dX11_fraction_36 : decode cX11_fraction 36 = .ok (.aload_n 0, 1) := by decide +kernel
theorem dX11_fraction_37 : decode cX11_fraction 37 = .ok (.getfield 33, 3) := by decide +kernel
theorem dX11_fraction_40 : decode cX11_fraction 40 = .ok (.invokevirtual 228, 3) := by decide +kernel
theorem dX11_fraction_43 : decode cX11_fraction 43 = .ok (.aload_n 0, 1) := by decide +kernel
theorem dX11_fraction_44 : decode cX11_fraction 44 = .ok (.getfield 33, 3) := by decide +kernel
theorem dX11_fraction_47 : decode cX11_fraction 47 = .ok (.iload_n 3, 1) := by decide +kernel
theorem dX11_fraction_48 : decode cX11_fraction 48 = .ok (.invokevirtual 168, 3) := by decide +kernel
theorem dX11_fraction_51 : decode cX11_fraction 51 = .ok (.lreturn, 1) := by decide +kernel
set_option maxRecDepth 20000 in
theorem ggX11_coupon_X11_bondOf : GoodIn wsX11_coupon wsX11_bondOf := goodIn_r _ [7, 8, 9, 10, 11, 90, 91, 92, 93, 94, 95, 96, 97, 98, 99, 100, 101, 102, 103, 104, 105, 106, 107, 108, 109, 110, 111, 112, 113, 114, 115, 116] (by decide +kernel) (by decide +kernel)
set_option maxRecDepth 20000 in
theorem gX11_coupon_X11_bondOf : GoodIn wsX11_coupon (wsV RX11 172 RX11 yX11_bondOf wsX11_bondOf) := goodIn_app (goodIn_of _ (by decide +kernel)) ggX11_coupon_X11_bondOf
set_option maxRecDepth 20000 in
theorem ggX11_coupon_X11_refuse : GoodIn wsX11_coupon wsX11_refuse := goodIn_r _ [22, 1, 90, 91, 92, 93, 94, 95, 96, 97, 98, 99, 100, 101, 102, 103, 104] (by decide +kernel) (by decide +kernel)
set_option maxRecDepth 20000 in
theorem gX11_coupon_X11_refuse : GoodIn wsX11_coupon (wsV RX11 97 RX11 yX11_refuse wsX11_refuse) := goodIn_app (goodIn_of _ (by decide +kernel)) ggX11_coupon_X11_refuse
theorem dX11_coupon_0 : decode cX11_coupon 0 = .ok (.aload_n 0, 1) := by decide +kernel
theorem dX11_coupon_1 : decode cX11_coupon 1 = .ok (.iload_n 1, 1) := by decide +kernel
theorem dX11_coupon_2 : decode cX11_coupon 2 = .ok (.invokevirtual 172, 3) := by decide +kernel
theorem dX11_coupon_5 : decode cX11_coupon 5 = .ok (.astore 4, 2) := by decide +kernel
theorem dX11_coupon_7 : decode cX11_coupon 7 = .ok (.aload 4, 2) := by decide +kernel
theorem dX11_coupon_9 : decode cX11_coupon 9 = .ok (.ifnull 12, 3) := by decide +kernel
theorem dX11_coupon_12 : decode cX11_coupon 12 = .ok (.aload 4, 2) := by decide +kernel
theorem dX11_coupon_14 : decode cX11_coupon 14 = .ok (.iload_n 2, 1) := by decide +kernel
theorem dX11_coupon_15 : decode cX11_coupon 15 = .ok (.invokevirtual 207, 3) := by decide +kernel
theorem dX11_coupon_18 : decode cX11_coupon 18 = .ok (.ifCond .ne 10, 3) := by decide +kernel
theorem dX11_coupon_21 : decode cX11_coupon 21 = .ok (.aload_n 0, 1) := by decide +kernel
theorem dX11_coupon_22 : decode cX11_coupon 22 = .ok (.iconst 1, 1) := by decide +kernel
theorem dX11_coupon_23 : decode cX11_coupon 23 = .ok (.invokevirtual 97, 3) := by decide +kernel
theorem dX11_coupon_26 : decode cX11_coupon 26 = .ok (.i2l, 1) := by decide +kernel
theorem dX11_coupon_27 : decode cX11_coupon 27 = .ok (.lreturn, 1) := by decide +kernel
theorem dX11_coupon_28 : decode cX11_coupon 28 = .ok (.aload_n 0, 1) := by decide +kernel
theorem dX11_coupon_29 : decode cX11_coupon 29 = .ok (.iconst 0, 1) := by decide +kernel
theorem dX11_coupon_30 : decode cX11_coupon 30 = .ok (.putfield 74, 3) := by decide +kernel
theorem dX11_coupon_33 : decode cX11_coupon 33 = .ok (.aload 4, 2) := by decide +kernel
theorem dX11_coupon_35 : decode cX11_coupon 35 = .ok (.iload_n 2, 1) := by decide +kernel
theorem dX11_coupon_36 : decode cX11_coupon 36 = .ok (.aload_n 0, 1) := by decide +kernel
theorem dX11_coupon_37 : decode cX11_coupon 37 = .ok (.getfield 33, 3) := by decide +kernel
theorem dX11_coupon_40 : decode cX11_coupon 40 = .ok (.invokevirtual 232, 3) := by decide +kernel
theorem dX11_coupon_43 : decode cX11_coupon 43 = .ok (.aload_n 0, 1) := by decide +kernel
theorem dX11_coupon_44 : decode cX11_coupon 44 = .ok (.getfield 33, 3) := by decide +kernel
theorem dX11_coupon_47 : decode cX11_coupon 47 = .ok (.iload_n 3, 1) := by decide +kernel
theorem dX11_coupon_48 : decode cX11_coupon 48 = .ok (.invokevirtual 168, 3) := by decide +kernel
theorem dX11_coupon_51 : decode cX11_coupon 51 = .ok (.lreturn, 1) := by decide +kernel
set_option maxRecDepth 20000 in
theorem ggX11_line_X11_bondOf : GoodIn wsX11_line wsX11_bondOf := goodIn_r _ [8, 9, 10, 11, 12, 110, 111, 112, 113, 114, 115, 116, 117, 118, 119, 120, 121, 122, 123, 124, 127, 128, 129, 130, 131, 132, 133, 134, 135, 136, 137, 138] (by decide +kernel) (by decide +kernel)
set_option maxRecDepth 20000 in
theorem gX11_line_X11_bondOf : GoodIn wsX11_line (wsV RX11 172 RX11 yX11_bondOf wsX11_bondOf) := goodIn_app (goodIn_of _ (by decide +kernel)) ggX11_line_X11_bondOf
set_option maxRecDepth 20000 in
theorem ggX11_line_X11_refuse : GoodIn wsX11_line wsX11_refuse := goodIn_r _ [23, 1, 110, 111, 112, 113, 114, 115, 116, 117, 118, 119, 120, 121, 122, 123, 124] (by decide +kernel) (by decide +kernel)
set_option maxRecDepth 20000 in
theorem gX11_line_X11_refuse : GoodIn wsX11_line (wsV RX11 97 RX11 yX11_refuse wsX11_refuse) := goodIn_app (goodIn_of _ (by decide +kernel)) ggX11_line_X11_refuse
theorem dX11_line_0 : decode cX11_line 0 = .ok (.aload_n 0, 1) := by decide +kernel
theorem dX11_line_1 : decode cX11_line 1 = .ok (.iload_n 1, 1) := by decide +kernel
theorem dX11_line_2 : decode cX11_line 2 = .ok (.invokevirtual 172, 3) := by decide +kernel
theorem dX11_line_5 : decode cX11_line 5 = .ok (.astore_n 3, 1) := by decide +kernel
theorem dX11_line_6 : decode cX11_line 6 = .ok (.aload_n 3, 1) := by decide +kernel
theorem dX11_line_7 : decode cX11_line 7 = .ok (.ifnull 11, 3) := by decide +kernel
theorem dX11_line_10 : decode cX11_line 10 = .ok (.aload_n 3, 1) := by decide +kernel
theorem dX11_line_11 : decode cX11_line 11 = .ok (.iload_n 2, 1) := by decide +kernel
theorem dX11_line_12 : decode cX11_line 12 = .ok (.invokevirtual 207, 3) := by decide +kernel
theorem dX11_line_15 : decode cX11_line 15 = .ok (.ifCond .ne 9, 3) := by decide +kernel
theorem dX11_line_18 : decode cX11_line 18 = .ok (.aload_n 0, 1) := by decide +kernel
theorem dX11_line_19 : decode cX11_line 19 = .ok (.iconst 1, 1) := by decide +kernel
theorem dX11_line_20 : decode cX11_line 20 = .ok (.invokevirtual 97, 3) := by decide +kernel
theorem dX11_line_23 : decode cX11_line 23 = .ok (.ireturn, 1) := by decide +kernel
theorem dX11_line_24 : decode cX11_line 24 = .ok (.aload_n 0, 1) := by decide +kernel
theorem dX11_line_25 : decode cX11_line 25 = .ok (.iconst 0, 1) := by decide +kernel
theorem dX11_line_26 : decode cX11_line 26 = .ok (.putfield 74, 3) := by decide +kernel
theorem dX11_line_29 : decode cX11_line 29 = .ok (.aload_n 0, 1) := by decide +kernel
theorem dX11_line_30 : decode cX11_line 30 = .ok (.aload_n 3, 1) := by decide +kernel
theorem dX11_line_31 : decode cX11_line 31 = .ok (.iload_n 2, 1) := by decide +kernel
theorem dX11_line_32 : decode cX11_line 32 = .ok (.invokevirtual 235, 3) := by decide +kernel
theorem dX11_line_35 : decode cX11_line 35 = .ok (.aload_n 0, 1) := by decide +kernel
theorem dX11_line_36 : decode cX11_line 36 = .ok (.getfield 40, 3) := by decide +kernel
theorem dX11_line_39 : decode cX11_line 39 = .ok (.getfield 239, 3) := by decide +kernel
theorem dX11_line_42 : decode cX11_line 42 = .ok (.ireturn, 1) := by decide +kernel
set_option maxRecDepth 20000 in
theorem ggX11_sign_X11_bondOf : GoodIn wsX11_sign wsX11_bondOf := goodIn_r _ [9, 10, 11, 12, 13, 111, 112, 113, 114, 115, 116, 117, 118, 119, 120, 121, 122, 123, 124, 125, 128, 129, 130, 131, 132, 133, 134, 135, 136, 137, 138, 139] (by decide +kernel) (by decide +kernel)
set_option maxRecDepth 20000 in
theorem gX11_sign_X11_bondOf : GoodIn wsX11_sign (wsV RX11 172 RX11 yX11_bondOf wsX11_bondOf) := goodIn_app (goodIn_of _ (by decide +kernel)) ggX11_sign_X11_bondOf
set_option maxRecDepth 20000 in
theorem ggX11_sign_X11_refuse : GoodIn wsX11_sign wsX11_refuse := goodIn_r _ [24, 4, 111, 112, 113, 114, 115, 116, 117, 118, 119, 120, 121, 122, 123, 124, 125] (by decide +kernel) (by decide +kernel)
set_option maxRecDepth 20000 in
theorem gX11_sign_X11_refuse : GoodIn wsX11_sign (wsV RX11 97 RX11 yX11_refuse wsX11_refuse) := goodIn_app (goodIn_of _ (by decide +kernel)) ggX11_sign_X11_refuse
theorem dX11_sign_0 : decode cX11_sign 0 = .ok (.aload_n 0, 1) := by decide +kernel
theorem dX11_sign_1 : decode cX11_sign 1 = .ok (.iload_n 1, 1) := by decide +kernel
theorem dX11_sign_2 : decode cX11_sign 2 = .ok (.invokevirtual 172, 3) := by decide +kernel
theorem dX11_sign_5 : decode cX11_sign 5 = .ok (.astore 4, 2) := by decide +kernel
theorem dX11_sign_7 : decode cX11_sign 7 = .ok (.aload 4, 2) := by decide +kernel
theorem dX11_sign_9 : decode cX11_sign 9 = .ok (.ifnull 12, 3) := by decide +kernel
theorem dX11_sign_12 : decode cX11_sign 12 = .ok (.aload 4, 2) := by decide +kernel
theorem dX11_sign_14 : decode cX11_sign 14 = .ok (.iload_n 2, 1) := by decide +kernel
theorem dX11_sign_15 : decode cX11_sign 15 = .ok (.invokevirtual 207, 3) := by decide +kernel
theorem dX11_sign_18 : decode cX11_sign 18 = .ok (.ifCond .ne 9, 3) := by decide +kernel
theorem dX11_sign_21 : decode cX11_sign 21 = .ok (.aload_n 0, 1) := by decide +kernel
theorem dX11_sign_22 : decode cX11_sign 22 = .ok (.iconst 1, 1) := by decide +kernel
theorem dX11_sign_23 : decode cX11_sign 23 = .ok (.invokevirtual 97, 3) := by decide +kernel
theorem dX11_sign_26 : decode cX11_sign 26 = .ok (.ireturn, 1) := by decide +kernel
theorem dX11_sign_27 : decode cX11_sign 27 = .ok (.aload_n 0, 1) := by decide +kernel
theorem dX11_sign_28 : decode cX11_sign 28 = .ok (.aload 4, 2) := by decide +kernel
theorem dX11_sign_30 : decode cX11_sign 30 = .ok (.iload_n 2, 1) := by decide +kernel
theorem dX11_sign_31 : decode cX11_sign 31 = .ok (.invokevirtual 235, 3) := by decide +kernel
theorem dX11_sign_34 : decode cX11_sign 34 = .ok (.iload_n 3, 1) := by decide +kernel
theorem dX11_sign_35 : decode cX11_sign 35 = .ok (.ifCond .lt 26, 3) := by decide +kernel
theorem dX11_sign_38 : decode cX11_sign 38 = .ok (.iload_n 3, 1) := by decide +kernel
theorem dX11_sign_39 : decode cX11_sign 39 = .ok (.aload_n 0, 1) := by decide +kernel
theorem dX11_sign_40 : decode cX11_sign 40 = .ok (.getfield 40, 3) := by decide +kernel
theorem dX11_sign_43 : decode cX11_sign 43 = .ok (.getfield 239, 3) := by decide +kernel
theorem dX11_sign_46 : decode cX11_sign 46 = .ok (.if_icmp .ge 15, 3) := by decide +kernel
theorem dX11_sign_49 : decode cX11_sign 49 = .ok (.iload_n 3, 1) := by decide +kernel
theorem dX11_sign_50 : decode cX11_sign 50 = .ok (.aload_n 0, 1) := by decide +kernel
theorem dX11_sign_51 : decode cX11_sign 51 = .ok (.getfield 40, 3) := by decide +kernel
theorem dX11_sign_54 : decode cX11_sign 54 = .ok (.getfield 240, 3) := by decide +kernel
theorem dX11_sign_57 : decode cX11_sign 57 = .ok (.arraylength, 1) := by decide +kernel
theorem dX11_sign_58 : decode cX11_sign 58 = .ok (.if_icmp .lt 9, 3) := by decide +kernel
theorem dX11_sign_61 : decode cX11_sign 61 = .ok (.aload_n 0, 1) := by decide +kernel
theorem dX11_sign_62 : decode cX11_sign 62 = .ok (.iconst 1, 1) := by decide +kernel
theorem dX11_sign_63 : decode cX11_sign 63 = .ok (.invokevirtual 97, 3) := by decide +kernel
theorem dX11_sign_66 : decode cX11_sign 66 = .ok (.ireturn, 1) := by decide +kernel
theorem dX11_sign_67 : decode cX11_sign 67 = .ok (.aload_n 0, 1) := by decide +kernel
theorem dX11_sign_68 : decode cX11_sign 68 = .ok (.iconst 0, 1) := by decide +kernel
theorem dX11_sign_69 : decode cX11_sign 69 = .ok (.putfield 74, 3) := by decide +kernel
theorem dX11_sign_72 : decode cX11_sign 72 = .ok (.aload_n 0, 1) := by decide +kernel
theorem dX11_sign_73 : decode cX11_sign 73 = .ok (.getfield 40, 3) := by decide +kernel
theorem dX11_sign_76 : decode cX11_sign 76 = .ok (.getfield 240, 3) := by decide +kernel
theorem dX11_sign_79 : decode cX11_sign 79 = .ok (.iload_n 3, 1) := by decide +kernel
theorem dX11_sign_80 : decode cX11_sign 80 = .ok (.caload, 1) := by decide +kernel
theorem dX11_sign_81 : decode cX11_sign 81 = .ok (.ireturn, 1) := by decide +kernel
set_option maxRecDepth 20000 in
theorem ggX11_current_X11_openSettle : GoodIn wsX11_current wsX11_openSettle := goodIn_r _ [7, 8, 1, 9, 10, 11, 6, 12, 13, 14, 15, 16, 17, 18, 19, 20, 21, 22, 23, 24, 25, 26, 27, 28, 29, 30, 31, 32, 33, 34, 35, 36, 37, 38, 39, 40, 41, 42, 43, 44, 45, 46, 47, 48, 49, 50, 51, 52, 53, 54, 55, 56, 57, 58, 59, 60, 61, 62, 63, 64, 65, 66, 67, 68, 69, 70, 71, 72, 73, 74, 75, 76, 77, 78, 79, 80, 81, 82, 83, 84, 85, 86, 87, 88, 89, 90, 91, 92, 93, 94, 95, 96, 97, 98, 99, 100, 101, 102, 103, 104, 105, 106, 107, 108, 109, 110, 111, 112, 113, 114, 115, 116, 117, 118, 119, 120, 121, 122, 123, 124, 125, 126, 127, 128, 129, 130, 131, 132, 133, 134, 135, 136, 137, 138, 139, 140, 141, 142, 143, 144, 145, 154, 155, 156, 157, 158, 159, 160, 161, 162, 163, 164, 165, 166, 167, 168, 169, 170, 171, 172, 173, 174, 175, 176, 177, 178, 179, 180, 181, 146, 147, 148, 149, 150, 151, 152, 153, 182, 183] (by decide +kernel) (by decide +kernel)
set_option maxRecDepth 20000 in
theorem gX11_current_X11_openSettle : GoodIn wsX11_current (wsV RX11 244 RX11 yX11_openSettle wsX11_openSettle) := goodIn_app (goodIn_of _ (by decide +kernel)) ggX11_current_X11_openSettle
theorem dX11_current_0 : decode cX11_current 0 = .ok (.aload_n 0, 1) := by decide +kernel
theorem dX11_current_1 : decode cX11_current 1 = .ok (.iload_n 1, 1) := by decide +kernel
theorem dX11_current_2 : decode cX11_current 2 = .ok (.iload_n 2, 1) := by decide +kernel
theorem dX11_current_3 : decode cX11_current 3 = .ok (.iconst 1, 1) := by decide +kernel
theorem dX11_current_4 : decode cX11_current 4 = .ok (.invokevirtual 244, 3) := by decide +kernel
theorem dX11_current_7 : decode cX11_current 7 = .ok (.ifCond .ne 5, 3) := by decide +kernel
theorem dX11_current_10 : decode cX11_current 10 = .ok (.iconst (-1), 1) := by decide +kernel
theorem dX11_current_11 : decode cX11_current 11 = .ok (.ireturn, 1) := by decide +kernel
theorem dX11_current_12 : decode cX11_current 12 = .ok (.aload_n 0, 1) := by decide +kernel
theorem dX11_current_13 : decode cX11_current 13 = .ok (.getfield 19, 3) := by decide +kernel
theorem dX11_current_16 : decode cX11_current 16 = .ok (.getfield 248, 3) := by decide +kernel
theorem dX11_current_19 : decode cX11_current 19 = .ok (.ireturn, 1) := by decide +kernel
set_option maxRecDepth 20000 in
theorem ggX11_isEx_X11_openSettle : GoodIn wsX11_isEx wsX11_openSettle := goodIn_r _ [7, 8, 1, 9, 10, 11, 6, 12, 13, 14, 15, 16, 17, 18, 19, 20, 21, 22, 23, 24, 25, 26, 27, 28, 29, 30, 31, 32, 33, 34, 35, 36, 37, 38, 39, 40, 41, 42, 43, 44, 45, 46, 47, 48, 49, 50, 51, 52, 53, 54, 55, 56, 57, 58, 59, 60, 61, 62, 63, 64, 65, 66, 67, 68, 69, 70, 71, 72, 73, 74, 75, 76, 77, 78, 79, 80, 81, 82, 83, 84, 85, 86, 87, 88, 89, 90, 91, 92, 93, 94, 95, 96, 97, 98, 99, 100, 101, 102, 103, 104, 105, 106, 107, 108, 109, 110, 111, 112, 113, 114, 115, 116, 117, 118, 119, 120, 121, 122, 123, 124, 125, 126, 127, 128, 129, 130, 131, 132, 133, 134, 135, 136, 137, 138, 139, 140, 141, 142, 143, 144, 145, 154, 155, 156, 157, 158, 159, 160, 161, 162, 163, 164, 165, 166, 167, 168, 169, 170, 171, 172, 173, 174, 175, 176, 177, 178, 179, 180, 181, 146, 147, 148, 149, 150, 151, 152, 153, 182, 183] (by decide +kernel) (by decide +kernel)
set_option maxRecDepth 20000 in
theorem gX11_isEx_X11_openSettle : GoodIn wsX11_isEx (wsV RX11 244 RX11 yX11_openSettle wsX11_openSettle) := goodIn_app (goodIn_of _ (by decide +kernel)) ggX11_isEx_X11_openSettle
theorem dX11_isEx_0 : decode cX11_isEx 0 = .ok (.aload_n 0, 1) := by decide +kernel
theorem dX11_isEx_1 : decode cX11_isEx 1 = .ok (.iload_n 1, 1) := by decide +kernel
theorem dX11_isEx_2 : decode cX11_isEx 2 = .ok (.iload_n 2, 1) := by decide +kernel
theorem dX11_isEx_3 : decode cX11_isEx 3 = .ok (.iconst 1, 1) := by decide +kernel
theorem dX11_isEx_4 : decode cX11_isEx 4 = .ok (.invokevirtual 244, 3) := by decide +kernel
theorem dX11_isEx_7 : decode cX11_isEx 7 = .ok (.ifCond .ne 5, 3) := by decide +kernel
theorem dX11_isEx_10 : decode cX11_isEx 10 = .ok (.iconst (-1), 1) := by decide +kernel
theorem dX11_isEx_11 : decode cX11_isEx 11 = .ok (.ireturn, 1) := by decide +kernel
theorem dX11_isEx_12 : decode cX11_isEx 12 = .ok (.aload_n 0, 1) := by decide +kernel
theorem dX11_isEx_13 : decode cX11_isEx 13 = .ok (.getfield 19, 3) := by decide +kernel
theorem dX11_isEx_16 : decode cX11_isEx 16 = .ok (.getfield 251, 3) := by decide +kernel
theorem dX11_isEx_19 : decode cX11_isEx 19 = .ok (.ifCond .eq 7, 3) := by decide +kernel
theorem dX11_isEx_22 : decode cX11_isEx 22 = .ok (.iconst 1, 1) := by decide +kernel
theorem dX11_isEx_23 : decode cX11_isEx 23 = .ok (.goto 4, 3) := by decide +kernel
theorem dX11_isEx_26 : decode cX11_isEx 26 = .ok (.iconst 0, 1) := by decide +kernel
theorem dX11_isEx_27 : decode cX11_isEx 27 = .ok (.ireturn, 1) := by decide +kernel
