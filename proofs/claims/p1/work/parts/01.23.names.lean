theorem dX12_bracket_114 : decode cX12_bracket 114 = .ok (.getfield 537, 3) := by decide +kernel
theorem dX12_bracket_117 : decode cX12_bracket 117 = .ok (.invokevirtual 524, 3) := by decide +kernel
theorem dX12_bracket_120 : decode cX12_bracket 120 = .ok (.lreturn, 1) := by decide +kernel
set_option maxRecDepth 20000 in
theorem ggX12_narrows_X12_in : GoodIn wsX12_narrows wsX12_in := goodIn_r _ [9] (by decide +kernel) (by decide +kernel)
set_option maxRecDepth 20000 in
theorem gX12_narrows_X12_in : GoodIn wsX12_narrows (va_wsS RX12 132 yX12_in wsX12_in) := goodIn_app (goodIn_of _ (by decide +kernel)) ggX12_narrows_X12_in
set_option maxRecDepth 20000 in
theorem ggX12_narrows_X12_refusesBy : GoodIn wsX12_narrows wsX12_refusesBy := goodIn_r _ [13, 14, 15, 16, 8, 17, 18, 19, 20, 21, 22, 23, 6, 7, 9, 24, 25, 26, 27, 28, 29, 30, 31, 32, 152, 153, 154, 155, 156, 157, 158, 159, 160, 161, 162, 163, 164, 165, 166, 167, 168, 169, 170, 171, 172, 173, 174, 175, 176, 177, 178, 179, 180, 181, 182, 183, 184, 185, 186, 187, 188, 189, 190, 191, 192, 193, 194, 195, 196, 197, 198, 199, 200, 201, 202, 203, 204, 205, 206, 207, 208, 209, 210, 211, 212, 213, 214, 215, 216, 217, 218, 219, 220] (by decide +kernel) (by decide +kernel)
set_option maxRecDepth 20000 in
theorem gX12_narrows_X12_refusesBy : GoodIn wsX12_narrows (wsV RX12 518 RX12 yX12_refusesBy wsX12_refusesBy) := goodIn_app (goodIn_of _ (by decide +kernel)) ggX12_narrows_X12_refusesBy
set_option maxRecDepth 20000 in
theorem ggX12_narrows_X12_refused : GoodIn wsX12_narrows wsX12_refused := goodIn_r _ [36, 37, 38, 152, 153, 154, 155, 156, 157, 158, 159, 160, 161, 162, 163, 164, 165, 166, 167, 168, 169, 170, 171, 172, 173, 174, 175, 176, 177, 178, 179, 180, 181, 182, 183, 184, 185, 186, 187, 188, 189, 190, 191, 192, 193, 194, 195, 196, 197, 198, 199, 200, 201, 202, 203, 204, 205, 206, 207, 208, 209, 210, 211, 212, 213, 214, 215, 216, 217, 218, 219, 220] (by decide +kernel) (by decide +kernel)
set_option maxRecDepth 20000 in
theorem gX12_narrows_X12_refused : GoodIn wsX12_narrows (wsV RX12 113 RX12 yX12_refused wsX12_refused) := goodIn_app (goodIn_of _ (by decide +kernel)) ggX12_narrows_X12_refused
set_option maxRecDepth 20000 in
theorem ggX12_narrows_X12_brackets : GoodIn wsX12_narrows wsX12_brackets := goodIn_r _ [126, 127, 47, 128, 129, 4, 3, 130, 131, 132, 133, 134, 8, 135, 43, 46, 44, 136, 137, 45, 138, 152, 153, 154, 155, 156, 157, 158, 159, 160, 161, 162, 163, 164, 165, 166, 167, 168, 169, 170, 171, 172, 173, 174, 175, 176, 177, 178, 179, 180, 181, 182, 183, 184, 185, 186, 187, 188, 189, 190, 191, 192, 193, 194, 195, 196, 197, 198, 199, 200, 201, 202, 203, 204, 205, 206, 207, 208, 209, 210, 211, 212, 213, 214, 215, 216, 217, 218, 219, 220] (by decide +kernel) (by decide +kernel)
set_option maxRecDepth 20000 in
theorem gX12_narrows_X12_brackets : GoodIn wsX12_narrows (wsV RX12 552 RX12 yX12_brackets wsX12_brackets) := goodIn_app (goodIn_of _ (by decide +kernel)) ggX12_narrows_X12_brackets
set_option maxRecDepth 20000 in
theorem ggX12_narrows_X12_good : GoodIn wsX12_narrows wsX12_good := goodIn_r _ [142, 37, 38, 152, 153, 154, 155, 156, 157, 158, 159, 160, 161, 162, 163, 164, 165, 166, 167, 168, 169, 170, 171, 172, 173, 174, 175, 176, 177, 178, 179, 180, 181, 182, 183, 184, 185, 186, 187, 188, 189, 190, 191, 192, 193, 194, 195, 196, 197, 198, 199, 200, 201, 202, 203, 204, 205, 206, 207, 208, 209, 210, 211, 212, 213, 214, 215, 216, 217, 218, 219, 220] (by decide +kernel) (by decide +kernel)
set_option maxRecDepth 20000 in
theorem gX12_narrows_X12_good : GoodIn wsX12_narrows (wsV RX12 117 RX12 yX12_good wsX12_good) := goodIn_app (goodIn_of _ (by decide +kernel)) ggX12_narrows_X12_good
theorem dX12_narrows_0 : decode cX12_narrows 0 = .ok (.aload_n 0, 1) := by decide +kernel
theorem dX12_narrows_1 : decode cX12_narrows 1 = .ok (.iconst 0, 1) := by decide +kernel
theorem dX12_narrows_2 : decode cX12_narrows 2 = .ok (.putfield 107, 3) := by decide +kernel
theorem dX12_narrows_5 : decode cX12_narrows 5 = .ok (.aload_n 0, 1) := by decide +kernel
theorem dX12_narrows_6 : decode cX12_narrows 6 = .ok (.iload_n 1, 1) := by decide +kernel
theorem dX12_narrows_7 : decode cX12_narrows 7 = .ok (.iload_n 2, 1) := by decide +kernel
theorem dX12_narrows_8 : decode cX12_narrows 8 = .ok (.iload_n 3, 1) := by decide +kernel
theorem dX12_narrows_9 : decode cX12_narrows 9 = .ok (.iconst 1, 1) := by decide +kernel
theorem dX12_narrows_10 : decode cX12_narrows 10 = .ok (.ldc_w 348, 3) := by decide +kernel
theorem dX12_narrows_13 : decode cX12_narrows 13 = .ok (.invokestatic 132, 3) := by decide +kernel
theorem dX12_narrows_16 : decode cX12_narrows 16 = .ok (.invokevirtual 518, 3) := by decide +kernel
theorem dX12_narrows_19 : decode cX12_narrows 19 = .ok (.istore 4, 2) := by decide +kernel
theorem dX12_narrows_21 : decode cX12_narrows 21 = .ok (.iload 4, 2) := by decide +kernel
theorem dX12_narrows_23 : decode cX12_narrows 23 = .ok (.ifCond .le 10, 3) := by decide +kernel
theorem dX12_narrows_26 : decode cX12_narrows 26 = .ok (.aload_n 0, 1) := by decide +kernel
theorem dX12_narrows_27 : decode cX12_narrows 27 = .ok (.iload 4, 2) := by decide +kernel
theorem dX12_narrows_29 : decode cX12_narrows 29 = .ok (.invokevirtual 113, 3) := by decide +kernel
theorem dX12_narrows_32 : decode cX12_narrows 32 = .ok (.ireturn, 1) := by decide +kernel
theorem dX12_narrows_33 : decode cX12_narrows 33 = .ok (.aload_n 0, 1) := by decide +kernel
theorem dX12_narrows_34 : decode cX12_narrows 34 = .ok (.iload_n 1, 1) := by decide +kernel
theorem dX12_narrows_35 : decode cX12_narrows 35 = .ok (.iload_n 2, 1) := by decide +kernel
theorem dX12_narrows_36 : decode cX12_narrows 36 = .ok (.invokevirtual 521, 3) := by decide +kernel
theorem dX12_narrows_39 : decode cX12_narrows 39 = .ok (.aload_n 0, 1) := by decide +kernel
theorem dX12_narrows_40 : decode cX12_narrows 40 = .ok (.iload_n 3, 1) := by decide +kernel
theorem dX12_narrows_41 : decode cX12_narrows 41 = .ok (.invokevirtual 552, 3) := by decide +kernel
theorem dX12_narrows_44 : decode cX12_narrows 44 = .ok (.ifCond .ne 9, 3) := by decide +kernel
theorem dX12_narrows_47 : decode cX12_narrows 47 = .ok (.aload_n 0, 1) := by decide +kernel
theorem dX12_narrows_48 : decode cX12_narrows 48 = .ok (.iconst 5, 1) := by decide +kernel
theorem dX12_narrows_49 : decode cX12_narrows 49 = .ok (.invokevirtual 113, 3) := by decide +kernel
theorem dX12_narrows_52 : decode cX12_narrows 52 = .ok (.ireturn, 1) := by decide +kernel
theorem dX12_narrows_53 : decode cX12_narrows 53 = .ok (.iconst 0, 1) := by decide +kernel
theorem dX12_narrows_54 : decode cX12_narrows 54 = .ok (.istore 5, 2) := by decide +kernel
theorem dX12_narrows_56 : decode cX12_narrows 56 = .ok (.iload 5, 2) := by decide +kernel
theorem dX12_narrows_58 : decode cX12_narrows 58 = .ok (.bipush 60, 2) := by decide +kernel
theorem dX12_narrows_60 : decode cX12_narrows 60 = .ok (.if_icmp .gt 38, 3) := by decide +kernel
theorem dX12_narrows_63 : decode cX12_narrows 63 = .ok (.aload_n 0, 1) := by decide +kernel
theorem dX12_narrows_64 : decode cX12_narrows 64 = .ok (.getfield 540, 3) := by decide +kernel
theorem dX12_narrows_67 : decode cX12_narrows 67 = .ok (.aload_n 0, 1) := by decide +kernel
theorem dX12_narrows_68 : decode cX12_narrows 68 = .ok (.getfield 537, 3) := by decide +kernel
theorem dX12_narrows_71 : decode cX12_narrows 71 = .ok (.dsub, 1) := by decide +kernel
theorem dX12_narrows_72 : decode cX12_narrows 72 = .ok (.ldc2_w 558, 3) := by decide +kernel
theorem dX12_narrows_75 : decode cX12_narrows 75 = .ok (.dcmp .g, 1) := by decide +kernel
theorem dX12_narrows_76 : decode cX12_narrows 76 = .ok (.ifCond .gt 10, 3) := by decide +kernel
theorem dX12_narrows_79 : decode cX12_narrows 79 = .ok (.aload_n 0, 1) := by decide +kernel
theorem dX12_narrows_80 : decode cX12_narrows 80 = .ok (.iload 5, 2) := by decide +kernel
theorem dX12_narrows_82 : decode cX12_narrows 82 = .ok (.invokevirtual 117, 3) := by decide +kernel
theorem dX12_narrows_85 : decode cX12_narrows 85 = .ok (.ireturn, 1) := by decide +kernel
theorem dX12_narrows_86 : decode cX12_narrows 86 = .ok (.aload_n 0, 1) := by decide +kernel
theorem dX12_narrows_87 : decode cX12_narrows 87 = .ok (.iload 5, 2) := by decide +kernel
theorem dX12_narrows_89 : decode cX12_narrows 89 = .ok (.invokevirtual 555, 3) := by decide +kernel
theorem dX12_narrows_92 : decode cX12_narrows 92 = .ok (.iinc 5 1, 3) := by decide +kernel
theorem dX12_narrows_95 : decode cX12_narrows 95 = .ok (.goto (-39), 3) := by decide +kernel
theorem dX12_narrows_98 : decode cX12_narrows 98 = .ok (.aload_n 0, 1) := by decide +kernel
theorem dX12_narrows_99 : decode cX12_narrows 99 = .ok (.bipush (-2), 2) := by decide +kernel
theorem dX12_narrows_101 : decode cX12_narrows 101 = .ok (.invokevirtual 117, 3) := by decide +kernel
theorem dX12_narrows_104 : decode cX12_narrows 104 = .ok (.ireturn, 1) := by decide +kernel
set_option maxRecDepth 20000 in
theorem ggX12_pointsAt_X12_in : GoodIn wsX12_pointsAt wsX12_in := goodIn_r _ [8] (by decide +kernel) (by decide +kernel)
set_option maxRecDepth 20000 in
theorem gX12_pointsAt_X12_in : GoodIn wsX12_pointsAt (va_wsS RX12 132 yX12_in wsX12_in) := goodIn_app (goodIn_of _ (by decide +kernel)) ggX12_pointsAt_X12_in
set_option maxRecDepth 20000 in
theorem ggX12_pointsAt_X12_refusesBy : GoodIn wsX12_pointsAt wsX12_refusesBy := goodIn_r _ [12, 13, 14, 15, 7, 16, 17, 18, 19, 20, 21, 22, 5, 6, 8, 23, 24, 25, 26, 27, 28, 29, 30, 31, 141, 142, 143, 144, 145, 146, 147, 148, 149, 150, 151, 152, 153, 154, 155, 156, 157, 158, 159, 160, 161, 162, 163, 164, 165, 166, 167, 168, 169, 170, 171, 172, 173, 174, 175, 176, 177, 178, 179, 180, 181, 182, 183, 184, 185, 186, 187, 188, 189, 190, 191, 192, 193, 194, 195, 196, 197, 198, 199, 200, 201, 202, 203, 204, 205, 206, 207, 208, 209] (by decide +kernel) (by decide +kernel)
set_option maxRecDepth 20000 in
theorem gX12_pointsAt_X12_refusesBy : GoodIn wsX12_pointsAt (wsV RX12 518 RX12 yX12_refusesBy wsX12_refusesBy) := goodIn_app (goodIn_of _ (by decide +kernel)) ggX12_pointsAt_X12_refusesBy
set_option maxRecDepth 20000 in
theorem ggX12_pointsAt_X12_refused : GoodIn wsX12_pointsAt wsX12_refused := goodIn_r _ [35, 36, 37, 141, 142, 143, 144, 145, 146, 147, 148, 149, 150, 151, 152, 153, 154, 155, 156, 157, 158, 159, 160, 161, 162, 163, 164, 165, 166, 167, 168, 169, 170, 171, 172, 173, 174, 175, 176, 177, 178, 179, 180, 181, 182, 183, 184, 185, 186, 187, 188, 189, 190, 191, 192, 193, 194, 195, 196, 197, 198, 199, 200, 201, 202, 203, 204, 205, 206, 207, 208, 209] (by decide +kernel) (by decide +kernel)
set_option maxRecDepth 20000 in
theorem gX12_pointsAt_X12_refused : GoodIn wsX12_pointsAt (wsV RX12 113 RX12 yX12_refused wsX12_refused) := goodIn_app (goodIn_of _ (by decide +kernel)) ggX12_pointsAt_X12_refused
set_option maxRecDepth 20000 in
theorem ggX12_pointsAt_X12_cleanAt : GoodIn wsX12_pointsAt wsX12_cleanAt := goodIn_r _ [125, 46, 126, 127, 7, 128, 129, 130, 131, 132, 133, 42, 45, 43, 134, 135, 44, 136, 4, 141, 142, 143, 144, 145, 146, 147, 148, 149, 150, 151, 152, 153, 154, 155, 156, 157, 158, 159, 160, 161, 162, 163, 164, 165, 166, 167, 168, 169, 170, 171, 172, 173, 174, 175, 176, 177, 178, 179, 180, 181, 182, 183, 184, 185, 186, 187, 188, 189, 190, 191, 192, 193, 194, 195, 196, 197, 198, 199, 200, 201, 202, 203, 204, 205, 206, 207, 208, 209] (by decide +kernel) (by decide +kernel)
set_option maxRecDepth 20000 in
theorem gX12_pointsAt_X12_cleanAt : GoodIn wsX12_pointsAt (wsV RX12 527 RX12 yX12_cleanAt wsX12_cleanAt) := goodIn_app (goodIn_of _ (by decide +kernel)) ggX12_pointsAt_X12_cleanAt
set_option maxRecDepth 20000 in
theorem ggX12_pointsAt_X12_good : GoodIn wsX12_pointsAt wsX12_good := goodIn_r _ [140, 36, 37, 141, 142, 143, 144, 145, 146, 147, 148, 149, 150, 151, 152, 153, 154, 155, 156, 157, 158, 159, 160, 161, 162, 163, 164, 165, 166, 167, 168, 169, 170, 171, 172, 173, 174, 175, 176, 177, 178, 179, 180, 181, 182, 183, 184, 185, 186, 187, 188, 189, 190, 191, 192, 193, 194, 195, 196, 197, 198, 199, 200, 201, 202, 203, 204, 205, 206, 207, 208, 209] (by decide +kernel) (by decide +kernel)
set_option maxRecDepth 20000 in
theorem gX12_pointsAt_X12_good : GoodIn wsX12_pointsAt (wsV RX12 117 RX12 yX12_good wsX12_good) := goodIn_app (goodIn_of _ (by decide +kernel)) ggX12_pointsAt_X12_good
theorem dX12_pointsAt_0 : decode cX12_pointsAt 0 = .ok (.aload_n 0, 1) := by decide +kernel
theorem dX12_pointsAt_1 : decode cX12_pointsAt 1 = .ok (.iconst 0, 1) := by decide +kernel
theorem dX12_pointsAt_2 : decode cX12_pointsAt 2 = .ok (.putfield 107, 3) := by decide +kernel
theorem dX12_pointsAt_5 : decode cX12_pointsAt 5 = .ok (.aload_n 0, 1) := by decide +kernel
theorem dX12_pointsAt_6 : decode cX12_pointsAt 6 = .ok (.iload_n 1, 1) := by decide +kernel
theorem dX12_pointsAt_7 : decode cX12_pointsAt 7 = .ok (.iload_n 2, 1) := by decide +kernel
theorem dX12_pointsAt_8 : decode cX12_pointsAt 8 = .ok (.iload_n 3, 1) := by decide +kernel
theorem dX12_pointsAt_9 : decode cX12_pointsAt 9 = .ok (.iconst 1, 1) := by decide +kernel
theorem dX12_pointsAt_10 : decode cX12_pointsAt 10 = .ok (.ldc_w 348, 3) := by decide +kernel
theorem dX12_pointsAt_13 : decode cX12_pointsAt 13 = .ok (.invokestatic 132, 3) := by decide +kernel
theorem dX12_pointsAt_16 : decode cX12_pointsAt 16 = .ok (.invokevirtual 518, 3) := by decide +kernel
theorem dX12_pointsAt_19 : decode cX12_pointsAt 19 = .ok (.istore 4, 2) := by decide +kernel
theorem dX12_pointsAt_21 : decode cX12_pointsAt 21 = .ok (.iload 4, 2) := by decide +kernel
theorem dX12_pointsAt_23 : decode cX12_pointsAt 23 = .ok (.ifCond .le 14, 3) := by decide +kernel
theorem dX12_pointsAt_26 : decode cX12_pointsAt 26 = .ok (.aload_n 0, 1) := by decide +kernel
theorem dX12_pointsAt_27 : decode cX12_pointsAt 27 = .ok (.iload 4, 2) := by decide +kernel
theorem dX12_pointsAt_29 : decode cX12_pointsAt 29 = .ok (.invokevirtual 113, 3) := by decide +kernel
theorem dX12_pointsAt_32 : decode cX12_pointsAt 32 = .ok (.pop, 1) := by decide +kernel
theorem dX12_pointsAt_33 : decode cX12_pointsAt 33 = .ok (.ldc_w 424, 3) := by decide +kernel
theorem dX12_pointsAt_36 : decode cX12_pointsAt 36 = .ok (.ireturn, 1) := by decide +kernel
theorem dX12_pointsAt_37 : decode cX12_pointsAt 37 = .ok (.aload_n 0, 1) := by decide +kernel
theorem dX12_pointsAt_38 : decode cX12_pointsAt 38 = .ok (.iload_n 1, 1) := by decide +kernel
theorem dX12_pointsAt_39 : decode cX12_pointsAt 39 = .ok (.iload_n 2, 1) := by decide +kernel
theorem dX12_pointsAt_40 : decode cX12_pointsAt 40 = .ok (.invokevirtual 521, 3) := by decide +kernel
theorem dX12_pointsAt_43 : decode cX12_pointsAt 43 = .ok (.iload_n 3, 1) := by decide +kernel
theorem dX12_pointsAt_44 : decode cX12_pointsAt 44 = .ok (.i2d, 1) := by decide +kernel
theorem dX12_pointsAt_45 : decode cX12_pointsAt 45 = .ok (.ldc2_w 503, 3) := by decide +kernel
theorem dX12_pointsAt_48 : decode cX12_pointsAt 48 = .ok (.ddiv, 1) := by decide +kernel
theorem dX12_pointsAt_49 : decode cX12_pointsAt 49 = .ok (.dstore 5, 2) := by decide +kernel
theorem dX12_pointsAt_51 : decode cX12_pointsAt 51 = .ok (.sipush (-2001), 3) := by decide +kernel
theorem dX12_pointsAt_54 : decode cX12_pointsAt 54 = .ok (.istore 7, 2) := by decide +kernel
theorem dX12_pointsAt_56 : decode cX12_pointsAt 56 = .ok (.sipush 10001, 3) := by decide +kernel
theorem dX12_pointsAt_59 : decode cX12_pointsAt 59 = .ok (.istore 8, 2) := by decide +kernel
theorem dX12_pointsAt_61 : decode cX12_pointsAt 61 = .ok (.iload 8, 2) := by decide +kernel
theorem dX12_pointsAt_63 : decode cX12_pointsAt 63 = .ok (.iload 7, 2) := by decide +kernel
theorem dX12_pointsAt_65 : decode cX12_pointsAt 65 = .ok (.isub, 1) := by decide +kernel
theorem dX12_pointsAt_66 : decode cX12_pointsAt 66 = .ok (.iconst 1, 1) := by decide +kernel
theorem dX12_pointsAt_67 : decode cX12_pointsAt 67 = .ok (.if_icmp .le 38, 3) := by decide +kernel
theorem dX12_pointsAt_70 : decode cX12_pointsAt 70 = .ok (.iload 7, 2) := by decide +kernel
theorem dX12_pointsAt_72 : decode cX12_pointsAt 72 = .ok (.iload 8, 2) := by decide +kernel
theorem dX12_pointsAt_74 : decode cX12_pointsAt 74 = .ok (.iadd, 1) := by decide +kernel
theorem dX12_pointsAt_75 : decode cX12_pointsAt 75 = .ok (.iconst 2, 1) := by decide +kernel
theorem dX12_pointsAt_76 : decode cX12_pointsAt 76 = .ok (.idiv, 1) := by decide +kernel
theorem dX12_pointsAt_77 : decode cX12_pointsAt 77 = .ok (.istore 9, 2) := by decide +kernel
theorem dX12_pointsAt_79 : decode cX12_pointsAt 79 = .ok (.aload_n 0, 1) := by decide +kernel
theorem dX12_pointsAt_80 : decode cX12_pointsAt 80 = .ok (.iload 9, 2) := by decide +kernel
theorem dX12_pointsAt_82 : decode cX12_pointsAt 82 = .ok (.invokevirtual 527, 3) := by decide +kernel
theorem dX12_pointsAt_85 : decode cX12_pointsAt 85 = .ok (.dload 5, 2) := by decide +kernel
theorem dX12_pointsAt_87 : decode cX12_pointsAt 87 = .ok (.dcmp .l, 1) := by decide +kernel
theorem dX12_pointsAt_88 : decode cX12_pointsAt 88 = .ok (.ifCond .lt 10, 3) := by decide +kernel
theorem dX12_pointsAt_91 : decode cX12_pointsAt 91 = .ok (.iload 9, 2) := by decide +kernel
theorem dX12_pointsAt_93 : decode cX12_pointsAt 93 = .ok (.istore 7, 2) := by decide +kernel
theorem dX12_pointsAt_95 : decode cX12_pointsAt 95 = .ok (.goto 7, 3) := by decide +kernel
theorem dX12_pointsAt_98 : decode cX12_pointsAt 98 = .ok (.iload 9, 2) := by decide +kernel
theorem dX12_pointsAt_100 : decode cX12_pointsAt 100 = .ok (.istore 8, 2) := by decide +kernel
theorem dX12_pointsAt_102 : decode cX12_pointsAt 102 = .ok (.goto (-41), 3) := by decide +kernel
theorem dX12_pointsAt_105 : decode cX12_pointsAt 105 = .ok (.aload_n 0, 1) := by decide +kernel
theorem dX12_pointsAt_106 : decode cX12_pointsAt 106 = .ok (.iload 7, 2) := by decide +kernel
theorem dX12_pointsAt_108 : decode cX12_pointsAt 108 = .ok (.sipush (-2000), 3) := by decide +kernel
theorem dX12_pointsAt_111 : decode cX12_pointsAt 111 = .ok (.if_icmp .ge 9, 3) := by decide +kernel
theorem dX12_pointsAt_114 : decode cX12_pointsAt 114 = .ok (.ldc_w 424, 3) := by decide +kernel
theorem dX12_pointsAt_117 : decode cX12_pointsAt 117 = .ok (.goto 5, 3) := by decide +kernel
theorem dX12_pointsAt_120 : decode cX12_pointsAt 120 = .ok (.iload 7, 2) := by decide +kernel
theorem dX12_pointsAt_122 : decode cX12_pointsAt 122 = .ok (.invokevirtual 117, 3) := by decide +kernel
theorem dX12_pointsAt_125 : decode cX12_pointsAt 125 = .ok (.ireturn, 1) := by decide +kernel
set_option maxRecDepth 20000 in
theorem ggX12_off_X12_refusedLong : GoodIn wsX12_off wsX12_refusedLong := goodIn_r _ [9, 10, 11, 12, 8, 13, 14, 15, 152, 153, 154, 155, 156, 157, 158, 159, 160, 161, 162, 163, 164, 165, 166, 167, 168, 169, 170, 171, 172, 173, 174, 175, 176, 177, 178, 179, 180, 181, 182, 183, 184, 185, 186, 187, 188, 189, 190, 191, 192, 193, 194, 195, 196, 197, 198, 199, 200, 201, 202, 203, 204, 205, 206, 207, 208, 209, 210, 211, 212, 213, 214, 215, 216, 217, 218, 219, 220] (by decide +kernel) (by decide +kernel)
set_option maxRecDepth 20000 in
theorem gX12_off_X12_refusedLong : GoodIn wsX12_off (wsV RX12 430 RX12 yX12_refusedLong wsX12_refusedLong) := goodIn_app (goodIn_of _ (by decide +kernel)) ggX12_off_X12_refusedLong
set_option maxRecDepth 20000 in
theorem ggX12_off_X12_in : GoodIn wsX12_off wsX12_in := goodIn_r _ [18] (by decide +kernel) (by decide +kernel)
set_option maxRecDepth 20000 in
theorem gX12_off_X12_in : GoodIn wsX12_off (va_wsS RX12 132 yX12_in wsX12_in) := goodIn_app (goodIn_of _ (by decide +kernel)) ggX12_off_X12_in
set_option maxRecDepth 20000 in
theorem ggX12_off_X12_offsFrom : GoodIn wsX12_off wsX12_offsFrom := goodIn_r _ [22, 4, 23, 24, 25, 26, 27, 28, 29, 30, 8, 31, 32, 33, 34, 35, 36, 37, 38, 39, 40, 41, 42, 43, 44, 45, 46, 47, 48, 49, 50, 51, 52, 53, 54, 55, 56, 57, 58, 59, 60, 61, 62, 63, 64, 65, 66, 67, 68, 69, 70, 71, 72, 73, 74, 75, 76, 77, 78, 79, 80, 81, 82, 83, 84, 85, 86, 87, 88, 89, 90, 91, 92, 93, 94, 95, 96, 97, 98, 99, 100, 101, 102, 103, 104, 105, 106, 107, 108, 109, 110, 111, 112, 113, 114, 115, 116, 117, 118, 119, 120, 121, 122, 123, 124, 125, 126, 127, 152, 153, 154, 155, 156, 157, 158, 159, 160, 161, 162, 163, 164, 165, 166, 167, 168, 169, 170, 171, 172, 173, 174, 175, 176, 177, 178, 179, 180, 181, 182, 183, 184, 185, 186, 187, 188, 189, 190, 191, 192, 193, 194, 195, 196, 197, 198, 199, 200, 201, 202, 203, 204, 205, 206, 207, 208, 209, 210, 211, 212, 213, 214, 215, 216, 217, 218, 219, 220] (by decide +kernel) (by decide +kernel)
set_option maxRecDepth 20000 in
theorem gX12_off_X12_offsFrom : GoodIn wsX12_off (wsV RX12 560 RX12 yX12_offsFrom wsX12_offsFrom) := goodIn_app (goodIn_of _ (by decide +kernel)) ggX12_off_X12_offsFrom
set_option maxRecDepth 20000 in
theorem ggX12_off_X12_goodBits : GoodIn wsX12_off wsX12_goodBits := goodIn_r _ [131, 132, 133, 134, 135, 136, 137, 138, 139, 140, 141, 142, 143, 144, 145, 146, 8, 147, 148, 149, 150, 151, 14, 15, 152, 153, 154, 155, 156, 157, 158, 159, 160, 161, 162, 163, 164, 165, 166, 167, 168, 169, 170, 171, 172, 173, 174, 175, 176, 177, 178, 179, 180, 181, 182, 183, 184, 185, 186, 187, 188, 189, 190, 191, 192, 193, 194, 195, 196, 197, 198, 199, 200, 201, 202, 203, 204, 205, 206, 207, 208, 209, 210, 211, 212, 213, 214, 215, 216, 217, 218, 219, 220] (by decide +kernel) (by decide +kernel)
set_option maxRecDepth 20000 in
theorem gX12_off_X12_goodBits : GoodIn wsX12_off (wsV RX12 524 RX12 yX12_goodBits wsX12_goodBits) := goodIn_app (goodIn_of _ (by decide +kernel)) ggX12_off_X12_goodBits
theorem dX12_off_0 : decode cX12_off 0 = .ok (.aload_n 0, 1) := by decide +kernel
theorem dX12_off_1 : decode cX12_off 1 = .ok (.iconst 0, 1) := by decide +kernel
theorem dX12_off_2 : decode cX12_off 2 = .ok (.putfield 107, 3) := by decide +kernel
theorem dX12_off_5 : decode cX12_off 5 = .ok (.aload_n 0, 1) := by decide +kernel
theorem dX12_off_6 : decode cX12_off 6 = .ok (.getfield 361, 3) := by decide +kernel
theorem dX12_off_9 : decode cX12_off 9 = .ok (.ifCond .ne 12, 3) := by decide +kernel
theorem dX12_off_12 : decode cX12_off 12 = .ok (.aload_n 0, 1) := by decide +kernel
theorem dX12_off_13 : decode cX12_off 13 = .ok (.iconst 1, 1) := by decide +kernel
theorem dX12_off_14 : decode cX12_off 14 = .ok (.ldc2_w 482, 3) := by decide +kernel
theorem dX12_off_17 : decode cX12_off 17 = .ok (.invokevirtual 430, 3) := by decide +kernel
theorem dX12_off_20 : decode cX12_off 20 = .ok (.lreturn, 1) := by decide +kernel
theorem dX12_off_21 : decode cX12_off 21 = .ok (.iload_n 1, 1) := by decide +kernel
theorem dX12_off_22 : decode cX12_off 22 = .ok (.iconst 0, 1) := by decide +kernel
theorem dX12_off_23 : decode cX12_off 23 = .ok (.sipush 2000, 3) := by decide +kernel
theorem dX12_off_26 : decode cX12_off 26 = .ok (.invokestatic 132, 3) := by decide +kernel
theorem dX12_off_29 : decode cX12_off 29 = .ok (.ifCond .ne 12, 3) := by decide +kernel
theorem dX12_off_32 : decode cX12_off 32 = .ok (.aload_n 0, 1) := by decide +kernel
theorem dX12_off_33 : decode cX12_off 33 = .ok (.iconst 2, 1) := by decide +kernel
theorem dX12_off_34 : decode cX12_off 34 = .ok (.ldc2_w 482, 3) := by decide +kernel
theorem dX12_off_37 : decode cX12_off 37 = .ok (.invokevirtual 430, 3) := by decide +kernel
theorem dX12_off_40 : decode cX12_off 40 = .ok (.lreturn, 1) := by decide +kernel
theorem dX12_off_41 : decode cX12_off 41 = .ok (.aload_n 0, 1) := by decide +kernel
theorem dX12_off_42 : decode cX12_off 42 = .ok (.iload_n 1, 1) := by decide +kernel
theorem dX12_off_43 : decode cX12_off 43 = .ok (.iload_n 1, 1) := by decide +kernel
theorem dX12_off_44 : decode cX12_off 44 = .ok (.invokevirtual 560, 3) := by decide +kernel
theorem dX12_off_47 : decode cX12_off 47 = .ok (.aload_n 0, 1) := by decide +kernel
theorem dX12_off_48 : decode cX12_off 48 = .ok (.aload_n 0, 1) := by decide +kernel
theorem dX12_off_49 : decode cX12_off 49 = .ok (.getfield 86, 3) := by decide +kernel
theorem dX12_off_52 : decode cX12_off 52 = .ok (.iload_n 1, 1) := by decide +kernel
theorem dX12_off_53 : decode cX12_off 53 = .ok (.daload, 1) := by decide +kernel
theorem dX12_off_54 : decode cX12_off 54 = .ok (.invokevirtual 524, 3) := by decide +kernel
theorem dX12_off_57 : decode cX12_off 57 = .ok (.lreturn, 1) := by decide +kernel
set_option maxRecDepth 20000 in
theorem ggX12_flat_X12_refused : GoodIn wsX12_flat wsX12_refused := goodIn_r _ [9, 10, 11, 124, 125, 126, 127, 128, 129, 130, 131, 132, 133, 134, 135, 136, 137, 138, 139, 140, 141, 142, 143, 144, 145, 146, 147, 148, 149, 150, 151, 152, 153, 154, 155, 156, 157, 158, 159, 160, 161, 162, 163, 164, 165, 166, 167, 168, 169, 170, 171, 172, 173, 174, 175, 176, 177, 178, 179, 180, 181, 182, 183, 184, 185, 186, 187, 188, 189, 190, 191, 192] (by decide +kernel) (by decide +kernel)
set_option maxRecDepth 20000 in
theorem gX12_flat_X12_refused : GoodIn wsX12_flat (wsV RX12 113 RX12 yX12_refused wsX12_refused) := goodIn_app (goodIn_of _ (by decide +kernel)) ggX12_flat_X12_refused
set_option maxRecDepth 20000 in
theorem ggX12_flat_X12_good : GoodIn wsX12_flat wsX12_good := goodIn_r _ [15, 10, 11, 124, 125, 126, 127, 128, 129, 130, 131, 132, 133, 134, 135, 136, 137, 138, 139, 140, 141, 142, 143, 144, 145, 146, 147, 148, 149, 150, 151, 152, 153, 154, 155, 156, 157, 158, 159, 160, 161, 162, 163, 164, 165, 166, 167, 168, 169, 170, 171, 172, 173, 174, 175, 176, 177, 178, 179, 180, 181, 182, 183, 184, 185, 186, 187, 188, 189, 190, 191, 192] (by decide +kernel) (by decide +kernel)
set_option maxRecDepth 20000 in
theorem gX12_flat_X12_good : GoodIn wsX12_flat (wsV RX12 117 RX12 yX12_good wsX12_good) := goodIn_app (goodIn_of _ (by decide +kernel)) ggX12_flat_X12_good
