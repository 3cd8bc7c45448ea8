set_option maxRecDepth 20000 in
theorem ggX12_worth_X12_goodBits : GoodIn wsX12_worth wsX12_goodBits := goodIn_r _ [130, 131, 132, 133, 134, 135, 136, 137, 138, 139, 140, 141, 142, 143, 144, 145, 12, 146, 147, 148, 149, 150, 18, 19, 151, 152, 153, 154, 155, 156, 157, 158, 159, 160, 161, 162, 163, 164, 165, 166, 167, 168, 169, 170, 171, 172, 173, 174, 175, 176, 177, 178, 179, 180, 181, 182, 183, 184, 185, 186, 187, 188, 189, 190, 191, 192, 193, 194, 195, 196, 197, 198, 199, 200, 201, 202, 203, 204, 205, 206, 207, 208, 209, 210, 211, 212, 213, 214, 215, 216, 217, 218, 219] (by decide +kernel) (by decide +kernel)
set_option maxRecDepth 20000 in
theorem gX12_worth_X12_goodBits : GoodIn wsX12_worth (wsV RX12 524 RX12 yX12_goodBits wsX12_goodBits) := goodIn_app (goodIn_of _ (by decide +kernel)) ggX12_worth_X12_goodBits
theorem dX12_worth_0 : decode cX12_worth 0 = .ok (.aload_n 0, 1) := by decide +kernel
theorem dX12_worth_1 : decode cX12_worth 1 = .ok (.iconst 0, 1) := by decide +kernel
theorem dX12_worth_2 : decode cX12_worth 2 = .ok (.putfield 107, 3) := by decide +kernel
theorem dX12_worth_5 : decode cX12_worth 5 = .ok (.aload_n 0, 1) := by decide +kernel
theorem dX12_worth_6 : decode cX12_worth 6 = .ok (.getfield 361, 3) := by decide +kernel
theorem dX12_worth_9 : decode cX12_worth 9 = .ok (.ifCond .ne 12, 3) := by decide +kernel
theorem dX12_worth_12 : decode cX12_worth 12 = .ok (.aload_n 0, 1) := by decide +kernel
theorem dX12_worth_13 : decode cX12_worth 13 = .ok (.iconst 1, 1) := by decide +kernel
theorem dX12_worth_14 : decode cX12_worth 14 = .ok (.ldc2_w 482, 3) := by decide +kernel
theorem dX12_worth_17 : decode cX12_worth 17 = .ok (.invokevirtual 430, 3) := by decide +kernel
theorem dX12_worth_20 : decode cX12_worth 20 = .ok (.lreturn, 1) := by decide +kernel
theorem dX12_worth_21 : decode cX12_worth 21 = .ok (.iload_n 1, 1) := by decide +kernel
theorem dX12_worth_22 : decode cX12_worth 22 = .ok (.invokestatic 515, 3) := by decide +kernel
theorem dX12_worth_25 : decode cX12_worth 25 = .ok (.ifCond .ne 12, 3) := by decide +kernel
theorem dX12_worth_28 : decode cX12_worth 28 = .ok (.aload_n 0, 1) := by decide +kernel
theorem dX12_worth_29 : decode cX12_worth 29 = .ok (.iconst 2, 1) := by decide +kernel
theorem dX12_worth_30 : decode cX12_worth 30 = .ok (.ldc2_w 482, 3) := by decide +kernel
theorem dX12_worth_33 : decode cX12_worth 33 = .ok (.invokevirtual 430, 3) := by decide +kernel
theorem dX12_worth_36 : decode cX12_worth 36 = .ok (.lreturn, 1) := by decide +kernel
theorem dX12_worth_37 : decode cX12_worth 37 = .ok (.aload_n 0, 1) := by decide +kernel
theorem dX12_worth_38 : decode cX12_worth 38 = .ok (.getfield 380, 3) := by decide +kernel
theorem dX12_worth_41 : decode cX12_worth 41 = .ok (.l2d, 1) := by decide +kernel
theorem dX12_worth_42 : decode cX12_worth 42 = .ok (.ldc2_w 503, 3) := by decide +kernel
theorem dX12_worth_45 : decode cX12_worth 45 = .ok (.ddiv, 1) := by decide +kernel
theorem dX12_worth_46 : decode cX12_worth 46 = .ok (.dstore_n 2, 1) := by decide +kernel
theorem dX12_worth_47 : decode cX12_worth 47 = .ok (.iconst 0, 1) := by decide +kernel
theorem dX12_worth_48 : decode cX12_worth 48 = .ok (.istore 4, 2) := by decide +kernel
theorem dX12_worth_50 : decode cX12_worth 50 = .ok (.iload 4, 2) := by decide +kernel
theorem dX12_worth_52 : decode cX12_worth 52 = .ok (.aload_n 0, 1) := by decide +kernel
theorem dX12_worth_53 : decode cX12_worth 53 = .ok (.getfield 358, 3) := by decide +kernel
theorem dX12_worth_56 : decode cX12_worth 56 = .ok (.if_icmp .ge 55, 3) := by decide +kernel
theorem dX12_worth_59 : decode cX12_worth 59 = .ok (.aload_n 0, 1) := by decide +kernel
theorem dX12_worth_60 : decode cX12_worth 60 = .ok (.iload 4, 2) := by decide +kernel
theorem dX12_worth_62 : decode cX12_worth 62 = .ok (.aload_n 0, 1) := by decide +kernel
theorem dX12_worth_63 : decode cX12_worth 63 = .ok (.getfield 377, 3) := by decide +kernel
theorem dX12_worth_66 : decode cX12_worth 66 = .ok (.invokevirtual 468, 3) := by decide +kernel
theorem dX12_worth_69 : decode cX12_worth 69 = .ok (.ifCond .ne 6, 3) := by decide +kernel
theorem dX12_worth_72 : decode cX12_worth 72 = .ok (.goto 33, 3) := by decide +kernel
theorem dX12_worth_75 : decode cX12_worth 75 = .ok (.aload_n 0, 1) := by decide +kernel
theorem dX12_worth_76 : decode cX12_worth 76 = .ok (.iload 4, 2) := by decide +kernel
theorem dX12_worth_78 : decode cX12_worth 78 = .ok (.aload_n 0, 1) := by decide +kernel
theorem dX12_worth_79 : decode cX12_worth 79 = .ok (.getfield 377, 3) := by decide +kernel
theorem dX12_worth_82 : decode cX12_worth 82 = .ok (.invokevirtual 521, 3) := by decide +kernel
theorem dX12_worth_85 : decode cX12_worth 85 = .ok (.dload_n 2, 1) := by decide +kernel
theorem dX12_worth_86 : decode cX12_worth 86 = .ok (.aload_n 0, 1) := by decide +kernel
theorem dX12_worth_87 : decode cX12_worth 87 = .ok (.getfield 89, 3) := by decide +kernel
theorem dX12_worth_90 : decode cX12_worth 90 = .ok (.iload 4, 2) := by decide +kernel
theorem dX12_worth_92 : decode cX12_worth 92 = .ok (.iaload, 1) := by decide +kernel
theorem dX12_worth_93 : decode cX12_worth 93 = .ok (.i2d, 1) := by decide +kernel
theorem dX12_worth_94 : decode cX12_worth 94 = .ok (.aload_n 0, 1) := by decide +kernel
theorem dX12_worth_95 : decode cX12_worth 95 = .ok (.iload_n 1, 1) := by decide +kernel
theorem dX12_worth_96 : decode cX12_worth 96 = .ok (.invokestatic 507, 3) := by decide +kernel
theorem dX12_worth_99 : decode cX12_worth 99 = .ok (.invokevirtual 511, 3) := by decide +kernel
theorem dX12_worth_102 : decode cX12_worth 102 = .ok (.dmul, 1) := by decide +kernel
theorem dX12_worth_103 : decode cX12_worth 103 = .ok (.dadd, 1) := by decide +kernel
theorem dX12_worth_104 : decode cX12_worth 104 = .ok (.dstore_n 2, 1) := by decide +kernel
theorem dX12_worth_105 : decode cX12_worth 105 = .ok (.iinc 4 1, 3) := by decide +kernel
theorem dX12_worth_108 : decode cX12_worth 108 = .ok (.goto (-58), 3) := by decide +kernel
theorem dX12_worth_111 : decode cX12_worth 111 = .ok (.aload_n 0, 1) := by decide +kernel
theorem dX12_worth_112 : decode cX12_worth 112 = .ok (.dload_n 2, 1) := by decide +kernel
theorem dX12_worth_113 : decode cX12_worth 113 = .ok (.invokevirtual 524, 3) := by decide +kernel
theorem dX12_worth_116 : decode cX12_worth 116 = .ok (.lreturn, 1) := by decide +kernel
set_option maxRecDepth 20000 in
theorem ggX12_deal_X12_isBond : GoodIn wsX12_deal wsX12_isBond := goodIn_r _ [11, 12, 115, 116, 117, 118, 119, 120, 121, 122, 123, 124, 125, 126, 127, 128, 129, 130, 131, 132, 133, 134, 135, 136, 137, 138, 139, 140, 141, 142, 143, 144, 145, 146, 147, 148, 149, 150, 151, 152, 153, 154, 155, 156, 157, 158, 159, 160, 161, 162, 163, 164, 165, 166, 167, 168, 169, 170, 171, 172, 173, 174, 175, 176, 177, 178, 179, 180, 181, 182, 183] (by decide +kernel) (by decide +kernel)
set_option maxRecDepth 20000 in
theorem gX12_deal_X12_isBond : GoodIn wsX12_deal (wsV RX12 438 RX12 yX12_isBond wsX12_isBond) := goodIn_app (goodIn_of _ (by decide +kernel)) ggX12_deal_X12_isBond
set_option maxRecDepth 20000 in
theorem ggX12_deal_X12_refusedLong : GoodIn wsX12_deal wsX12_refusedLong := goodIn_r _ [16, 17, 18, 19, 10, 20, 21, 22, 115, 116, 117, 118, 119, 120, 121, 122, 123, 124, 125, 126, 127, 128, 129, 130, 131, 132, 133, 134, 135, 136, 137, 138, 139, 140, 141, 142, 143, 144, 145, 146, 147, 148, 149, 150, 151, 152, 153, 154, 155, 156, 157, 158, 159, 160, 161, 162, 163, 164, 165, 166, 167, 168, 169, 170, 171, 172, 173, 174, 175, 176, 177, 178, 179, 180, 181, 182, 183] (by decide +kernel) (by decide +kernel)
set_option maxRecDepth 20000 in
theorem gX12_deal_X12_refusedLong : GoodIn wsX12_deal (wsV RX12 430 RX12 yX12_refusedLong wsX12_refusedLong) := goodIn_app (goodIn_of _ (by decide +kernel)) ggX12_deal_X12_refusedLong
set_option maxRecDepth 20000 in
theorem ggX12_deal_X12_in : GoodIn wsX12_deal wsX12_in := goodIn_r _ [25] (by decide +kernel) (by decide +kernel)
set_option maxRecDepth 20000 in
theorem gX12_deal_X12_in : GoodIn wsX12_deal (va_wsS RX12 132 yX12_in wsX12_in) := goodIn_app (goodIn_of _ (by decide +kernel)) ggX12_deal_X12_in
set_option maxRecDepth 20000 in
theorem ggX12_deal_X12_goodLong : GoodIn wsX12_deal wsX12_goodLong := goodIn_r _ [110, 111, 112, 113, 10, 114, 21, 22, 115, 116, 117, 118, 119, 120, 121, 122, 123, 124, 125, 126, 127, 128, 129, 130, 131, 132, 133, 134, 135, 136, 137, 138, 139, 140, 141, 142, 143, 144, 145, 146, 147, 148, 149, 150, 151, 152, 153, 154, 155, 156, 157, 158, 159, 160, 161, 162, 163, 164, 165, 166, 167, 168, 169, 170, 171, 172, 173, 174, 175, 176, 177, 178, 179, 180, 181, 182, 183] (by decide +kernel) (by decide +kernel)
set_option maxRecDepth 20000 in
theorem gX12_deal_X12_goodLong : GoodIn wsX12_deal (wsV RX12 126 RX12 yX12_goodLong wsX12_goodLong) := goodIn_app (goodIn_of _ (by decide +kernel)) ggX12_deal_X12_goodLong
theorem dX12_deal_0 : decode cX12_deal 0 = .ok (.aload_n 0, 1) := by decide +kernel
theorem dX12_deal_1 : decode cX12_deal 1 = .ok (.iconst 0, 1) := by decide +kernel
theorem dX12_deal_2 : decode cX12_deal 2 = .ok (.putfield 107, 3) := by decide +kernel
theorem dX12_deal_5 : decode cX12_deal 5 = .ok (.aload_n 0, 1) := by decide +kernel
theorem dX12_deal_6 : decode cX12_deal 6 = .ok (.iload_n 1, 1) := by decide +kernel
theorem dX12_deal_7 : decode cX12_deal 7 = .ok (.invokevirtual 438, 3) := by decide +kernel
theorem dX12_deal_10 : decode cX12_deal 10 = .ok (.ifCond .ne 12, 3) := by decide +kernel
theorem dX12_deal_13 : decode cX12_deal 13 = .ok (.aload_n 0, 1) := by decide +kernel
theorem dX12_deal_14 : decode cX12_deal 14 = .ok (.iconst 1, 1) := by decide +kernel
theorem dX12_deal_15 : decode cX12_deal 15 = .ok (.ldc2_w 482, 3) := by decide +kernel
theorem dX12_deal_18 : decode cX12_deal 18 = .ok (.invokevirtual 430, 3) := by decide +kernel
theorem dX12_deal_21 : decode cX12_deal 21 = .ok (.lreturn, 1) := by decide +kernel
theorem dX12_deal_22 : decode cX12_deal 22 = .ok (.iload_n 2, 1) := by decide +kernel
theorem dX12_deal_23 : decode cX12_deal 23 = .ok (.sipush (-9999), 3) := by decide +kernel
theorem dX12_deal_26 : decode cX12_deal 26 = .ok (.sipush 9999, 3) := by decide +kernel
theorem dX12_deal_29 : decode cX12_deal 29 = .ok (.invokestatic 132, 3) := by decide +kernel
theorem dX12_deal_32 : decode cX12_deal 32 = .ok (.ifCond .eq 18, 3) := by decide +kernel
theorem dX12_deal_35 : decode cX12_deal 35 = .ok (.iload_n 2, 1) := by decide +kernel
theorem dX12_deal_36 : decode cX12_deal 36 = .ok (.ifCond .eq 14, 3) := by decide +kernel
theorem dX12_deal_39 : decode cX12_deal 39 = .ok (.iload_n 3, 1) := by decide +kernel
theorem dX12_deal_40 : decode cX12_deal 40 = .ok (.iconst 1, 1) := by decide +kernel
theorem dX12_deal_41 : decode cX12_deal 41 = .ok (.ldc_w 348, 3) := by decide +kernel
theorem dX12_deal_44 : decode cX12_deal 44 = .ok (.invokestatic 132, 3) := by decide +kernel
theorem dX12_deal_47 : decode cX12_deal 47 = .ok (.ifCond .ne 12, 3) := by decide +kernel
theorem dX12_deal_50 : decode cX12_deal 50 = .ok (.aload_n 0, 1) := by decide +kernel
theorem dX12_deal_51 : decode cX12_deal 51 = .ok (.iconst 2, 1) := by decide +kernel
theorem dX12_deal_52 : decode cX12_deal 52 = .ok (.ldc2_w 482, 3) := by decide +kernel
theorem dX12_deal_55 : decode cX12_deal 55 = .ok (.invokevirtual 430, 3) := by decide +kernel
theorem dX12_deal_58 : decode cX12_deal 58 = .ok (.lreturn, 1) := by decide +kernel
theorem dX12_deal_59 : decode cX12_deal 59 = .ok (.aload_n 0, 1) := by decide +kernel
theorem dX12_deal_60 : decode cX12_deal 60 = .ok (.iload_n 1, 1) := by decide +kernel
theorem dX12_deal_61 : decode cX12_deal 61 = .ok (.aload_n 0, 1) := by decide +kernel
theorem dX12_deal_62 : decode cX12_deal 62 = .ok (.getfield 377, 3) := by decide +kernel
theorem dX12_deal_65 : decode cX12_deal 65 = .ok (.invokevirtual 468, 3) := by decide +kernel
theorem dX12_deal_68 : decode cX12_deal 68 = .ok (.ifCond .ne 12, 3) := by decide +kernel
theorem dX12_deal_71 : decode cX12_deal 71 = .ok (.aload_n 0, 1) := by decide +kernel
theorem dX12_deal_72 : decode cX12_deal 72 = .ok (.iconst 5, 1) := by decide +kernel
theorem dX12_deal_73 : decode cX12_deal 73 = .ok (.ldc2_w 482, 3) := by decide +kernel
theorem dX12_deal_76 : decode cX12_deal 76 = .ok (.invokevirtual 430, 3) := by decide +kernel
theorem dX12_deal_79 : decode cX12_deal 79 = .ok (.lreturn, 1) := by decide +kernel
theorem dX12_deal_80 : decode cX12_deal 80 = .ok (.aload_n 0, 1) := by decide +kernel
theorem dX12_deal_81 : decode cX12_deal 81 = .ok (.getfield 89, 3) := by decide +kernel
theorem dX12_deal_84 : decode cX12_deal 84 = .ok (.iload_n 1, 1) := by decide +kernel
theorem dX12_deal_85 : decode cX12_deal 85 = .ok (.iaload, 1) := by decide +kernel
theorem dX12_deal_86 : decode cX12_deal 86 = .ok (.iload_n 2, 1) := by decide +kernel
theorem dX12_deal_87 : decode cX12_deal 87 = .ok (.iadd, 1) := by decide +kernel
theorem dX12_deal_88 : decode cX12_deal 88 = .ok (.iconst 0, 1) := by decide +kernel
theorem dX12_deal_89 : decode cX12_deal 89 = .ok (.sipush 9999, 3) := by decide +kernel
theorem dX12_deal_92 : decode cX12_deal 92 = .ok (.invokestatic 132, 3) := by decide +kernel
theorem dX12_deal_95 : decode cX12_deal 95 = .ok (.ifCond .ne 12, 3) := by decide +kernel
theorem dX12_deal_98 : decode cX12_deal 98 = .ok (.aload_n 0, 1) := by decide +kernel
theorem dX12_deal_99 : decode cX12_deal 99 = .ok (.iconst 3, 1) := by decide +kernel
theorem dX12_deal_100 : decode cX12_deal 100 = .ok (.ldc2_w 482, 3) := by decide +kernel
theorem dX12_deal_103 : decode cX12_deal 103 = .ok (.invokevirtual 430, 3) := by decide +kernel
theorem dX12_deal_106 : decode cX12_deal 106 = .ok (.lreturn, 1) := by decide +kernel
theorem dX12_deal_107 : decode cX12_deal 107 = .ok (.aload_n 0, 1) := by decide +kernel
theorem dX12_deal_108 : decode cX12_deal 108 = .ok (.iload_n 1, 1) := by decide +kernel
theorem dX12_deal_109 : decode cX12_deal 109 = .ok (.aload_n 0, 1) := by decide +kernel
theorem dX12_deal_110 : decode cX12_deal 110 = .ok (.getfield 377, 3) := by decide +kernel
theorem dX12_deal_113 : decode cX12_deal 113 = .ok (.invokevirtual 484, 3) := by decide +kernel
theorem dX12_deal_116 : decode cX12_deal 116 = .ok (.iload_n 2, 1) := by decide +kernel
theorem dX12_deal_117 : decode cX12_deal 117 = .ok (.i2l, 1) := by decide +kernel
theorem dX12_deal_118 : decode cX12_deal 118 = .ok (.iload_n 3, 1) := by decide +kernel
theorem dX12_deal_119 : decode cX12_deal 119 = .ok (.i2l, 1) := by decide +kernel
theorem dX12_deal_120 : decode cX12_deal 120 = .ok (.lmul, 1) := by decide +kernel
theorem dX12_deal_121 : decode cX12_deal 121 = .ok (.aload_n 0, 1) := by decide +kernel
theorem dX12_deal_122 : decode cX12_deal 122 = .ok (.iload_n 2, 1) := by decide +kernel
theorem dX12_deal_123 : decode cX12_deal 123 = .ok (.invokevirtual 563, 3) := by decide +kernel
theorem dX12_deal_126 : decode cX12_deal 126 = .ok (.ladd, 1) := by decide +kernel
theorem dX12_deal_127 : decode cX12_deal 127 = .ok (.lstore 4, 2) := by decide +kernel
theorem dX12_deal_129 : decode cX12_deal 129 = .ok (.aload_n 0, 1) := by decide +kernel
theorem dX12_deal_130 : decode cX12_deal 130 = .ok (.getfield 89, 3) := by decide +kernel
theorem dX12_deal_133 : decode cX12_deal 133 = .ok (.iload_n 1, 1) := by decide +kernel
theorem dX12_deal_134 : decode cX12_deal 134 = .ok (.dup2, 1) := by decide +kernel
theorem dX12_deal_135 : decode cX12_deal 135 = .ok (.iaload, 1) := by decide +kernel
theorem dX12_deal_136 : decode cX12_deal 136 = .ok (.iload_n 2, 1) := by decide +kernel
theorem dX12_deal_137 : decode cX12_deal 137 = .ok (.iadd, 1) := by decide +kernel
theorem dX12_deal_138 : decode cX12_deal 138 = .ok (.iastore, 1) := by decide +kernel
theorem dX12_deal_139 : decode cX12_deal 139 = .ok (.aload_n 0, 1) := by decide +kernel
theorem dX12_deal_140 : decode cX12_deal 140 = .ok (.dup, 1) := by decide +kernel
theorem dX12_deal_141 : decode cX12_deal 141 = .ok (.getfield 380, 3) := by decide +kernel
theorem dX12_deal_144 : decode cX12_deal 144 = .ok (.lload 4, 2) := by decide +kernel
theorem dX12_deal_146 : decode cX12_deal 146 = .ok (.lsub, 1) := by decide +kernel
theorem dX12_deal_147 : decode cX12_deal 147 = .ok (.putfield 380, 3) := by decide +kernel
theorem dX12_deal_150 : decode cX12_deal 150 = .ok (.aload_n 0, 1) := by decide +kernel
theorem dX12_deal_151 : decode cX12_deal 151 = .ok (.lload 4, 2) := by decide +kernel
theorem dX12_deal_153 : decode cX12_deal 153 = .ok (.invokevirtual 126, 3) := by decide +kernel
theorem dX12_deal_156 : decode cX12_deal 156 = .ok (.lreturn, 1) := by decide +kernel
set_option maxRecDepth 20000 in
theorem ggX12_refusesDays_X12_in : GoodIn wsX12_refusesDays wsX12_in := goodIn_r _ [7] (by decide +kernel) (by decide +kernel)
set_option maxRecDepth 20000 in
theorem gX12_refusesDays_X12_in : GoodIn wsX12_refusesDays (va_wsS RX12 132 yX12_in wsX12_in) := goodIn_app (goodIn_of _ (by decide +kernel)) ggX12_refusesDays_X12_in
set_option maxRecDepth 20000 in
theorem ggX12_refusesDays_X12_dayOf : GoodIn wsX12_refusesDays wsX12_dayOf := goodIn_r _ [10, 11, 12, 6, 13] (by decide +kernel) (by decide +kernel)
set_option maxRecDepth 20000 in
theorem gX12_refusesDays_X12_dayOf : GoodIn wsX12_refusesDays (va_wsS RX12 143 yX12_dayOf wsX12_dayOf) := goodIn_app (goodIn_of _ (by decide +kernel)) ggX12_refusesDays_X12_dayOf
theorem dX12_refusesDays_0 : decode cX12_refusesDays 0 = .ok (.aload_n 0, 1) := by decide +kernel
theorem dX12_refusesDays_1 : decode cX12_refusesDays 1 = .ok (.getfield 361, 3) := by decide +kernel
theorem dX12_refusesDays_4 : decode cX12_refusesDays 4 = .ok (.ifCond .ne 5, 3) := by decide +kernel
theorem dX12_refusesDays_7 : decode cX12_refusesDays 7 = .ok (.iconst 1, 1) := by decide +kernel
theorem dX12_refusesDays_8 : decode cX12_refusesDays 8 = .ok (.ireturn, 1) := by decide +kernel
theorem dX12_refusesDays_9 : decode cX12_refusesDays 9 = .ok (.iload_n 1, 1) := by decide +kernel
theorem dX12_refusesDays_10 : decode cX12_refusesDays 10 = .ok (.iconst 1, 1) := by decide +kernel
theorem dX12_refusesDays_11 : decode cX12_refusesDays 11 = .ok (.sipush 4000, 3) := by decide +kernel
theorem dX12_refusesDays_14 : decode cX12_refusesDays 14 = .ok (.invokestatic 132, 3) := by decide +kernel
theorem dX12_refusesDays_17 : decode cX12_refusesDays 17 = .ok (.ifCond .eq 24, 3) := by decide +kernel
theorem dX12_refusesDays_20 : decode cX12_refusesDays 20 = .ok (.aload_n 0, 1) := by decide +kernel
theorem dX12_refusesDays_21 : decode cX12_refusesDays 21 = .ok (.getfield 377, 3) := by decide +kernel
theorem dX12_refusesDays_24 : decode cX12_refusesDays 24 = .ok (.invokestatic 143, 3) := by decide +kernel
theorem dX12_refusesDays_27 : decode cX12_refusesDays 27 = .ok (.iload_n 1, 1) := by decide +kernel
theorem dX12_refusesDays_28 : decode cX12_refusesDays 28 = .ok (.iadd, 1) := by decide +kernel
theorem dX12_refusesDays_29 : decode cX12_refusesDays 29 = .ok (.ldc 131, 2) := by decide +kernel
theorem dX12_refusesDays_31 : decode cX12_refusesDays 31 = .ok (.invokestatic 143, 3) := by decide +kernel
theorem dX12_refusesDays_34 : decode cX12_refusesDays 34 = .ok (.if_icmp .gt 7, 3) := by decide +kernel
theorem dX12_refusesDays_37 : decode cX12_refusesDays 37 = .ok (.iconst 0, 1) := by decide +kernel
theorem dX12_refusesDays_38 : decode cX12_refusesDays 38 = .ok (.goto 4, 3) := by decide +kernel
theorem dX12_refusesDays_41 : decode cX12_refusesDays 41 = .ok (.iconst 2, 1) := by decide +kernel
theorem dX12_refusesDays_42 : decode cX12_refusesDays 42 = .ok (.ireturn, 1) := by decide +kernel
set_option maxRecDepth 20000 in
theorem ggX12_go_X12_refusesDays : GoodIn wsX12_go wsX12_refusesDays := goodIn_r _ [7, 8, 9, 10, 11, 12, 6, 13, 14, 15, 16, 17, 18, 19, 118, 119, 120, 121, 122, 123, 124, 125, 126, 127, 128, 129, 130, 131, 132, 133, 134, 135, 136, 137, 138, 139, 140, 141, 142, 143, 144, 145, 146, 147, 148, 149, 150, 151, 152, 153, 154, 155, 156, 157, 158, 159, 160, 161, 162, 163, 164, 165, 166, 167, 168, 169, 170, 171, 172, 173, 174, 175, 176, 177, 178, 179, 180, 181, 182, 183, 184, 185, 186] (by decide +kernel) (by decide +kernel)
set_option maxRecDepth 20000 in
theorem gX12_go_X12_refusesDays : GoodIn wsX12_go (wsV RX12 577 RX12 yX12_refusesDays wsX12_refusesDays) := goodIn_app (goodIn_of _ (by decide +kernel)) ggX12_go_X12_refusesDays
set_option maxRecDepth 20000 in
theorem ggX12_go_X12_refusedLong : GoodIn wsX12_go wsX12_refusedLong := goodIn_r _ [23, 24, 25, 26, 6, 27, 28, 29, 118, 119, 120, 121, 122, 123, 124, 125, 126, 127, 128, 129, 130, 131, 132, 133, 134, 135, 136, 137, 138, 139, 140, 141, 142, 143, 144, 145, 146, 147, 148, 149, 150, 151, 152, 153, 154, 155, 156, 157, 158, 159, 160, 161, 162, 163, 164, 165, 166, 167, 168, 169, 170, 171, 172, 173, 174, 175, 176, 177, 178, 179, 180, 181, 182, 183, 184, 185, 186] (by decide +kernel) (by decide +kernel)
set_option maxRecDepth 20000 in
theorem gX12_go_X12_refusedLong : GoodIn wsX12_go (wsV RX12 430 RX12 yX12_refusedLong wsX12_refusedLong) := goodIn_app (goodIn_of _ (by decide +kernel)) ggX12_go_X12_refusedLong
set_option maxRecDepth 20000 in
theorem ggX12_go_X12_goesDays : GoodIn wsX12_go wsX12_goesDays := goodIn_r _ [33, 34, 35, 36, 6, 37, 9, 38, 39, 40, 41, 42, 43, 44, 14, 15, 16, 17, 18, 19, 45, 46, 47, 48, 49, 50, 51, 52, 53, 54, 55, 56, 57, 58, 59, 60, 61, 62, 63, 64, 65, 66, 67, 68, 69, 70, 71, 72, 73, 74, 75, 76, 77, 78, 79, 80, 81, 82, 83, 84, 85, 86, 87, 88, 89, 90, 91, 92, 93, 94, 95, 96, 97, 98, 99, 100, 101, 102, 103, 104, 105, 106, 107, 108, 109, 118, 119, 120, 121, 122, 123, 124, 125, 126, 127, 128, 129, 130, 131, 132, 133, 134, 135, 136, 137, 138, 139, 140, 141, 142, 143, 144, 145, 146, 147, 148, 149, 150, 151, 152, 153, 154, 155, 156, 157, 158, 159, 160, 161, 162, 163, 164, 165, 166, 167, 168, 169, 170, 171, 172, 173, 174, 175, 176, 177, 178, 179, 180, 181, 182, 183, 184, 185, 186] (by decide +kernel) (by decide +kernel)
set_option maxRecDepth 20000 in
theorem gX12_go_X12_goesDays : GoodIn wsX12_go (wsV RX12 580 RX12 yX12_goesDays wsX12_goesDays) := goodIn_app (goodIn_of _ (by decide +kernel)) ggX12_go_X12_goesDays
set_option maxRecDepth 20000 in
theorem ggX12_go_X12_goodLong : GoodIn wsX12_go wsX12_goodLong := goodIn_r _ [113, 114, 115, 116, 6, 117, 28, 29, 118, 119, 120, 121, 122, 123, 124, 125, 126, 127, 128, 129, 130, 131, 132, 133, 134, 135, 136, 137, 138, 139, 140, 141, 142, 143, 144, 145, 146, 147, 148, 149, 150, 151, 152, 153, 154, 155, 156, 157, 158, 159, 160, 161, 162, 163, 164, 165, 166, 167, 168, 169, 170, 171, 172, 173, 174, 175, 176, 177, 178, 179, 180, 181, 182, 183, 184, 185, 186] (by decide +kernel) (by decide +kernel)
set_option maxRecDepth 20000 in
theorem gX12_go_X12_goodLong : GoodIn wsX12_go (wsV RX12 126 RX12 yX12_goodLong wsX12_goodLong) := goodIn_app (goodIn_of _ (by decide +kernel)) ggX12_go_X12_goodLong
theorem dX12_go_0 : decode cX12_go 0 = .ok (.aload_n 0, 1) := by decide +kernel
theorem dX12_go_1 : decode cX12_go 1 = .ok (.iconst 0, 1) := by decide +kernel
theorem dX12_go_2 : decode cX12_go 2 = .ok (.putfield 107, 3) := by decide +kernel
theorem dX12_go_5 : decode cX12_go 5 = .ok (.aload_n 0, 1) := by decide +kernel
