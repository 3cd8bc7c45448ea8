theorem dX11_cheapest_32 : decode cX11_cheapest 32 = .ok (.getfield 328, 3) := by decide +kernel
theorem dX11_cheapest_35 : decode cX11_cheapest 35 = .ok (.if_icmp .ge 93, 3) := by decide +kernel
theorem dX11_cheapest_38 : decode cX11_cheapest 38 = .ok (.iload 4, 2) := by decide +kernel
theorem dX11_cheapest_40 : decode cX11_cheapest 40 = .ok (.aload_n 0, 1) := by decide +kernel
theorem dX11_cheapest_41 : decode cX11_cheapest 41 = .ok (.getfield 60, 3) := by decide +kernel
theorem dX11_cheapest_44 : decode cX11_cheapest 44 = .ok (.getfield 338, 3) := by decide +kernel
theorem dX11_cheapest_47 : decode cX11_cheapest 47 = .ok (.arraylength, 1) := by decide +kernel
theorem dX11_cheapest_48 : decode cX11_cheapest 48 = .ok (.if_icmp .ge 80, 3) := by decide +kernel
theorem dX11_cheapest_51 : decode cX11_cheapest 51 = .ok (.aload_n 0, 1) := by decide +kernel
theorem dX11_cheapest_52 : decode cX11_cheapest 52 = .ok (.getfield 26, 3) := by decide +kernel
theorem dX11_cheapest_55 : decode cX11_cheapest 55 = .ok (.aload_n 0, 1) := by decide +kernel
theorem dX11_cheapest_56 : decode cX11_cheapest 56 = .ok (.getfield 60, 3) := by decide +kernel
theorem dX11_cheapest_59 : decode cX11_cheapest 59 = .ok (.getfield 338, 3) := by decide +kernel
theorem dX11_cheapest_62 : decode cX11_cheapest 62 = .ok (.iload 4, 2) := by decide +kernel
theorem dX11_cheapest_64 : decode cX11_cheapest 64 = .ok (.aaload, 1) := by decide +kernel
theorem dX11_cheapest_65 : decode cX11_cheapest 65 = .ok (.aload_n 0, 1) := by decide +kernel
theorem dX11_cheapest_66 : decode cX11_cheapest 66 = .ok (.getfield 60, 3) := by decide +kernel
theorem dX11_cheapest_69 : decode cX11_cheapest 69 = .ok (.getfield 318, 3) := by decide +kernel
theorem dX11_cheapest_72 : decode cX11_cheapest 72 = .ok (.iload 4, 2) := by decide +kernel
theorem dX11_cheapest_74 : decode cX11_cheapest 74 = .ok (.iaload, 1) := by decide +kernel
theorem dX11_cheapest_75 : decode cX11_cheapest 75 = .ok (.invokevirtual 289, 3) := by decide +kernel
theorem dX11_cheapest_78 : decode cX11_cheapest 78 = .ok (.ifCond .ne 6, 3) := by decide +kernel
theorem dX11_cheapest_81 : decode cX11_cheapest 81 = .ok (.goto 41, 3) := by decide +kernel
theorem dX11_cheapest_84 : decode cX11_cheapest 84 = .ok (.aload_n 0, 1) := by decide +kernel
theorem dX11_cheapest_85 : decode cX11_cheapest 85 = .ok (.getfield 26, 3) := by decide +kernel
theorem dX11_cheapest_88 : decode cX11_cheapest 88 = .ok (.bipush 40, 2) := by decide +kernel
theorem dX11_cheapest_90 : decode cX11_cheapest 90 = .ok (.invokevirtual 292, 3) := by decide +kernel
theorem dX11_cheapest_93 : decode cX11_cheapest 93 = .ok (.iload_n 1, 1) := by decide +kernel
theorem dX11_cheapest_94 : decode cX11_cheapest 94 = .ok (.bipush (-2), 2) := by decide +kernel
theorem dX11_cheapest_96 : decode cX11_cheapest 96 = .ok (.if_icmp .eq 15, 3) := by decide +kernel
theorem dX11_cheapest_99 : decode cX11_cheapest 99 = .ok (.aload_n 0, 1) := by decide +kernel
theorem dX11_cheapest_100 : decode cX11_cheapest 100 = .ok (.getfield 26, 3) := by decide +kernel
theorem dX11_cheapest_103 : decode cX11_cheapest 103 = .ok (.getfield 299, 3) := by decide +kernel
theorem dX11_cheapest_106 : decode cX11_cheapest 106 = .ok (.dload_n 2, 1) := by decide +kernel
theorem dX11_cheapest_107 : decode cX11_cheapest 107 = .ok (.dcmp .l, 1) := by decide +kernel
theorem dX11_cheapest_108 : decode cX11_cheapest 108 = .ok (.ifCond .le 14, 3) := by decide +kernel
theorem dX11_cheapest_111 : decode cX11_cheapest 111 = .ok (.iload 4, 2) := by decide +kernel
theorem dX11_cheapest_113 : decode cX11_cheapest 113 = .ok (.istore_n 1, 1) := by decide +kernel
theorem dX11_cheapest_114 : decode cX11_cheapest 114 = .ok (.aload_n 0, 1) := by decide +kernel
theorem dX11_cheapest_115 : decode cX11_cheapest 115 = .ok (.getfield 26, 3) := by decide +kernel
theorem dX11_cheapest_118 : decode cX11_cheapest 118 = .ok (.getfield 299, 3) := by decide +kernel
theorem dX11_cheapest_121 : decode cX11_cheapest 121 = .ok (.dstore_n 2, 1) := by decide +kernel
theorem dX11_cheapest_122 : decode cX11_cheapest 122 = .ok (.iinc 4 1, 3) := by decide +kernel
theorem dX11_cheapest_125 : decode cX11_cheapest 125 = .ok (.goto (-99), 3) := by decide +kernel
theorem dX11_cheapest_128 : decode cX11_cheapest 128 = .ok (.iload_n 1, 1) := by decide +kernel
theorem dX11_cheapest_129 : decode cX11_cheapest 129 = .ok (.ireturn, 1) := by decide +kernel
set_option maxRecDepth 20000 in
theorem ggX11_now_X11_refuse : GoodIn wsX11_now wsX11_refuse := goodIn_r _ [9, 2, 18, 19, 20, 21, 22, 23, 24, 25, 26, 27, 28, 29, 30, 31, 32] (by decide +kernel) (by decide +kernel)
set_option maxRecDepth 20000 in
theorem gX11_now_X11_refuse : GoodIn wsX11_now (wsV RX11 97 RX11 yX11_refuse wsX11_refuse) := goodIn_app (goodIn_of _ (by decide +kernel)) ggX11_now_X11_refuse
set_option maxRecDepth 20000 in
theorem ggX11_now_X3_numberOf : GoodIn wsX11_now wsX3_numberOf := goodIn_r _ [13, 14, 15, 16, 17] (by decide +kernel) (by decide +kernel)
set_option maxRecDepth 20000 in
theorem gX11_now_X3_numberOf : GoodIn wsX11_now (va_wsS RX11 159 yX3_numberOf wsX3_numberOf) := goodIn_app (goodIn_of _ (by decide +kernel)) ggX11_now_X3_numberOf
theorem dX11_now_0 : decode cX11_now 0 = .ok (.aload_n 0, 1) := by decide +kernel
theorem dX11_now_1 : decode cX11_now 1 = .ok (.getfield 67, 3) := by decide +kernel
theorem dX11_now_4 : decode cX11_now 4 = .ok (.ifCond .ne 9, 3) := by decide +kernel
theorem dX11_now_7 : decode cX11_now 7 = .ok (.aload_n 0, 1) := by decide +kernel
theorem dX11_now_8 : decode cX11_now 8 = .ok (.iconst 1, 1) := by decide +kernel
theorem dX11_now_9 : decode cX11_now 9 = .ok (.invokevirtual 97, 3) := by decide +kernel
theorem dX11_now_12 : decode cX11_now 12 = .ok (.ireturn, 1) := by decide +kernel
theorem dX11_now_13 : decode cX11_now 13 = .ok (.aload_n 0, 1) := by decide +kernel
theorem dX11_now_14 : decode cX11_now 14 = .ok (.iconst 0, 1) := by decide +kernel
theorem dX11_now_15 : decode cX11_now 15 = .ok (.putfield 74, 3) := by decide +kernel
theorem dX11_now_18 : decode cX11_now 18 = .ok (.aload_n 0, 1) := by decide +kernel
theorem dX11_now_19 : decode cX11_now 19 = .ok (.getfield 47, 3) := by decide +kernel
theorem dX11_now_22 : decode cX11_now 22 = .ok (.getfield 342, 3) := by decide +kernel
theorem dX11_now_25 : decode cX11_now 25 = .ok (.invokestatic 159, 3) := by decide +kernel
theorem dX11_now_28 : decode cX11_now 28 = .ok (.ireturn, 1) := by decide +kernel
set_option maxRecDepth 20000 in
theorem ggX11_cash_X11_refuseLong : GoodIn wsX11_cash wsX11_refuseLong := goodIn_r _ [9, 2, 10, 11, 12, 13, 14, 15, 16, 17, 18, 19, 20, 21, 22, 23, 24, 25] (by decide +kernel) (by decide +kernel)
set_option maxRecDepth 20000 in
theorem gX11_cash_X11_refuseLong : GoodIn wsX11_cash (wsV RX11 321 RX11 yX11_refuseLong wsX11_refuseLong) := goodIn_app (goodIn_of _ (by decide +kernel)) ggX11_cash_X11_refuseLong
theorem dX11_cash_0 : decode cX11_cash 0 = .ok (.aload_n 0, 1) := by decide +kernel
theorem dX11_cash_1 : decode cX11_cash 1 = .ok (.getfield 67, 3) := by decide +kernel
theorem dX11_cash_4 : decode cX11_cash 4 = .ok (.ifCond .ne 9, 3) := by decide +kernel
theorem dX11_cash_7 : decode cX11_cash 7 = .ok (.aload_n 0, 1) := by decide +kernel
theorem dX11_cash_8 : decode cX11_cash 8 = .ok (.iconst 1, 1) := by decide +kernel
theorem dX11_cash_9 : decode cX11_cash 9 = .ok (.invokevirtual 321, 3) := by decide +kernel
theorem dX11_cash_12 : decode cX11_cash 12 = .ok (.lreturn, 1) := by decide +kernel
theorem dX11_cash_13 : decode cX11_cash 13 = .ok (.aload_n 0, 1) := by decide +kernel
theorem dX11_cash_14 : decode cX11_cash 14 = .ok (.iconst 0, 1) := by decide +kernel
theorem dX11_cash_15 : decode cX11_cash 15 = .ok (.putfield 74, 3) := by decide +kernel
theorem dX11_cash_18 : decode cX11_cash 18 = .ok (.aload_n 0, 1) := by decide +kernel
theorem dX11_cash_19 : decode cX11_cash 19 = .ok (.getfield 47, 3) := by decide +kernel
theorem dX11_cash_22 : decode cX11_cash 22 = .ok (.getfield 345, 3) := by decide +kernel
theorem dX11_cash_25 : decode cX11_cash 25 = .ok (.lreturn, 1) := by decide +kernel
set_option maxRecDepth 20000 in
theorem ggX11_holding_X11_bondOf : GoodIn wsX11_holding wsX11_bondOf := goodIn_r _ [8, 9, 10, 11, 12, 17, 18, 19, 20, 21, 22, 23, 24, 25, 26, 27, 28, 29, 30, 31, 36, 37, 38, 39, 40, 41, 42, 43, 44, 45, 46, 47] (by decide +kernel) (by decide +kernel)
set_option maxRecDepth 20000 in
theorem gX11_holding_X11_bondOf : GoodIn wsX11_holding (wsV RX11 172 RX11 yX11_bondOf wsX11_bondOf) := goodIn_app (goodIn_of _ (by decide +kernel)) ggX11_holding_X11_bondOf
set_option maxRecDepth 20000 in
theorem ggX11_holding_X11_refuse : GoodIn wsX11_holding wsX11_refuse := goodIn_r _ [16, 1, 17, 18, 19, 20, 21, 22, 23, 24, 25, 26, 27, 28, 29, 30, 31] (by decide +kernel) (by decide +kernel)
set_option maxRecDepth 20000 in
theorem gX11_holding_X11_refuse : GoodIn wsX11_holding (wsV RX11 97 RX11 yX11_refuse wsX11_refuse) := goodIn_app (goodIn_of _ (by decide +kernel)) ggX11_holding_X11_refuse
theorem dX11_holding_0 : decode cX11_holding 0 = .ok (.aload_n 0, 1) := by decide +kernel
theorem dX11_holding_1 : decode cX11_holding 1 = .ok (.iload_n 1, 1) := by decide +kernel
theorem dX11_holding_2 : decode cX11_holding 2 = .ok (.invokevirtual 172, 3) := by decide +kernel
theorem dX11_holding_5 : decode cX11_holding 5 = .ok (.ifnonnull 9, 3) := by decide +kernel
theorem dX11_holding_8 : decode cX11_holding 8 = .ok (.aload_n 0, 1) := by decide +kernel
theorem dX11_holding_9 : decode cX11_holding 9 = .ok (.iconst 1, 1) := by decide +kernel
theorem dX11_holding_10 : decode cX11_holding 10 = .ok (.invokevirtual 97, 3) := by decide +kernel
theorem dX11_holding_13 : decode cX11_holding 13 = .ok (.ireturn, 1) := by decide +kernel
theorem dX11_holding_14 : decode cX11_holding 14 = .ok (.aload_n 0, 1) := by decide +kernel
theorem dX11_holding_15 : decode cX11_holding 15 = .ok (.iconst 0, 1) := by decide +kernel
theorem dX11_holding_16 : decode cX11_holding 16 = .ok (.putfield 74, 3) := by decide +kernel
theorem dX11_holding_19 : decode cX11_holding 19 = .ok (.aload_n 0, 1) := by decide +kernel
theorem dX11_holding_20 : decode cX11_holding 20 = .ok (.getfield 47, 3) := by decide +kernel
theorem dX11_holding_23 : decode cX11_holding 23 = .ok (.getfield 349, 3) := by decide +kernel
theorem dX11_holding_26 : decode cX11_holding 26 = .ok (.iload_n 1, 1) := by decide +kernel
theorem dX11_holding_27 : decode cX11_holding 27 = .ok (.iaload, 1) := by decide +kernel
theorem dX11_holding_28 : decode cX11_holding 28 = .ok (.ireturn, 1) := by decide +kernel
set_option maxRecDepth 20000 in
theorem ggX11_worth_X11_refuseLong : GoodIn wsX11_worth wsX11_refuseLong := goodIn_r _ [16, 2, 17, 142, 143, 144, 145, 146, 147, 148, 149, 150, 151, 152, 153, 154, 155, 156] (by decide +kernel) (by decide +kernel)
set_option maxRecDepth 20000 in
theorem gX11_worth_X11_refuseLong : GoodIn wsX11_worth (wsV RX11 321 RX11 yX11_refuseLong wsX11_refuseLong) := goodIn_app (goodIn_of _ (by decide +kernel)) ggX11_worth_X11_refuseLong
set_option maxRecDepth 20000 in
theorem ggX11_worth_X11_arePoints : GoodIn wsX11_worth wsX11_arePoints := goodIn_r _ [20] (by decide +kernel) (by decide +kernel)
set_option maxRecDepth 20000 in
theorem gX11_worth_X11_arePoints : GoodIn wsX11_worth (va_wsS RX11 266 yX11_arePoints wsX11_arePoints) := goodIn_app (goodIn_of _ (by decide +kernel)) ggX11_worth_X11_arePoints
theorem dX11_worth_0 : decode cX11_worth 0 = .ok (.aload_n 0, 1) := by decide +kernel
theorem dX11_worth_1 : decode cX11_worth 1 = .ok (.getfield 67, 3) := by decide +kernel
theorem dX11_worth_4 : decode cX11_worth 4 = .ok (.ifCond .ne 9, 3) := by decide +kernel
theorem dX11_worth_7 : decode cX11_worth 7 = .ok (.aload_n 0, 1) := by decide +kernel
theorem dX11_worth_8 : decode cX11_worth 8 = .ok (.iconst 1, 1) := by decide +kernel
theorem dX11_worth_9 : decode cX11_worth 9 = .ok (.invokevirtual 321, 3) := by decide +kernel
theorem dX11_worth_12 : decode cX11_worth 12 = .ok (.lreturn, 1) := by decide +kernel
theorem dX11_worth_13 : decode cX11_worth 13 = .ok (.iload_n 1, 1) := by decide +kernel
theorem dX11_worth_14 : decode cX11_worth 14 = .ok (.invokestatic 266, 3) := by decide +kernel
theorem dX11_worth_17 : decode cX11_worth 17 = .ok (.ifCond .ne 9, 3) := by decide +kernel
theorem dX11_worth_20 : decode cX11_worth 20 = .ok (.aload_n 0, 1) := by decide +kernel
theorem dX11_worth_21 : decode cX11_worth 21 = .ok (.iconst 2, 1) := by decide +kernel
theorem dX11_worth_22 : decode cX11_worth 22 = .ok (.invokevirtual 321, 3) := by decide +kernel
theorem dX11_worth_25 : decode cX11_worth 25 = .ok (.lreturn, 1) := by decide +kernel
theorem dX11_worth_26 : decode cX11_worth 26 = .ok (.aload_n 0, 1) := by decide +kernel
theorem dX11_worth_27 : decode cX11_worth 27 = .ok (.iconst 0, 1) := by decide +kernel
theorem dX11_worth_28 : decode cX11_worth 28 = .ok (.putfield 74, 3) := by decide +kernel
theorem dX11_worth_31 : decode cX11_worth 31 = .ok (.aload_n 0, 1) := by decide +kernel
theorem dX11_worth_32 : decode cX11_worth 32 = .ok (.getfield 47, 3) := by decide +kernel
theorem dX11_worth_35 : decode cX11_worth 35 = .ok (.getfield 345, 3) := by decide +kernel
theorem dX11_worth_38 : decode cX11_worth 38 = .ok (.l2d, 1) := by decide +kernel
theorem dX11_worth_39 : decode cX11_worth 39 = .ok (.ldc2_w 307, 3) := by decide +kernel
theorem dX11_worth_42 : decode cX11_worth 42 = .ok (.ddiv, 1) := by decide +kernel
theorem dX11_worth_43 : decode cX11_worth 43 = .ok (.dstore_n 2, 1) := by decide +kernel
theorem dX11_worth_44 : decode cX11_worth 44 = .ok (.iconst 0, 1) := by decide +kernel
theorem dX11_worth_45 : decode cX11_worth 45 = .ok (.istore 4, 2) := by decide +kernel
theorem dX11_worth_47 : decode cX11_worth 47 = .ok (.iload 4, 2) := by decide +kernel
theorem dX11_worth_49 : decode cX11_worth 49 = .ok (.aload_n 0, 1) := by decide +kernel
theorem dX11_worth_50 : decode cX11_worth 50 = .ok (.getfield 60, 3) := by decide +kernel
theorem dX11_worth_53 : decode cX11_worth 53 = .ok (.getfield 124, 3) := by decide +kernel
theorem dX11_worth_56 : decode cX11_worth 56 = .ok (.if_icmp .ge 95, 3) := by decide +kernel
theorem dX11_worth_59 : decode cX11_worth 59 = .ok (.iload 4, 2) := by decide +kernel
theorem dX11_worth_61 : decode cX11_worth 61 = .ok (.aload_n 0, 1) := by decide +kernel
theorem dX11_worth_62 : decode cX11_worth 62 = .ok (.getfield 60, 3) := by decide +kernel
theorem dX11_worth_65 : decode cX11_worth 65 = .ok (.getfield 352, 3) := by decide +kernel
theorem dX11_worth_68 : decode cX11_worth 68 = .ok (.arraylength, 1) := by decide +kernel
theorem dX11_worth_69 : decode cX11_worth 69 = .ok (.if_icmp .ge 82, 3) := by decide +kernel
theorem dX11_worth_72 : decode cX11_worth 72 = .ok (.aload_n 0, 1) := by decide +kernel
theorem dX11_worth_73 : decode cX11_worth 73 = .ok (.getfield 60, 3) := by decide +kernel
theorem dX11_worth_76 : decode cX11_worth 76 = .ok (.getfield 352, 3) := by decide +kernel
theorem dX11_worth_79 : decode cX11_worth 79 = .ok (.iload 4, 2) := by decide +kernel
theorem dX11_worth_81 : decode cX11_worth 81 = .ok (.aaload, 1) := by decide +kernel
theorem dX11_worth_82 : decode cX11_worth 82 = .ok (.aload_n 0, 1) := by decide +kernel
theorem dX11_worth_83 : decode cX11_worth 83 = .ok (.getfield 47, 3) := by decide +kernel
theorem dX11_worth_86 : decode cX11_worth 86 = .ok (.getfield 342, 3) := by decide +kernel
theorem dX11_worth_89 : decode cX11_worth 89 = .ok (.invokevirtual 356, 3) := by decide +kernel
theorem dX11_worth_92 : decode cX11_worth 92 = .ok (.ifCond .eq 53, 3) := by decide +kernel
theorem dX11_worth_95 : decode cX11_worth 95 = .ok (.aload_n 0, 1) := by decide +kernel
theorem dX11_worth_96 : decode cX11_worth 96 = .ok (.getfield 19, 3) := by decide +kernel
theorem dX11_worth_99 : decode cX11_worth 99 = .ok (.aload_n 0, 1) := by decide +kernel
theorem dX11_worth_100 : decode cX11_worth 100 = .ok (.getfield 60, 3) := by decide +kernel
theorem dX11_worth_103 : decode cX11_worth 103 = .ok (.getfield 352, 3) := by decide +kernel
theorem dX11_worth_106 : decode cX11_worth 106 = .ok (.iload 4, 2) := by decide +kernel
theorem dX11_worth_108 : decode cX11_worth 108 = .ok (.aaload, 1) := by decide +kernel
theorem dX11_worth_109 : decode cX11_worth 109 = .ok (.aload_n 0, 1) := by decide +kernel
theorem dX11_worth_110 : decode cX11_worth 110 = .ok (.getfield 47, 3) := by decide +kernel
theorem dX11_worth_113 : decode cX11_worth 113 = .ok (.getfield 342, 3) := by decide +kernel
theorem dX11_worth_116 : decode cX11_worth 116 = .ok (.invokevirtual 359, 3) := by decide +kernel
theorem dX11_worth_119 : decode cX11_worth 119 = .ok (.dload_n 2, 1) := by decide +kernel
theorem dX11_worth_120 : decode cX11_worth 120 = .ok (.aload_n 0, 1) := by decide +kernel
theorem dX11_worth_121 : decode cX11_worth 121 = .ok (.getfield 47, 3) := by decide +kernel
theorem dX11_worth_124 : decode cX11_worth 124 = .ok (.getfield 349, 3) := by decide +kernel
theorem dX11_worth_127 : decode cX11_worth 127 = .ok (.iload 4, 2) := by decide +kernel
theorem dX11_worth_129 : decode cX11_worth 129 = .ok (.iaload, 1) := by decide +kernel
theorem dX11_worth_130 : decode cX11_worth 130 = .ok (.i2d, 1) := by decide +kernel
theorem dX11_worth_131 : decode cX11_worth 131 = .ok (.aload_n 0, 1) := by decide +kernel
theorem dX11_worth_132 : decode cX11_worth 132 = .ok (.getfield 19, 3) := by decide +kernel
theorem dX11_worth_135 : decode cX11_worth 135 = .ok (.iload_n 1, 1) := by decide +kernel
theorem dX11_worth_136 : decode cX11_worth 136 = .ok (.invokestatic 269, 3) := by decide +kernel
theorem dX11_worth_139 : decode cX11_worth 139 = .ok (.invokevirtual 273, 3) := by decide +kernel
theorem dX11_worth_142 : decode cX11_worth 142 = .ok (.dmul, 1) := by decide +kernel
theorem dX11_worth_143 : decode cX11_worth 143 = .ok (.dadd, 1) := by decide +kernel
theorem dX11_worth_144 : decode cX11_worth 144 = .ok (.dstore_n 2, 1) := by decide +kernel
theorem dX11_worth_145 : decode cX11_worth 145 = .ok (.iinc 4 1, 3) := by decide +kernel
theorem dX11_worth_148 : decode cX11_worth 148 = .ok (.goto (-101), 3) := by decide +kernel
theorem dX11_worth_151 : decode cX11_worth 151 = .ok (.dload_n 2, 1) := by decide +kernel
theorem dX11_worth_152 : decode cX11_worth 152 = .ok (.invokestatic 277, 3) := by decide +kernel
theorem dX11_worth_155 : decode cX11_worth 155 = .ok (.lreturn, 1) := by decide +kernel
set_option maxRecDepth 20000 in
theorem ggX11_deal_X11_bondOf : GoodIn wsX11_deal wsX11_bondOf := goodIn_r _ [13, 14, 15, 16, 17, 138, 139, 140, 141, 142, 143, 144, 145, 146, 147, 148, 149, 150, 151, 152, 165, 166, 167, 168, 169, 170, 171, 172, 173, 174, 175, 176] (by decide +kernel) (by decide +kernel)
set_option maxRecDepth 20000 in
theorem gX11_deal_X11_bondOf : GoodIn wsX11_deal (wsV RX11 172 RX11 yX11_bondOf wsX11_bondOf) := goodIn_app (goodIn_of _ (by decide +kernel)) ggX11_deal_X11_bondOf
set_option maxRecDepth 20000 in
theorem ggX11_deal_X11_refuseLong : GoodIn wsX11_deal wsX11_refuseLong := goodIn_r _ [21, 4, 22, 138, 139, 140, 141, 142, 143, 144, 145, 146, 147, 148, 149, 150, 151, 152] (by decide +kernel) (by decide +kernel)
set_option maxRecDepth 20000 in
theorem gX11_deal_X11_refuseLong : GoodIn wsX11_deal (wsV RX11 321 RX11 yX11_refuseLong wsX11_refuseLong) := goodIn_app (goodIn_of _ (by decide +kernel)) ggX11_deal_X11_refuseLong
set_option maxRecDepth 20000 in
theorem ggX11_deal_X11_isPrice : GoodIn wsX11_deal wsX11_isPrice := goodIn_r _ [25, 26] (by decide +kernel) (by decide +kernel)
set_option maxRecDepth 20000 in
theorem gX11_deal_X11_isPrice : GoodIn wsX11_deal (va_wsS RX11 286 yX11_isPrice wsX11_isPrice) := goodIn_app (goodIn_of _ (by decide +kernel)) ggX11_deal_X11_isPrice
theorem dX11_deal_0 : decode cX11_deal 0 = .ok (.aload_n 0, 1) := by decide +kernel
theorem dX11_deal_1 : decode cX11_deal 1 = .ok (.iload_n 1, 1) := by decide +kernel
theorem dX11_deal_2 : decode cX11_deal 2 = .ok (.invokevirtual 172, 3) := by decide +kernel
theorem dX11_deal_5 : decode cX11_deal 5 = .ok (.astore 4, 2) := by decide +kernel
theorem dX11_deal_7 : decode cX11_deal 7 = .ok (.aload 4, 2) := by decide +kernel
theorem dX11_deal_9 : decode cX11_deal 9 = .ok (.ifnonnull 9, 3) := by decide +kernel
theorem dX11_deal_12 : decode cX11_deal 12 = .ok (.aload_n 0, 1) := by decide +kernel
theorem dX11_deal_13 : decode cX11_deal 13 = .ok (.iconst 1, 1) := by decide +kernel
theorem dX11_deal_14 : decode cX11_deal 14 = .ok (.invokevirtual 321, 3) := by decide +kernel
theorem dX11_deal_17 : decode cX11_deal 17 = .ok (.lreturn, 1) := by decide +kernel
