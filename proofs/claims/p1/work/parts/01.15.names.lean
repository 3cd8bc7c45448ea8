theorem dX11_deal_18 : decode cX11_deal 18 = .ok (.iload_n 2, 1) := by decide +kernel
theorem dX11_deal_19 : decode cX11_deal 19 = .ok (.sipush (-9999), 3) := by decide +kernel
theorem dX11_deal_22 : decode cX11_deal 22 = .ok (.if_icmp .lt 21, 3) := by decide +kernel
theorem dX11_deal_25 : decode cX11_deal 25 = .ok (.iload_n 2, 1) := by decide +kernel
theorem dX11_deal_26 : decode cX11_deal 26 = .ok (.sipush 9999, 3) := by decide +kernel
theorem dX11_deal_29 : decode cX11_deal 29 = .ok (.if_icmp .gt 14, 3) := by decide +kernel
theorem dX11_deal_32 : decode cX11_deal 32 = .ok (.iload_n 2, 1) := by decide +kernel
theorem dX11_deal_33 : decode cX11_deal 33 = .ok (.ifCond .eq 10, 3) := by decide +kernel
theorem dX11_deal_36 : decode cX11_deal 36 = .ok (.iload_n 3, 1) := by decide +kernel
theorem dX11_deal_37 : decode cX11_deal 37 = .ok (.invokestatic 286, 3) := by decide +kernel
theorem dX11_deal_40 : decode cX11_deal 40 = .ok (.ifCond .ne 9, 3) := by decide +kernel
theorem dX11_deal_43 : decode cX11_deal 43 = .ok (.aload_n 0, 1) := by decide +kernel
theorem dX11_deal_44 : decode cX11_deal 44 = .ok (.iconst 2, 1) := by decide +kernel
theorem dX11_deal_45 : decode cX11_deal 45 = .ok (.invokevirtual 321, 3) := by decide +kernel
theorem dX11_deal_48 : decode cX11_deal 48 = .ok (.lreturn, 1) := by decide +kernel
theorem dX11_deal_49 : decode cX11_deal 49 = .ok (.aload 4, 2) := by decide +kernel
theorem dX11_deal_51 : decode cX11_deal 51 = .ok (.aload_n 0, 1) := by decide +kernel
theorem dX11_deal_52 : decode cX11_deal 52 = .ok (.getfield 47, 3) := by decide +kernel
theorem dX11_deal_55 : decode cX11_deal 55 = .ok (.getfield 342, 3) := by decide +kernel
theorem dX11_deal_58 : decode cX11_deal 58 = .ok (.invokevirtual 356, 3) := by decide +kernel
theorem dX11_deal_61 : decode cX11_deal 61 = .ok (.ifCond .ne 9, 3) := by decide +kernel
theorem dX11_deal_64 : decode cX11_deal 64 = .ok (.aload_n 0, 1) := by decide +kernel
theorem dX11_deal_65 : decode cX11_deal 65 = .ok (.iconst 5, 1) := by decide +kernel
theorem dX11_deal_66 : decode cX11_deal 66 = .ok (.invokevirtual 321, 3) := by decide +kernel
theorem dX11_deal_69 : decode cX11_deal 69 = .ok (.lreturn, 1) := by decide +kernel
theorem dX11_deal_70 : decode cX11_deal 70 = .ok (.aload_n 0, 1) := by decide +kernel
theorem dX11_deal_71 : decode cX11_deal 71 = .ok (.getfield 47, 3) := by decide +kernel
theorem dX11_deal_74 : decode cX11_deal 74 = .ok (.getfield 349, 3) := by decide +kernel
theorem dX11_deal_77 : decode cX11_deal 77 = .ok (.iload_n 1, 1) := by decide +kernel
theorem dX11_deal_78 : decode cX11_deal 78 = .ok (.iaload, 1) := by decide +kernel
theorem dX11_deal_79 : decode cX11_deal 79 = .ok (.iload_n 2, 1) := by decide +kernel
theorem dX11_deal_80 : decode cX11_deal 80 = .ok (.iadd, 1) := by decide +kernel
theorem dX11_deal_81 : decode cX11_deal 81 = .ok (.istore 5, 2) := by decide +kernel
theorem dX11_deal_83 : decode cX11_deal 83 = .ok (.iload 5, 2) := by decide +kernel
theorem dX11_deal_85 : decode cX11_deal 85 = .ok (.ifCond .lt 11, 3) := by decide +kernel
theorem dX11_deal_88 : decode cX11_deal 88 = .ok (.iload 5, 2) := by decide +kernel
theorem dX11_deal_90 : decode cX11_deal 90 = .ok (.sipush 9999, 3) := by decide +kernel
theorem dX11_deal_93 : decode cX11_deal 93 = .ok (.if_icmp .le 9, 3) := by decide +kernel
theorem dX11_deal_96 : decode cX11_deal 96 = .ok (.aload_n 0, 1) := by decide +kernel
theorem dX11_deal_97 : decode cX11_deal 97 = .ok (.iconst 3, 1) := by decide +kernel
theorem dX11_deal_98 : decode cX11_deal 98 = .ok (.invokevirtual 321, 3) := by decide +kernel
theorem dX11_deal_101 : decode cX11_deal 101 = .ok (.lreturn, 1) := by decide +kernel
theorem dX11_deal_102 : decode cX11_deal 102 = .ok (.aload_n 0, 1) := by decide +kernel
theorem dX11_deal_103 : decode cX11_deal 103 = .ok (.iconst 0, 1) := by decide +kernel
theorem dX11_deal_104 : decode cX11_deal 104 = .ok (.putfield 74, 3) := by decide +kernel
theorem dX11_deal_107 : decode cX11_deal 107 = .ok (.aload_n 0, 1) := by decide +kernel
theorem dX11_deal_108 : decode cX11_deal 108 = .ok (.getfield 19, 3) := by decide +kernel
theorem dX11_deal_111 : decode cX11_deal 111 = .ok (.aload 4, 2) := by decide +kernel
theorem dX11_deal_113 : decode cX11_deal 113 = .ok (.aload_n 0, 1) := by decide +kernel
theorem dX11_deal_114 : decode cX11_deal 114 = .ok (.getfield 47, 3) := by decide +kernel
theorem dX11_deal_117 : decode cX11_deal 117 = .ok (.getfield 342, 3) := by decide +kernel
theorem dX11_deal_120 : decode cX11_deal 120 = .ok (.invokevirtual 359, 3) := by decide +kernel
theorem dX11_deal_123 : decode cX11_deal 123 = .ok (.iload_n 2, 1) := by decide +kernel
theorem dX11_deal_124 : decode cX11_deal 124 = .ok (.i2l, 1) := by decide +kernel
theorem dX11_deal_125 : decode cX11_deal 125 = .ok (.iload_n 3, 1) := by decide +kernel
theorem dX11_deal_126 : decode cX11_deal 126 = .ok (.i2l, 1) := by decide +kernel
theorem dX11_deal_127 : decode cX11_deal 127 = .ok (.lmul, 1) := by decide +kernel
theorem dX11_deal_128 : decode cX11_deal 128 = .ok (.aload_n 0, 1) := by decide +kernel
theorem dX11_deal_129 : decode cX11_deal 129 = .ok (.getfield 19, 3) := by decide +kernel
theorem dX11_deal_132 : decode cX11_deal 132 = .ok (.getfield 258, 3) := by decide +kernel
theorem dX11_deal_135 : decode cX11_deal 135 = .ok (.iload_n 2, 1) := by decide +kernel
theorem dX11_deal_136 : decode cX11_deal 136 = .ok (.i2l, 1) := by decide +kernel
theorem dX11_deal_137 : decode cX11_deal 137 = .ok (.ldc2_w 361, 3) := by decide +kernel
theorem dX11_deal_140 : decode cX11_deal 140 = .ok (.lmul, 1) := by decide +kernel
theorem dX11_deal_141 : decode cX11_deal 141 = .ok (.invokevirtual 363, 3) := by decide +kernel
theorem dX11_deal_144 : decode cX11_deal 144 = .ok (.ladd, 1) := by decide +kernel
theorem dX11_deal_145 : decode cX11_deal 145 = .ok (.lstore 6, 2) := by decide +kernel
theorem dX11_deal_147 : decode cX11_deal 147 = .ok (.aload_n 0, 1) := by decide +kernel
theorem dX11_deal_148 : decode cX11_deal 148 = .ok (.getfield 47, 3) := by decide +kernel
theorem dX11_deal_151 : decode cX11_deal 151 = .ok (.getfield 349, 3) := by decide +kernel
theorem dX11_deal_154 : decode cX11_deal 154 = .ok (.iload_n 1, 1) := by decide +kernel
theorem dX11_deal_155 : decode cX11_deal 155 = .ok (.iload 5, 2) := by decide +kernel
theorem dX11_deal_157 : decode cX11_deal 157 = .ok (.iastore, 1) := by decide +kernel
theorem dX11_deal_158 : decode cX11_deal 158 = .ok (.aload_n 0, 1) := by decide +kernel
theorem dX11_deal_159 : decode cX11_deal 159 = .ok (.getfield 47, 3) := by decide +kernel
theorem dX11_deal_162 : decode cX11_deal 162 = .ok (.dup, 1) := by decide +kernel
theorem dX11_deal_163 : decode cX11_deal 163 = .ok (.getfield 345, 3) := by decide +kernel
theorem dX11_deal_166 : decode cX11_deal 166 = .ok (.lload 6, 2) := by decide +kernel
theorem dX11_deal_168 : decode cX11_deal 168 = .ok (.lsub, 1) := by decide +kernel
theorem dX11_deal_169 : decode cX11_deal 169 = .ok (.putfield 345, 3) := by decide +kernel
theorem dX11_deal_172 : decode cX11_deal 172 = .ok (.lload 6, 2) := by decide +kernel
theorem dX11_deal_174 : decode cX11_deal 174 = .ok (.lreturn, 1) := by decide +kernel
set_option maxRecDepth 20000 in
theorem ggX11_go_X11_mayGo : GoodIn wsX11_go wsX11_mayGo := goodIn_r _ [9, 10, 11, 2, 12, 13, 14, 15, 16, 17, 18, 114, 115, 116, 117, 118, 119, 120, 121, 122, 123, 124, 125, 126, 127, 128, 129, 130, 131, 132] (by decide +kernel) (by decide +kernel)
set_option maxRecDepth 20000 in
theorem gX11_go_X11_mayGo : GoodIn wsX11_go (wsV RX11 367 RX11 yX11_mayGo wsX11_mayGo) := goodIn_app (goodIn_of _ (by decide +kernel)) ggX11_go_X11_mayGo
theorem dX11_go_0 : decode cX11_go 0 = .ok (.aload_n 0, 1) := by decide +kernel
theorem dX11_go_1 : decode cX11_go 1 = .ok (.iload_n 1, 1) := by decide +kernel
theorem dX11_go_2 : decode cX11_go 2 = .ok (.invokevirtual 367, 3) := by decide +kernel
theorem dX11_go_5 : decode cX11_go 5 = .ok (.ifCond .ne 7, 3) := by decide +kernel
theorem dX11_go_8 : decode cX11_go 8 = .ok (.ldc2_w 256, 3) := by decide +kernel
theorem dX11_go_11 : decode cX11_go 11 = .ok (.lreturn, 1) := by decide +kernel
theorem dX11_go_12 : decode cX11_go 12 = .ok (.aload_n 0, 1) := by decide +kernel
theorem dX11_go_13 : decode cX11_go 13 = .ok (.getfield 47, 3) := by decide +kernel
theorem dX11_go_16 : decode cX11_go 16 = .ok (.iload_n 1, 1) := by decide +kernel
theorem dX11_go_17 : decode cX11_go 17 = .ok (.aload_n 0, 1) := by decide +kernel
theorem dX11_go_18 : decode cX11_go 18 = .ok (.getfield 60, 3) := by decide +kernel
theorem dX11_go_21 : decode cX11_go 21 = .ok (.aload_n 0, 1) := by decide +kernel
theorem dX11_go_22 : decode cX11_go 22 = .ok (.getfield 33, 3) := by decide +kernel
theorem dX11_go_25 : decode cX11_go 25 = .ok (.invokevirtual 370, 3) := by decide +kernel
theorem dX11_go_28 : decode cX11_go 28 = .ok (.lreturn, 1) := by decide +kernel
set_option maxRecDepth 20000 in
theorem ggX11_income_X11_mayGo : GoodIn wsX11_income wsX11_mayGo := goodIn_r _ [10, 11, 12, 3, 13, 14, 15, 16, 17, 18, 19, 119, 120, 121, 122, 123, 124, 125, 126, 127, 128, 129, 130, 131, 132, 133, 134, 135, 136, 137] (by decide +kernel) (by decide +kernel)
set_option maxRecDepth 20000 in
theorem gX11_income_X11_mayGo : GoodIn wsX11_income (wsV RX11 367 RX11 yX11_mayGo wsX11_mayGo) := goodIn_app (goodIn_of _ (by decide +kernel)) ggX11_income_X11_mayGo
theorem dX11_income_0 : decode cX11_income 0 = .ok (.aload_n 0, 1) := by decide +kernel
theorem dX11_income_1 : decode cX11_income 1 = .ok (.iload_n 1, 1) := by decide +kernel
theorem dX11_income_2 : decode cX11_income 2 = .ok (.invokevirtual 367, 3) := by decide +kernel
theorem dX11_income_5 : decode cX11_income 5 = .ok (.ifCond .ne 7, 3) := by decide +kernel
theorem dX11_income_8 : decode cX11_income 8 = .ok (.ldc2_w 256, 3) := by decide +kernel
theorem dX11_income_11 : decode cX11_income 11 = .ok (.lreturn, 1) := by decide +kernel
theorem dX11_income_12 : decode cX11_income 12 = .ok (.aload_n 0, 1) := by decide +kernel
theorem dX11_income_13 : decode cX11_income 13 = .ok (.getfield 54, 3) := by decide +kernel
theorem dX11_income_16 : decode cX11_income 16 = .ok (.aload_n 0, 1) := by decide +kernel
theorem dX11_income_17 : decode cX11_income 17 = .ok (.getfield 47, 3) := by decide +kernel
theorem dX11_income_20 : decode cX11_income 20 = .ok (.invokevirtual 374, 3) := by decide +kernel
theorem dX11_income_23 : decode cX11_income 23 = .ok (.aload_n 0, 1) := by decide +kernel
theorem dX11_income_24 : decode cX11_income 24 = .ok (.getfield 54, 3) := by decide +kernel
theorem dX11_income_27 : decode cX11_income 27 = .ok (.iload_n 1, 1) := by decide +kernel
theorem dX11_income_28 : decode cX11_income 28 = .ok (.aload_n 0, 1) := by decide +kernel
theorem dX11_income_29 : decode cX11_income 29 = .ok (.getfield 60, 3) := by decide +kernel
theorem dX11_income_32 : decode cX11_income 32 = .ok (.aload_n 0, 1) := by decide +kernel
theorem dX11_income_33 : decode cX11_income 33 = .ok (.getfield 33, 3) := by decide +kernel
theorem dX11_income_36 : decode cX11_income 36 = .ok (.invokevirtual 370, 3) := by decide +kernel
theorem dX11_income_39 : decode cX11_income 39 = .ok (.lreturn, 1) := by decide +kernel
theorem dX11_keep_0 : decode cX11_keep 0 = .ok (.aload_n 0, 1) := by decide +kernel
theorem dX11_keep_1 : decode cX11_keep 1 = .ok (.getfield 67, 3) := by decide +kernel
theorem dX11_keep_4 : decode cX11_keep 4 = .ok (.ifCond .ne 10, 3) := by decide +kernel
theorem dX11_keep_7 : decode cX11_keep 7 = .ok (.aload_n 0, 1) := by decide +kernel
theorem dX11_keep_8 : decode cX11_keep 8 = .ok (.iconst 1, 1) := by decide +kernel
theorem dX11_keep_9 : decode cX11_keep 9 = .ok (.putfield 74, 3) := by decide +kernel
theorem dX11_keep_12 : decode cX11_keep 12 = .ok (.iconst 0, 1) := by decide +kernel
theorem dX11_keep_13 : decode cX11_keep 13 = .ok (.ireturn, 1) := by decide +kernel
theorem dX11_keep_14 : decode cX11_keep 14 = .ok (.aload_n 0, 1) := by decide +kernel
theorem dX11_keep_15 : decode cX11_keep 15 = .ok (.iconst 0, 1) := by decide +kernel
theorem dX11_keep_16 : decode cX11_keep 16 = .ok (.putfield 74, 3) := by decide +kernel
theorem dX11_keep_19 : decode cX11_keep 19 = .ok (.aload_n 0, 1) := by decide +kernel
theorem dX11_keep_20 : decode cX11_keep 20 = .ok (.getfield 51, 3) := by decide +kernel
theorem dX11_keep_23 : decode cX11_keep 23 = .ok (.aload_n 0, 1) := by decide +kernel
theorem dX11_keep_24 : decode cX11_keep 24 = .ok (.getfield 47, 3) := by decide +kernel
theorem dX11_keep_27 : decode cX11_keep 27 = .ok (.invokevirtual 374, 3) := by decide +kernel
theorem dX11_keep_30 : decode cX11_keep 30 = .ok (.aload_n 0, 1) := by decide +kernel
theorem dX11_keep_31 : decode cX11_keep 31 = .ok (.iconst 1, 1) := by decide +kernel
theorem dX11_keep_32 : decode cX11_keep 32 = .ok (.putfield 71, 3) := by decide +kernel
theorem dX11_keep_35 : decode cX11_keep 35 = .ok (.iconst 1, 1) := by decide +kernel
theorem dX11_keep_36 : decode cX11_keep 36 = .ok (.ireturn, 1) := by decide +kernel
theorem dX11_back_0 : decode cX11_back 0 = .ok (.aload_n 0, 1) := by decide +kernel
theorem dX11_back_1 : decode cX11_back 1 = .ok (.getfield 67, 3) := by decide +kernel
theorem dX11_back_4 : decode cX11_back 4 = .ok (.ifCond .eq 10, 3) := by decide +kernel
theorem dX11_back_7 : decode cX11_back 7 = .ok (.aload_n 0, 1) := by decide +kernel
theorem dX11_back_8 : decode cX11_back 8 = .ok (.getfield 71, 3) := by decide +kernel
theorem dX11_back_11 : decode cX11_back 11 = .ok (.ifCond .ne 10, 3) := by decide +kernel
theorem dX11_back_14 : decode cX11_back 14 = .ok (.aload_n 0, 1) := by decide +kernel
theorem dX11_back_15 : decode cX11_back 15 = .ok (.iconst 1, 1) := by decide +kernel
theorem dX11_back_16 : decode cX11_back 16 = .ok (.putfield 74, 3) := by decide +kernel
theorem dX11_back_19 : decode cX11_back 19 = .ok (.iconst 0, 1) := by decide +kernel
theorem dX11_back_20 : decode cX11_back 20 = .ok (.ireturn, 1) := by decide +kernel
theorem dX11_back_21 : decode cX11_back 21 = .ok (.aload_n 0, 1) := by decide +kernel
theorem dX11_back_22 : decode cX11_back 22 = .ok (.iconst 0, 1) := by decide +kernel
theorem dX11_back_23 : decode cX11_back 23 = .ok (.putfield 74, 3) := by decide +kernel
theorem dX11_back_26 : decode cX11_back 26 = .ok (.aload_n 0, 1) := by decide +kernel
theorem dX11_back_27 : decode cX11_back 27 = .ok (.getfield 47, 3) := by decide +kernel
theorem dX11_back_30 : decode cX11_back 30 = .ok (.aload_n 0, 1) := by decide +kernel
theorem dX11_back_31 : decode cX11_back 31 = .ok (.getfield 51, 3) := by decide +kernel
theorem dX11_back_34 : decode cX11_back 34 = .ok (.invokevirtual 374, 3) := by decide +kernel
theorem dX11_back_37 : decode cX11_back 37 = .ok (.iconst 1, 1) := by decide +kernel
theorem dX11_back_38 : decode cX11_back 38 = .ok (.ireturn, 1) := by decide +kernel
theorem dX11_size_0 : decode cX11_size 0 = .ok (.iload_n 1, 1) := by decide +kernel
theorem dX11_size_1 : decode cX11_size 1 = .ok (.tableswitch 86 0 4 #[35, 43, 51, 62, 73], 35) := by decide +kernel
theorem dX11_size_36 : decode cX11_size 36 = .ok (.aload_n 0, 1) := by decide +kernel
theorem dX11_size_37 : decode cX11_size 37 = .ok (.getfield 60, 3) := by decide +kernel
theorem dX11_size_40 : decode cX11_size 40 = .ok (.getfield 124, 3) := by decide +kernel
theorem dX11_size_43 : decode cX11_size 43 = .ok (.ireturn, 1) := by decide +kernel
theorem dX11_size_44 : decode cX11_size 44 = .ok (.aload_n 0, 1) := by decide +kernel
theorem dX11_size_45 : decode cX11_size 45 = .ok (.getfield 60, 3) := by decide +kernel
theorem dX11_size_48 : decode cX11_size 48 = .ok (.getfield 328, 3) := by decide +kernel
theorem dX11_size_51 : decode cX11_size 51 = .ok (.ireturn, 1) := by decide +kernel
theorem dX11_size_52 : decode cX11_size 52 = .ok (.aload_n 0, 1) := by decide +kernel
theorem dX11_size_53 : decode cX11_size 53 = .ok (.getfield 60, 3) := by decide +kernel
theorem dX11_size_56 : decode cX11_size 56 = .ok (.getfield 146, 3) := by decide +kernel
theorem dX11_size_59 : decode cX11_size 59 = .ok (.getfield 378, 3) := by decide +kernel
theorem dX11_size_62 : decode cX11_size 62 = .ok (.ireturn, 1) := by decide +kernel
theorem dX11_size_63 : decode cX11_size 63 = .ok (.aload_n 0, 1) := by decide +kernel
theorem dX11_size_64 : decode cX11_size 64 = .ok (.getfield 10, 3) := by decide +kernel
theorem dX11_size_67 : decode cX11_size 67 = .ok (.getfield 84, 3) := by decide +kernel
theorem dX11_size_70 : decode cX11_size 70 = .ok (.getfield 88, 3) := by decide +kernel
theorem dX11_size_73 : decode cX11_size 73 = .ok (.ireturn, 1) := by decide +kernel
theorem dX11_size_74 : decode cX11_size 74 = .ok (.aload_n 0, 1) := by decide +kernel
theorem dX11_size_75 : decode cX11_size 75 = .ok (.getfield 71, 3) := by decide +kernel
theorem dX11_size_78 : decode cX11_size 78 = .ok (.ifCond .eq 7, 3) := by decide +kernel
theorem dX11_size_81 : decode cX11_size 81 = .ok (.iconst 1, 1) := by decide +kernel
theorem dX11_size_82 : decode cX11_size 82 = .ok (.goto 4, 3) := by decide +kernel
theorem dX11_size_85 : decode cX11_size 85 = .ok (.iconst 0, 1) := by decide +kernel
theorem dX11_size_86 : decode cX11_size 86 = .ok (.ireturn, 1) := by decide +kernel
theorem dX11_size_87 : decode cX11_size 87 = .ok (.iconst (-1), 1) := by decide +kernel
theorem dX11_size_88 : decode cX11_size 88 = .ok (.ireturn, 1) := by decide +kernel
theorem dX11_trouble_0 : decode cX11_trouble 0 = .ok (.aload_n 0, 1) := by decide +kernel
theorem dX11_trouble_1 : decode cX11_trouble 1 = .ok (.getfield 74, 3) := by decide +kernel
theorem dX11_trouble_4 : decode cX11_trouble 4 = .ok (.ireturn, 1) := by decide +kernel
theorem dX11_refuse_0 : decode cX11_refuse 0 = .ok (.aload_n 0, 1) := by decide +kernel
theorem dX11_refuse_1 : decode cX11_refuse 1 = .ok (.iload_n 1, 1) := by decide +kernel
theorem dX11_refuse_2 : decode cX11_refuse 2 = .ok (.putfield 74, 3) := by decide +kernel
theorem dX11_refuse_5 : decode cX11_refuse 5 = .ok (.iconst (-1), 1) := by decide +kernel
theorem dX11_refuse_6 : decode cX11_refuse 6 = .ok (.ireturn, 1) := by decide +kernel
theorem dX11_refuseLong_0 : decode cX11_refuseLong 0 = .ok (.aload_n 0, 1) := by decide +kernel
theorem dX11_refuseLong_1 : decode cX11_refuseLong 1 = .ok (.iload_n 1, 1) := by decide +kernel
theorem dX11_refuseLong_2 : decode cX11_refuseLong 2 = .ok (.putfield 74, 3) := by decide +kernel
theorem dX11_refuseLong_5 : decode cX11_refuseLong 5 = .ok (.ldc2_w 256, 3) := by decide +kernel
theorem dX11_refuseLong_8 : decode cX11_refuseLong 8 = .ok (.lreturn, 1) := by decide +kernel
theorem dX11_bondOf_0 : decode cX11_bondOf 0 = .ok (.aload_n 0, 1) := by decide +kernel
theorem dX11_bondOf_1 : decode cX11_bondOf 1 = .ok (.getfield 67, 3) := by decide +kernel
theorem dX11_bondOf_4 : decode cX11_bondOf 4 = .ok (.ifCond .eq 30, 3) := by decide +kernel
theorem dX11_bondOf_7 : decode cX11_bondOf 7 = .ok (.iload_n 1, 1) := by decide +kernel
theorem dX11_bondOf_8 : decode cX11_bondOf 8 = .ok (.ifCond .lt 26, 3) := by decide +kernel
theorem dX11_bondOf_11 : decode cX11_bondOf 11 = .ok (.iload_n 1, 1) := by decide +kernel
theorem dX11_bondOf_12 : decode cX11_bondOf 12 = .ok (.aload_n 0, 1) := by decide +kernel
theorem dX11_bondOf_13 : decode cX11_bondOf 13 = .ok (.getfield 60, 3) := by decide +kernel
theorem dX11_bondOf_16 : decode cX11_bondOf 16 = .ok (.getfield 124, 3) := by decide +kernel
theorem dX11_bondOf_19 : decode cX11_bondOf 19 = .ok (.if_icmp .ge 15, 3) := by decide +kernel
theorem dX11_bondOf_22 : decode cX11_bondOf 22 = .ok (.iload_n 1, 1) := by decide +kernel
