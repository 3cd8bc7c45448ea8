theorem dX12_isPeriod_0 : decode cX12_isPeriod 0 = .ok (.aload_n 0, 1) := by decide +kernel
theorem dX12_isPeriod_1 : decode cX12_isPeriod 1 = .ok (.iload_n 1, 1) := by decide +kernel
theorem dX12_isPeriod_2 : decode cX12_isPeriod 2 = .ok (.invokevirtual 438, 3) := by decide +kernel
theorem dX12_isPeriod_5 : decode cX12_isPeriod 5 = .ok (.ifCond .eq 21, 3) := by decide +kernel
theorem dX12_isPeriod_8 : decode cX12_isPeriod 8 = .ok (.iload_n 2, 1) := by decide +kernel
theorem dX12_isPeriod_9 : decode cX12_isPeriod 9 = .ok (.ifCond .lt 17, 3) := by decide +kernel
theorem dX12_isPeriod_12 : decode cX12_isPeriod 12 = .ok (.iload_n 2, 1) := by decide +kernel
theorem dX12_isPeriod_13 : decode cX12_isPeriod 13 = .ok (.aload_n 0, 1) := by decide +kernel
theorem dX12_isPeriod_14 : decode cX12_isPeriod 14 = .ok (.getfield 64, 3) := by decide +kernel
theorem dX12_isPeriod_17 : decode cX12_isPeriod 17 = .ok (.iload_n 1, 1) := by decide +kernel
theorem dX12_isPeriod_18 : decode cX12_isPeriod 18 = .ok (.iaload, 1) := by decide +kernel
theorem dX12_isPeriod_19 : decode cX12_isPeriod 19 = .ok (.if_icmp .ge 7, 3) := by decide +kernel
theorem dX12_isPeriod_22 : decode cX12_isPeriod 22 = .ok (.iconst 1, 1) := by decide +kernel
theorem dX12_isPeriod_23 : decode cX12_isPeriod 23 = .ok (.goto 4, 3) := by decide +kernel
theorem dX12_isPeriod_26 : decode cX12_isPeriod 26 = .ok (.iconst 0, 1) := by decide +kernel
theorem dX12_isPeriod_27 : decode cX12_isPeriod 27 = .ok (.ireturn, 1) := by decide +kernel
set_option maxRecDepth 20000 in
theorem ggX12_bond_X12_isBond : GoodIn wsX12_bond wsX12_isBond := goodIn_r _ [15, 16, 27, 28, 29, 30, 31, 32, 33, 34, 35, 36, 37, 38, 39, 40, 41, 42, 43, 44, 45, 46, 47, 48, 49, 50, 51, 52, 53, 54, 55, 56, 57, 58, 59, 60, 61, 62, 63, 64, 65, 66, 67, 68, 69, 70, 71, 72, 73, 74, 75, 76, 77, 78, 79, 80, 81, 82, 83, 84, 85, 86, 87, 88, 89, 90, 91, 92, 93, 94, 95] (by decide +kernel) (by decide +kernel)
set_option maxRecDepth 20000 in
theorem gX12_bond_X12_isBond : GoodIn wsX12_bond (wsV RX12 438 RX12 yX12_isBond wsX12_isBond) := goodIn_app (goodIn_of _ (by decide +kernel)) ggX12_bond_X12_isBond
set_option maxRecDepth 20000 in
theorem ggX12_bond_X12_refused : GoodIn wsX12_bond wsX12_refused := goodIn_r _ [20, 21, 22, 27, 28, 29, 30, 31, 32, 33, 34, 35, 36, 37, 38, 39, 40, 41, 42, 43, 44, 45, 46, 47, 48, 49, 50, 51, 52, 53, 54, 55, 56, 57, 58, 59, 60, 61, 62, 63, 64, 65, 66, 67, 68, 69, 70, 71, 72, 73, 74, 75, 76, 77, 78, 79, 80, 81, 82, 83, 84, 85, 86, 87, 88, 89, 90, 91, 92, 93, 94, 95] (by decide +kernel) (by decide +kernel)
set_option maxRecDepth 20000 in
theorem gX12_bond_X12_refused : GoodIn wsX12_bond (wsV RX12 113 RX12 yX12_refused wsX12_refused) := goodIn_app (goodIn_of _ (by decide +kernel)) ggX12_bond_X12_refused
set_option maxRecDepth 20000 in
theorem ggX12_bond_X12_good : GoodIn wsX12_bond wsX12_good := goodIn_r _ [26, 21, 22, 27, 28, 29, 30, 31, 32, 33, 34, 35, 36, 37, 38, 39, 40, 41, 42, 43, 44, 45, 46, 47, 48, 49, 50, 51, 52, 53, 54, 55, 56, 57, 58, 59, 60, 61, 62, 63, 64, 65, 66, 67, 68, 69, 70, 71, 72, 73, 74, 75, 76, 77, 78, 79, 80, 81, 82, 83, 84, 85, 86, 87, 88, 89, 90, 91, 92, 93, 94, 95] (by decide +kernel) (by decide +kernel)
set_option maxRecDepth 20000 in
theorem gX12_bond_X12_good : GoodIn wsX12_bond (wsV RX12 117 RX12 yX12_good wsX12_good) := goodIn_app (goodIn_of _ (by decide +kernel)) ggX12_bond_X12_good
theorem dX12_bond_0 : decode cX12_bond 0 = .ok (.aload_n 0, 1) := by decide +kernel
theorem dX12_bond_1 : decode cX12_bond 1 = .ok (.iconst 0, 1) := by decide +kernel
theorem dX12_bond_2 : decode cX12_bond 2 = .ok (.putfield 107, 3) := by decide +kernel
theorem dX12_bond_5 : decode cX12_bond 5 = .ok (.aload_n 0, 1) := by decide +kernel
theorem dX12_bond_6 : decode cX12_bond 6 = .ok (.iload_n 1, 1) := by decide +kernel
theorem dX12_bond_7 : decode cX12_bond 7 = .ok (.invokevirtual 438, 3) := by decide +kernel
theorem dX12_bond_10 : decode cX12_bond 10 = .ok (.ifCond .ne 9, 3) := by decide +kernel
theorem dX12_bond_13 : decode cX12_bond 13 = .ok (.aload_n 0, 1) := by decide +kernel
theorem dX12_bond_14 : decode cX12_bond 14 = .ok (.iconst 1, 1) := by decide +kernel
theorem dX12_bond_15 : decode cX12_bond 15 = .ok (.invokevirtual 113, 3) := by decide +kernel
theorem dX12_bond_18 : decode cX12_bond 18 = .ok (.ireturn, 1) := by decide +kernel
theorem dX12_bond_19 : decode cX12_bond 19 = .ok (.iload_n 2, 1) := by decide +kernel
theorem dX12_bond_20 : decode cX12_bond 20 = .ok (.tableswitch 159 0 8 #[52, 63, 74, 85, 96, 107, 118, 137, 148], 52) := by decide +kernel
theorem dX12_bond_72 : decode cX12_bond 72 = .ok (.aload_n 0, 1) := by decide +kernel
theorem dX12_bond_73 : decode cX12_bond 73 = .ok (.aload_n 0, 1) := by decide +kernel
theorem dX12_bond_74 : decode cX12_bond 74 = .ok (.getfield 13, 3) := by decide +kernel
theorem dX12_bond_77 : decode cX12_bond 77 = .ok (.iload_n 1, 1) := by decide +kernel
theorem dX12_bond_78 : decode cX12_bond 78 = .ok (.iaload, 1) := by decide +kernel
theorem dX12_bond_79 : decode cX12_bond 79 = .ok (.invokevirtual 117, 3) := by decide +kernel
theorem dX12_bond_82 : decode cX12_bond 82 = .ok (.ireturn, 1) := by decide +kernel
theorem dX12_bond_83 : decode cX12_bond 83 = .ok (.aload_n 0, 1) := by decide +kernel
theorem dX12_bond_84 : decode cX12_bond 84 = .ok (.aload_n 0, 1) := by decide +kernel
theorem dX12_bond_85 : decode cX12_bond 85 = .ok (.getfield 17, 3) := by decide +kernel
theorem dX12_bond_88 : decode cX12_bond 88 = .ok (.iload_n 1, 1) := by decide +kernel
theorem dX12_bond_89 : decode cX12_bond 89 = .ok (.iaload, 1) := by decide +kernel
theorem dX12_bond_90 : decode cX12_bond 90 = .ok (.invokevirtual 117, 3) := by decide +kernel
theorem dX12_bond_93 : decode cX12_bond 93 = .ok (.ireturn, 1) := by decide +kernel
theorem dX12_bond_94 : decode cX12_bond 94 = .ok (.aload_n 0, 1) := by decide +kernel
theorem dX12_bond_95 : decode cX12_bond 95 = .ok (.aload_n 0, 1) := by decide +kernel
theorem dX12_bond_96 : decode cX12_bond 96 = .ok (.getfield 20, 3) := by decide +kernel
theorem dX12_bond_99 : decode cX12_bond 99 = .ok (.iload_n 1, 1) := by decide +kernel
theorem dX12_bond_100 : decode cX12_bond 100 = .ok (.iaload, 1) := by decide +kernel
theorem dX12_bond_101 : decode cX12_bond 101 = .ok (.invokevirtual 117, 3) := by decide +kernel
theorem dX12_bond_104 : decode cX12_bond 104 = .ok (.ireturn, 1) := by decide +kernel
theorem dX12_bond_105 : decode cX12_bond 105 = .ok (.aload_n 0, 1) := by decide +kernel
theorem dX12_bond_106 : decode cX12_bond 106 = .ok (.aload_n 0, 1) := by decide +kernel
theorem dX12_bond_107 : decode cX12_bond 107 = .ok (.getfield 23, 3) := by decide +kernel
theorem dX12_bond_110 : decode cX12_bond 110 = .ok (.iload_n 1, 1) := by decide +kernel
theorem dX12_bond_111 : decode cX12_bond 111 = .ok (.iaload, 1) := by decide +kernel
theorem dX12_bond_112 : decode cX12_bond 112 = .ok (.invokevirtual 117, 3) := by decide +kernel
theorem dX12_bond_115 : decode cX12_bond 115 = .ok (.ireturn, 1) := by decide +kernel
theorem dX12_bond_116 : decode cX12_bond 116 = .ok (.aload_n 0, 1) := by decide +kernel
theorem dX12_bond_117 : decode cX12_bond 117 = .ok (.aload_n 0, 1) := by decide +kernel
theorem dX12_bond_118 : decode cX12_bond 118 = .ok (.getfield 26, 3) := by decide +kernel
theorem dX12_bond_121 : decode cX12_bond 121 = .ok (.iload_n 1, 1) := by decide +kernel
theorem dX12_bond_122 : decode cX12_bond 122 = .ok (.iaload, 1) := by decide +kernel
theorem dX12_bond_123 : decode cX12_bond 123 = .ok (.invokevirtual 117, 3) := by decide +kernel
theorem dX12_bond_126 : decode cX12_bond 126 = .ok (.ireturn, 1) := by decide +kernel
theorem dX12_bond_127 : decode cX12_bond 127 = .ok (.aload_n 0, 1) := by decide +kernel
theorem dX12_bond_128 : decode cX12_bond 128 = .ok (.aload_n 0, 1) := by decide +kernel
theorem dX12_bond_129 : decode cX12_bond 129 = .ok (.getfield 29, 3) := by decide +kernel
theorem dX12_bond_132 : decode cX12_bond 132 = .ok (.iload_n 1, 1) := by decide +kernel
theorem dX12_bond_133 : decode cX12_bond 133 = .ok (.iaload, 1) := by decide +kernel
theorem dX12_bond_134 : decode cX12_bond 134 = .ok (.invokevirtual 117, 3) := by decide +kernel
theorem dX12_bond_137 : decode cX12_bond 137 = .ok (.ireturn, 1) := by decide +kernel
theorem dX12_bond_138 : decode cX12_bond 138 = .ok (.aload_n 0, 1) := by decide +kernel
theorem dX12_bond_139 : decode cX12_bond 139 = .ok (.aload_n 0, 1) := by decide +kernel
theorem dX12_bond_140 : decode cX12_bond 140 = .ok (.getfield 41, 3) := by decide +kernel
theorem dX12_bond_143 : decode cX12_bond 143 = .ok (.iload_n 1, 1) := by decide +kernel
theorem dX12_bond_144 : decode cX12_bond 144 = .ok (.baload, 1) := by decide +kernel
theorem dX12_bond_145 : decode cX12_bond 145 = .ok (.ifCond .eq 7, 3) := by decide +kernel
theorem dX12_bond_148 : decode cX12_bond 148 = .ok (.iconst 1, 1) := by decide +kernel
theorem dX12_bond_149 : decode cX12_bond 149 = .ok (.goto 4, 3) := by decide +kernel
theorem dX12_bond_152 : decode cX12_bond 152 = .ok (.iconst 0, 1) := by decide +kernel
theorem dX12_bond_153 : decode cX12_bond 153 = .ok (.invokevirtual 117, 3) := by decide +kernel
theorem dX12_bond_156 : decode cX12_bond 156 = .ok (.ireturn, 1) := by decide +kernel
theorem dX12_bond_157 : decode cX12_bond 157 = .ok (.aload_n 0, 1) := by decide +kernel
theorem dX12_bond_158 : decode cX12_bond 158 = .ok (.aload_n 0, 1) := by decide +kernel
theorem dX12_bond_159 : decode cX12_bond 159 = .ok (.getfield 32, 3) := by decide +kernel
theorem dX12_bond_162 : decode cX12_bond 162 = .ok (.iload_n 1, 1) := by decide +kernel
theorem dX12_bond_163 : decode cX12_bond 163 = .ok (.iaload, 1) := by decide +kernel
theorem dX12_bond_164 : decode cX12_bond 164 = .ok (.invokevirtual 117, 3) := by decide +kernel
theorem dX12_bond_167 : decode cX12_bond 167 = .ok (.ireturn, 1) := by decide +kernel
theorem dX12_bond_168 : decode cX12_bond 168 = .ok (.aload_n 0, 1) := by decide +kernel
theorem dX12_bond_169 : decode cX12_bond 169 = .ok (.aload_n 0, 1) := by decide +kernel
theorem dX12_bond_170 : decode cX12_bond 170 = .ok (.getfield 64, 3) := by decide +kernel
theorem dX12_bond_173 : decode cX12_bond 173 = .ok (.iload_n 1, 1) := by decide +kernel
theorem dX12_bond_174 : decode cX12_bond 174 = .ok (.iaload, 1) := by decide +kernel
theorem dX12_bond_175 : decode cX12_bond 175 = .ok (.invokevirtual 117, 3) := by decide +kernel
theorem dX12_bond_178 : decode cX12_bond 178 = .ok (.ireturn, 1) := by decide +kernel
theorem dX12_bond_179 : decode cX12_bond 179 = .ok (.aload_n 0, 1) := by decide +kernel
theorem dX12_bond_180 : decode cX12_bond 180 = .ok (.iconst 1, 1) := by decide +kernel
theorem dX12_bond_181 : decode cX12_bond 181 = .ok (.invokevirtual 113, 3) := by decide +kernel
theorem dX12_bond_184 : decode cX12_bond 184 = .ok (.ireturn, 1) := by decide +kernel
set_option maxRecDepth 20000 in
theorem ggX12_grid_X12_isBond : GoodIn wsX12_grid wsX12_isBond := goodIn_r _ [6, 7, 37, 38, 39, 40, 41, 42, 43, 44, 45, 46, 47, 48, 49, 50, 51, 52, 53, 54, 55, 56, 57, 58, 59, 60, 61, 62, 63, 64, 65, 66, 67, 68, 69, 70, 71, 72, 73, 74, 75, 76, 77, 78, 79, 80, 81, 82, 83, 84, 85, 86, 87, 88, 89, 90, 91, 92, 93, 94, 95, 96, 97, 98, 99, 100, 101, 102, 103, 104, 105] (by decide +kernel) (by decide +kernel)
set_option maxRecDepth 20000 in
theorem gX12_grid_X12_isBond : GoodIn wsX12_grid (wsV RX12 438 RX12 yX12_isBond wsX12_isBond) := goodIn_app (goodIn_of _ (by decide +kernel)) ggX12_grid_X12_isBond
set_option maxRecDepth 20000 in
theorem ggX12_grid_X12_refused : GoodIn wsX12_grid wsX12_refused := goodIn_r _ [11, 12, 13, 37, 38, 39, 40, 41, 42, 43, 44, 45, 46, 47, 48, 49, 50, 51, 52, 53, 54, 55, 56, 57, 58, 59, 60, 61, 62, 63, 64, 65, 66, 67, 68, 69, 70, 71, 72, 73, 74, 75, 76, 77, 78, 79, 80, 81, 82, 83, 84, 85, 86, 87, 88, 89, 90, 91, 92, 93, 94, 95, 96, 97, 98, 99, 100, 101, 102, 103, 104, 105] (by decide +kernel) (by decide +kernel)
set_option maxRecDepth 20000 in
theorem gX12_grid_X12_refused : GoodIn wsX12_grid (wsV RX12 113 RX12 yX12_refused wsX12_refused) := goodIn_app (goodIn_of _ (by decide +kernel)) ggX12_grid_X12_refused
set_option maxRecDepth 20000 in
theorem ggX12_grid_X12_in : GoodIn wsX12_grid wsX12_in := goodIn_r _ [16] (by decide +kernel) (by decide +kernel)
set_option maxRecDepth 20000 in
theorem gX12_grid_X12_in : GoodIn wsX12_grid (va_wsS RX12 132 yX12_in wsX12_in) := goodIn_app (goodIn_of _ (by decide +kernel)) ggX12_grid_X12_in
set_option maxRecDepth 20000 in
theorem ggX12_grid_X12_gridDate : GoodIn wsX12_grid wsX12_gridDate := goodIn_r _ [20, 21, 22, 23, 24, 25, 5, 26, 27, 28, 29, 30, 31, 32, 37, 38, 39, 40, 41, 42, 43, 44, 45, 46, 47, 48, 49, 50, 51, 52, 53, 54, 55, 56, 57, 58, 59, 60, 61, 62, 63, 64, 65, 66, 67, 68, 69, 70, 71, 72, 73, 74, 75, 76, 77, 78, 79, 80, 81, 82, 83, 84, 85, 86, 87, 88, 89, 90, 91, 92, 93, 94, 95, 96, 97, 98, 99, 100, 101, 102, 103, 104, 105] (by decide +kernel) (by decide +kernel)
set_option maxRecDepth 20000 in
theorem gX12_grid_X12_gridDate : GoodIn wsX12_grid (wsV RX12 186 RX12 yX12_gridDate wsX12_gridDate) := goodIn_app (goodIn_of _ (by decide +kernel)) ggX12_grid_X12_gridDate
set_option maxRecDepth 20000 in
theorem ggX12_grid_X12_good : GoodIn wsX12_grid wsX12_good := goodIn_r _ [36, 12, 13, 37, 38, 39, 40, 41, 42, 43, 44, 45, 46, 47, 48, 49, 50, 51, 52, 53, 54, 55, 56, 57, 58, 59, 60, 61, 62, 63, 64, 65, 66, 67, 68, 69, 70, 71, 72, 73, 74, 75, 76, 77, 78, 79, 80, 81, 82, 83, 84, 85, 86, 87, 88, 89, 90, 91, 92, 93, 94, 95, 96, 97, 98, 99, 100, 101, 102, 103, 104, 105] (by decide +kernel) (by decide +kernel)
set_option maxRecDepth 20000 in
theorem gX12_grid_X12_good : GoodIn wsX12_grid (wsV RX12 117 RX12 yX12_good wsX12_good) := goodIn_app (goodIn_of _ (by decide +kernel)) ggX12_grid_X12_good
theorem dX12_grid_0 : decode cX12_grid 0 = .ok (.aload_n 0, 1) := by decide +kernel
theorem dX12_grid_1 : decode cX12_grid 1 = .ok (.iconst 0, 1) := by decide +kernel
theorem dX12_grid_2 : decode cX12_grid 2 = .ok (.putfield 107, 3) := by decide +kernel
theorem dX12_grid_5 : decode cX12_grid 5 = .ok (.aload_n 0, 1) := by decide +kernel
theorem dX12_grid_6 : decode cX12_grid 6 = .ok (.iload_n 1, 1) := by decide +kernel
theorem dX12_grid_7 : decode cX12_grid 7 = .ok (.invokevirtual 438, 3) := by decide +kernel
theorem dX12_grid_10 : decode cX12_grid 10 = .ok (.ifCond .ne 9, 3) := by decide +kernel
theorem dX12_grid_13 : decode cX12_grid 13 = .ok (.aload_n 0, 1) := by decide +kernel
theorem dX12_grid_14 : decode cX12_grid 14 = .ok (.iconst 1, 1) := by decide +kernel
theorem dX12_grid_15 : decode cX12_grid 15 = .ok (.invokevirtual 113, 3) := by decide +kernel
theorem dX12_grid_18 : decode cX12_grid 18 = .ok (.ireturn, 1) := by decide +kernel
theorem dX12_grid_19 : decode cX12_grid 19 = .ok (.iload_n 2, 1) := by decide +kernel
theorem dX12_grid_20 : decode cX12_grid 20 = .ok (.bipush (-90), 2) := by decide +kernel
theorem dX12_grid_22 : decode cX12_grid 22 = .ok (.iconst 3, 1) := by decide +kernel
theorem dX12_grid_23 : decode cX12_grid 23 = .ok (.invokestatic 132, 3) := by decide +kernel
theorem dX12_grid_26 : decode cX12_grid 26 = .ok (.ifCond .ne 9, 3) := by decide +kernel
theorem dX12_grid_29 : decode cX12_grid 29 = .ok (.aload_n 0, 1) := by decide +kernel
theorem dX12_grid_30 : decode cX12_grid 30 = .ok (.iconst 2, 1) := by decide +kernel
theorem dX12_grid_31 : decode cX12_grid 31 = .ok (.invokevirtual 113, 3) := by decide +kernel
theorem dX12_grid_34 : decode cX12_grid 34 = .ok (.ireturn, 1) := by decide +kernel
theorem dX12_grid_35 : decode cX12_grid 35 = .ok (.aload_n 0, 1) := by decide +kernel
theorem dX12_grid_36 : decode cX12_grid 36 = .ok (.aload_n 0, 1) := by decide +kernel
theorem dX12_grid_37 : decode cX12_grid 37 = .ok (.iload_n 1, 1) := by decide +kernel
theorem dX12_grid_38 : decode cX12_grid 38 = .ok (.iload_n 2, 1) := by decide +kernel
theorem dX12_grid_39 : decode cX12_grid 39 = .ok (.invokevirtual 186, 3) := by decide +kernel
theorem dX12_grid_42 : decode cX12_grid 42 = .ok (.invokevirtual 117, 3) := by decide +kernel
theorem dX12_grid_45 : decode cX12_grid 45 = .ok (.ireturn, 1) := by decide +kernel
set_option maxRecDepth 20000 in
theorem ggX12_period_X12_isPeriod : GoodIn wsX12_period wsX12_isPeriod := goodIn_r _ [9, 10, 11, 12, 13, 8, 14, 15, 54, 55, 56, 57, 58, 59, 60, 61, 62, 63, 64, 65, 66, 67, 68, 69, 70, 71, 72, 73, 74, 75, 76, 77, 78, 79, 80, 81, 82, 83, 84, 85, 86, 87, 88, 89, 90, 91, 92, 93, 94, 95, 96, 97, 98, 99, 100, 101, 102, 103, 104, 105, 106, 107, 108, 109, 110, 111, 112, 113, 114, 115, 116, 117, 118, 119, 120, 121, 122] (by decide +kernel) (by decide +kernel)
set_option maxRecDepth 20000 in
theorem gX12_period_X12_isPeriod : GoodIn wsX12_period (wsV RX12 441 RX12 yX12_isPeriod wsX12_isPeriod) := goodIn_app (goodIn_of _ (by decide +kernel)) ggX12_period_X12_isPeriod
set_option maxRecDepth 20000 in
theorem ggX12_period_X12_refused : GoodIn wsX12_period wsX12_refused := goodIn_r _ [19, 20, 21, 54, 55, 56, 57, 58, 59, 60, 61, 62, 63, 64, 65, 66, 67, 68, 69, 70, 71, 72, 73, 74, 75, 76, 77, 78, 79, 80, 81, 82, 83, 84, 85, 86, 87, 88, 89, 90, 91, 92, 93, 94, 95, 96, 97, 98, 99, 100, 101, 102, 103, 104, 105, 106, 107, 108, 109, 110, 111, 112, 113, 114, 115, 116, 117, 118, 119, 120, 121, 122] (by decide +kernel) (by decide +kernel)
set_option maxRecDepth 20000 in
theorem gX12_period_X12_refused : GoodIn wsX12_period (wsV RX12 113 RX12 yX12_refused wsX12_refused) := goodIn_app (goodIn_of _ (by decide +kernel)) ggX12_period_X12_refused
set_option maxRecDepth 20000 in
theorem ggX12_period_X12_good : GoodIn wsX12_period wsX12_good := goodIn_r _ [31, 20, 21, 54, 55, 56, 57, 58, 59, 60, 61, 62, 63, 64, 65, 66, 67, 68, 69, 70, 71, 72, 73, 74, 75, 76, 77, 78, 79, 80, 81, 82, 83, 84, 85, 86, 87, 88, 89, 90, 91, 92, 93, 94, 95, 96, 97, 98, 99, 100, 101, 102, 103, 104, 105, 106, 107, 108, 109, 110, 111, 112, 113, 114, 115, 116, 117, 118, 119, 120, 121, 122] (by decide +kernel) (by decide +kernel)
set_option maxRecDepth 20000 in
theorem gX12_period_X12_good : GoodIn wsX12_period (wsV RX12 117 RX12 yX12_good wsX12_good) := goodIn_app (goodIn_of _ (by decide +kernel)) ggX12_period_X12_good
set_option maxRecDepth 20000 in
theorem ggX12_period_X12_dayOf : GoodIn wsX12_period wsX12_dayOf := goodIn_r _ [38, 39, 40, 8, 41] (by decide +kernel) (by decide +kernel)
set_option maxRecDepth 20000 in
theorem gX12_period_X12_dayOf : GoodIn wsX12_period (va_wsS RX12 143 yX12_dayOf wsX12_dayOf) := goodIn_app (goodIn_of _ (by decide +kernel)) ggX12_period_X12_dayOf
theorem dX12_period_0 : decode cX12_period 0 = .ok (.aload_n 0, 1) := by decide +kernel
theorem dX12_period_1 : decode cX12_period 1 = .ok (.iconst 0, 1) := by decide +kernel
theorem dX12_period_2 : decode cX12_period 2 = .ok (.putfield 107, 3) := by decide +kernel
theorem dX12_period_5 : decode cX12_period 5 = .ok (.aload_n 0, 1) := by decide +kernel
theorem dX12_period_6 : decode cX12_period 6 = .ok (.iload_n 1, 1) := by decide +kernel
theorem dX12_period_7 : decode cX12_period 7 = .ok (.iload_n 2, 1) := by decide +kernel
theorem dX12_period_8 : decode cX12_period 8 = .ok (.invokevirtual 441, 3) := by decide +kernel
theorem dX12_period_11 : decode cX12_period 11 = .ok (.ifCond .ne 9, 3) := by decide +kernel
theorem dX12_period_14 : decode cX12_period 14 = .ok (.aload_n 0, 1) := by decide +kernel
theorem dX12_period_15 : decode cX12_period 15 = .ok (.iconst 1, 1) := by decide +kernel
theorem dX12_period_16 : decode cX12_period 16 = .ok (.invokevirtual 113, 3) := by decide +kernel
theorem dX12_period_19 : decode cX12_period 19 = .ok (.ireturn, 1) := by decide +kernel
theorem dX12_period_20 : decode cX12_period 20 = .ok (.iload_n 3, 1) := by decide +kernel
theorem dX12_period_21 : decode cX12_period 21 = .ok (.tableswitch 173 0 6 #[43, 54, 65, 89, 108, 127, 157], 43) := by decide +kernel
theorem dX12_period_64 : decode cX12_period 64 = .ok (.aload_n 0, 1) := by decide +kernel
theorem dX12_period_65 : decode cX12_period 65 = .ok (.aload_n 0, 1) := by decide +kernel
theorem dX12_period_66 : decode cX12_period 66 = .ok (.iload_n 1, 1) := by decide +kernel
theorem dX12_period_67 : decode cX12_period 67 = .ok (.iload_n 2, 1) := by decide +kernel
theorem dX12_period_68 : decode cX12_period 68 = .ok (.invokevirtual 397, 3) := by decide +kernel
theorem dX12_period_71 : decode cX12_period 71 = .ok (.invokevirtual 117, 3) := by decide +kernel
theorem dX12_period_74 : decode cX12_period 74 = .ok (.ireturn, 1) := by decide +kernel
theorem dX12_period_75 : decode cX12_period 75 = .ok (.aload_n 0, 1) := by decide +kernel
theorem dX12_period_76 : decode cX12_period 76 = .ok (.aload_n 0, 1) := by decide +kernel
theorem dX12_period_77 : decode cX12_period 77 = .ok (.iload_n 1, 1) := by decide +kernel
theorem dX12_period_78 : decode cX12_period 78 = .ok (.iload_n 2, 1) := by decide +kernel
theorem dX12_period_79 : decode cX12_period 79 = .ok (.invokevirtual 391, 3) := by decide +kernel
theorem dX12_period_82 : decode cX12_period 82 = .ok (.invokevirtual 117, 3) := by decide +kernel
theorem dX12_period_85 : decode cX12_period 85 = .ok (.ireturn, 1) := by decide +kernel
theorem dX12_period_86 : decode cX12_period 86 = .ok (.aload_n 0, 1) := by decide +kernel
theorem dX12_period_87 : decode cX12_period 87 = .ok (.aload_n 0, 1) := by decide +kernel
theorem dX12_period_88 : decode cX12_period 88 = .ok (.iload_n 1, 1) := by decide +kernel
theorem dX12_period_89 : decode cX12_period 89 = .ok (.iload_n 2, 1) := by decide +kernel
theorem dX12_period_90 : decode cX12_period 90 = .ok (.invokevirtual 391, 3) := by decide +kernel
theorem dX12_period_93 : decode cX12_period 93 = .ok (.invokestatic 143, 3) := by decide +kernel
theorem dX12_period_96 : decode cX12_period 96 = .ok (.aload_n 0, 1) := by decide +kernel
theorem dX12_period_97 : decode cX12_period 97 = .ok (.iload_n 1, 1) := by decide +kernel
theorem dX12_period_98 : decode cX12_period 98 = .ok (.iload_n 2, 1) := by decide +kernel
theorem dX12_period_99 : decode cX12_period 99 = .ok (.invokevirtual 397, 3) := by decide +kernel
theorem dX12_period_102 : decode cX12_period 102 = .ok (.invokestatic 143, 3) := by decide +kernel
theorem dX12_period_105 : decode cX12_period 105 = .ok (.isub, 1) := by decide +kernel
theorem dX12_period_106 : decode cX12_period 106 = .ok (.invokevirtual 117, 3) := by decide +kernel
theorem dX12_period_109 : decode cX12_period 109 = .ok (.ireturn, 1) := by decide +kernel
theorem dX12_period_110 : decode cX12_period 110 = .ok (.aload_n 0, 1) := by decide +kernel
theorem dX12_period_111 : decode cX12_period 111 = .ok (.aload_n 0, 1) := by decide +kernel
theorem dX12_period_112 : decode cX12_period 112 = .ok (.getfield 70, 3) := by decide +kernel
