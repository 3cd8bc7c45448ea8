set_option maxRecDepth 20000 in
theorem ggX2_open_X8_dirtyAt : GoodIn wsX2_open wsX8_dirtyAt := goodIn_r _ [14, 15, 16, 17, 18, 19, 20, 21, 22, 29, 30, 31, 32, 33, 34, 35, 36, 37, 38, 39, 40, 41, 42, 43, 44, 45, 46, 47, 48, 49, 50, 51, 52] (by decide +kernel) (by decide +kernel)
set_option maxRecDepth 20000 in
theorem gX2_open_X8_dirtyAt : GoodIn wsX2_open (wsV RX2 38 RX8 yX8_dirtyAt wsX8_dirtyAt) := goodIn_app (goodIn_of _ (by decide +kernel)) ggX2_open_X8_dirtyAt
theorem dX2_open_0 : decode cX2_open 0 = .ok (.aload_n 0, 1) := by decide +kernel
theorem dX2_open_1 : decode cX2_open 1 = .ok (.aload_n 1, 1) := by decide +kernel
theorem dX2_open_2 : decode cX2_open 2 = .ok (.putfield 7, 3) := by decide +kernel
theorem dX2_open_5 : decode cX2_open 5 = .ok (.aload_n 0, 1) := by decide +kernel
theorem dX2_open_6 : decode cX2_open 6 = .ok (.iload_n 2, 1) := by decide +kernel
theorem dX2_open_7 : decode cX2_open 7 = .ok (.i2d, 1) := by decide +kernel
theorem dX2_open_8 : decode cX2_open 8 = .ok (.ldc2_w 29, 3) := by decide +kernel
theorem dX2_open_11 : decode cX2_open 11 = .ok (.ddiv, 1) := by decide +kernel
theorem dX2_open_12 : decode cX2_open 12 = .ok (.aload_n 1, 1) := by decide +kernel
theorem dX2_open_13 : decode cX2_open 13 = .ok (.getfield 31, 3) := by decide +kernel
theorem dX2_open_16 : decode cX2_open 16 = .ok (.dadd, 1) := by decide +kernel
theorem dX2_open_17 : decode cX2_open 17 = .ok (.putfield 13, 3) := by decide +kernel
theorem dX2_open_20 : decode cX2_open 20 = .ok (.aload_n 0, 1) := by decide +kernel
theorem dX2_open_21 : decode cX2_open 21 = .ok (.ldc2_w 36, 3) := by decide +kernel
theorem dX2_open_24 : decode cX2_open 24 = .ok (.putfield 17, 3) := by decide +kernel
theorem dX2_open_27 : decode cX2_open 27 = .ok (.aload_n 0, 1) := by decide +kernel
theorem dX2_open_28 : decode cX2_open 28 = .ok (.dconst 1, 1) := by decide +kernel
theorem dX2_open_29 : decode cX2_open 29 = .ok (.putfield 20, 3) := by decide +kernel
theorem dX2_open_32 : decode cX2_open 32 = .ok (.aload_n 0, 1) := by decide +kernel
theorem dX2_open_33 : decode cX2_open 33 = .ok (.aload_n 1, 1) := by decide +kernel
theorem dX2_open_34 : decode cX2_open 34 = .ok (.aload_n 0, 1) := by decide +kernel
theorem dX2_open_35 : decode cX2_open 35 = .ok (.getfield 17, 3) := by decide +kernel
theorem dX2_open_38 : decode cX2_open 38 = .ok (.invokevirtual 38, 3) := by decide +kernel
theorem dX2_open_41 : decode cX2_open 41 = .ok (.putfield 23, 3) := by decide +kernel
theorem dX2_open_44 : decode cX2_open 44 = .ok (.aload_n 0, 1) := by decide +kernel
theorem dX2_open_45 : decode cX2_open 45 = .ok (.aload_n 1, 1) := by decide +kernel
theorem dX2_open_46 : decode cX2_open 46 = .ok (.aload_n 0, 1) := by decide +kernel
theorem dX2_open_47 : decode cX2_open 47 = .ok (.getfield 20, 3) := by decide +kernel
theorem dX2_open_50 : decode cX2_open 50 = .ok (.invokevirtual 38, 3) := by decide +kernel
theorem dX2_open_53 : decode cX2_open 53 = .ok (.putfield 26, 3) := by decide +kernel
theorem dX2_open_56 : decode cX2_open 56 = .ok (.aload_n 0, 1) := by decide +kernel
theorem dX2_open_57 : decode cX2_open 57 = .ok (.getfield 23, 3) := by decide +kernel
theorem dX2_open_60 : decode cX2_open 60 = .ok (.aload_n 0, 1) := by decide +kernel
theorem dX2_open_61 : decode cX2_open 61 = .ok (.getfield 13, 3) := by decide +kernel
theorem dX2_open_64 : decode cX2_open 64 = .ok (.dcmp .l, 1) := by decide +kernel
theorem dX2_open_65 : decode cX2_open 65 = .ok (.ifCond .lt 19, 3) := by decide +kernel
theorem dX2_open_68 : decode cX2_open 68 = .ok (.aload_n 0, 1) := by decide +kernel
theorem dX2_open_69 : decode cX2_open 69 = .ok (.getfield 26, 3) := by decide +kernel
theorem dX2_open_72 : decode cX2_open 72 = .ok (.aload_n 0, 1) := by decide +kernel
theorem dX2_open_73 : decode cX2_open 73 = .ok (.getfield 13, 3) := by decide +kernel
theorem dX2_open_76 : decode cX2_open 76 = .ok (.dcmp .g, 1) := by decide +kernel
theorem dX2_open_77 : decode cX2_open 77 = .ok (.ifCond .gt 7, 3) := by decide +kernel
theorem dX2_open_80 : decode cX2_open 80 = .ok (.iconst 1, 1) := by decide +kernel
theorem dX2_open_81 : decode cX2_open 81 = .ok (.goto 4, 3) := by decide +kernel
theorem dX2_open_84 : decode cX2_open 84 = .ok (.iconst 0, 1) := by decide +kernel
theorem dX2_open_85 : decode cX2_open 85 = .ok (.ireturn, 1) := by decide +kernel
set_option maxRecDepth 20000 in
theorem ggX2_narrowTimes_X2_narrow : GoodIn wsX2_narrowTimes wsX2_narrow := goodIn_r _ [5, 6, 7, 8, 9, 10, 11, 12, 13, 14, 15, 16, 17, 18, 19, 20, 21, 22, 23, 24, 25, 26, 27, 28, 29, 30, 31, 32, 33, 34, 35, 36, 37, 38, 39, 40, 41, 42, 43, 44, 45, 46, 47, 48, 49, 50, 51, 52, 53, 54, 55] (by decide +kernel) (by decide +kernel)
set_option maxRecDepth 20000 in
theorem gX2_narrowTimes_X2_narrow : GoodIn wsX2_narrowTimes (wsV RX2 42 RX2 yX2_narrow wsX2_narrow) := goodIn_app (goodIn_of _ (by decide +kernel)) ggX2_narrowTimes_X2_narrow
theorem dX2_narrowTimes_0 : decode cX2_narrowTimes 0 = .ok (.iconst 0, 1) := by decide +kernel
theorem dX2_narrowTimes_1 : decode cX2_narrowTimes 1 = .ok (.istore_n 2, 1) := by decide +kernel
theorem dX2_narrowTimes_2 : decode cX2_narrowTimes 2 = .ok (.iload_n 2, 1) := by decide +kernel
theorem dX2_narrowTimes_3 : decode cX2_narrowTimes 3 = .ok (.iload_n 1, 1) := by decide +kernel
theorem dX2_narrowTimes_4 : decode cX2_narrowTimes 4 = .ok (.if_icmp .ge 14, 3) := by decide +kernel
theorem dX2_narrowTimes_7 : decode cX2_narrowTimes 7 = .ok (.aload_n 0, 1) := by decide +kernel
theorem dX2_narrowTimes_8 : decode cX2_narrowTimes 8 = .ok (.iload_n 2, 1) := by decide +kernel
theorem dX2_narrowTimes_9 : decode cX2_narrowTimes 9 = .ok (.invokevirtual 42, 3) := by decide +kernel
theorem dX2_narrowTimes_12 : decode cX2_narrowTimes 12 = .ok (.iinc 2 1, 3) := by decide +kernel
theorem dX2_narrowTimes_15 : decode cX2_narrowTimes 15 = .ok (.goto (-13), 3) := by decide +kernel
theorem dX2_narrowTimes_18 : decode cX2_narrowTimes 18 = .ok (.return_, 1) := by decide +kernel
set_option maxRecDepth 20000 in
theorem ggX2_narrow_X8_dirtyAt : GoodIn wsX2_narrow wsX8_dirtyAt := goodIn_r _ [12, 13, 14, 15, 16, 17, 18, 19, 20, 27, 28, 29, 30, 31, 32, 33, 34, 35, 36, 37, 38, 39, 40, 41, 42, 43, 44, 45, 46, 47, 48, 49, 50] (by decide +kernel) (by decide +kernel)
set_option maxRecDepth 20000 in
theorem gX2_narrow_X8_dirtyAt : GoodIn wsX2_narrow (wsV RX2 38 RX8 yX8_dirtyAt wsX8_dirtyAt) := goodIn_app (goodIn_of _ (by decide +kernel)) ggX2_narrow_X8_dirtyAt
theorem dX2_narrow_0 : decode cX2_narrow 0 = .ok (.aload_n 0, 1) := by decide +kernel
theorem dX2_narrow_1 : decode cX2_narrow 1 = .ok (.getfield 7, 3) := by decide +kernel
theorem dX2_narrow_4 : decode cX2_narrow 4 = .ok (.ifnonnull 4, 3) := by decide +kernel
theorem dX2_narrow_7 : decode cX2_narrow 7 = .ok (.return_, 1) := by decide +kernel
theorem dX2_narrow_8 : decode cX2_narrow 8 = .ok (.aload_n 0, 1) := by decide +kernel
theorem dX2_narrow_9 : decode cX2_narrow 9 = .ok (.getfield 17, 3) := by decide +kernel
theorem dX2_narrow_12 : decode cX2_narrow 12 = .ok (.aload_n 0, 1) := by decide +kernel
theorem dX2_narrow_13 : decode cX2_narrow 13 = .ok (.getfield 20, 3) := by decide +kernel
theorem dX2_narrow_16 : decode cX2_narrow 16 = .ok (.dadd, 1) := by decide +kernel
theorem dX2_narrow_17 : decode cX2_narrow 17 = .ok (.ldc2_w 46, 3) := by decide +kernel
theorem dX2_narrow_20 : decode cX2_narrow 20 = .ok (.ddiv, 1) := by decide +kernel
theorem dX2_narrow_21 : decode cX2_narrow 21 = .ok (.dstore_n 2, 1) := by decide +kernel
theorem dX2_narrow_22 : decode cX2_narrow 22 = .ok (.iload_n 1, 1) := by decide +kernel
theorem dX2_narrow_23 : decode cX2_narrow 23 = .ok (.iconst 2, 1) := by decide +kernel
theorem dX2_narrow_24 : decode cX2_narrow 24 = .ok (.irem, 1) := by decide +kernel
theorem dX2_narrow_25 : decode cX2_narrow 25 = .ok (.ifCond .eq 74, 3) := by decide +kernel
theorem dX2_narrow_28 : decode cX2_narrow 28 = .ok (.aload_n 0, 1) := by decide +kernel
theorem dX2_narrow_29 : decode cX2_narrow 29 = .ok (.getfield 23, 3) := by decide +kernel
theorem dX2_narrow_32 : decode cX2_narrow 32 = .ok (.aload_n 0, 1) := by decide +kernel
theorem dX2_narrow_33 : decode cX2_narrow 33 = .ok (.getfield 26, 3) := by decide +kernel
theorem dX2_narrow_36 : decode cX2_narrow 36 = .ok (.dcmp .l, 1) := by decide +kernel
theorem dX2_narrow_37 : decode cX2_narrow 37 = .ok (.ifCond .le 62, 3) := by decide +kernel
theorem dX2_narrow_40 : decode cX2_narrow 40 = .ok (.aload_n 0, 1) := by decide +kernel
theorem dX2_narrow_41 : decode cX2_narrow 41 = .ok (.getfield 17, 3) := by decide +kernel
theorem dX2_narrow_44 : decode cX2_narrow 44 = .ok (.aload_n 0, 1) := by decide +kernel
theorem dX2_narrow_45 : decode cX2_narrow 45 = .ok (.getfield 20, 3) := by decide +kernel
theorem dX2_narrow_48 : decode cX2_narrow 48 = .ok (.aload_n 0, 1) := by decide +kernel
theorem dX2_narrow_49 : decode cX2_narrow 49 = .ok (.getfield 17, 3) := by decide +kernel
theorem dX2_narrow_52 : decode cX2_narrow 52 = .ok (.dsub, 1) := by decide +kernel
theorem dX2_narrow_53 : decode cX2_narrow 53 = .ok (.aload_n 0, 1) := by decide +kernel
theorem dX2_narrow_54 : decode cX2_narrow 54 = .ok (.getfield 23, 3) := by decide +kernel
theorem dX2_narrow_57 : decode cX2_narrow 57 = .ok (.aload_n 0, 1) := by decide +kernel
theorem dX2_narrow_58 : decode cX2_narrow 58 = .ok (.getfield 13, 3) := by decide +kernel
theorem dX2_narrow_61 : decode cX2_narrow 61 = .ok (.dsub, 1) := by decide +kernel
theorem dX2_narrow_62 : decode cX2_narrow 62 = .ok (.aload_n 0, 1) := by decide +kernel
theorem dX2_narrow_63 : decode cX2_narrow 63 = .ok (.getfield 23, 3) := by decide +kernel
theorem dX2_narrow_66 : decode cX2_narrow 66 = .ok (.aload_n 0, 1) := by decide +kernel
theorem dX2_narrow_67 : decode cX2_narrow 67 = .ok (.getfield 26, 3) := by decide +kernel
theorem dX2_narrow_70 : decode cX2_narrow 70 = .ok (.dsub, 1) := by decide +kernel
theorem dX2_narrow_71 : decode cX2_narrow 71 = .ok (.ddiv, 1) := by decide +kernel
theorem dX2_narrow_72 : decode cX2_narrow 72 = .ok (.dmul, 1) := by decide +kernel
theorem dX2_narrow_73 : decode cX2_narrow 73 = .ok (.dadd, 1) := by decide +kernel
theorem dX2_narrow_74 : decode cX2_narrow 74 = .ok (.dstore 4, 2) := by decide +kernel
theorem dX2_narrow_76 : decode cX2_narrow 76 = .ok (.dload 4, 2) := by decide +kernel
theorem dX2_narrow_78 : decode cX2_narrow 78 = .ok (.aload_n 0, 1) := by decide +kernel
theorem dX2_narrow_79 : decode cX2_narrow 79 = .ok (.getfield 17, 3) := by decide +kernel
theorem dX2_narrow_82 : decode cX2_narrow 82 = .ok (.dcmp .l, 1) := by decide +kernel
theorem dX2_narrow_83 : decode cX2_narrow 83 = .ok (.ifCond .le 16, 3) := by decide +kernel
theorem dX2_narrow_86 : decode cX2_narrow 86 = .ok (.dload 4, 2) := by decide +kernel
theorem dX2_narrow_88 : decode cX2_narrow 88 = .ok (.aload_n 0, 1) := by decide +kernel
theorem dX2_narrow_89 : decode cX2_narrow 89 = .ok (.getfield 20, 3) := by decide +kernel
theorem dX2_narrow_92 : decode cX2_narrow 92 = .ok (.dcmp .g, 1) := by decide +kernel
theorem dX2_narrow_93 : decode cX2_narrow 93 = .ok (.ifCond .ge 6, 3) := by decide +kernel
theorem dX2_narrow_96 : decode cX2_narrow 96 = .ok (.dload 4, 2) := by decide +kernel
theorem dX2_narrow_98 : decode cX2_narrow 98 = .ok (.dstore_n 2, 1) := by decide +kernel
theorem dX2_narrow_99 : decode cX2_narrow 99 = .ok (.aload_n 0, 1) := by decide +kernel
theorem dX2_narrow_100 : decode cX2_narrow 100 = .ok (.getfield 7, 3) := by decide +kernel
theorem dX2_narrow_103 : decode cX2_narrow 103 = .ok (.dload_n 2, 1) := by decide +kernel
theorem dX2_narrow_104 : decode cX2_narrow 104 = .ok (.invokevirtual 38, 3) := by decide +kernel
theorem dX2_narrow_107 : decode cX2_narrow 107 = .ok (.dstore 4, 2) := by decide +kernel
theorem dX2_narrow_109 : decode cX2_narrow 109 = .ok (.dload 4, 2) := by decide +kernel
theorem dX2_narrow_111 : decode cX2_narrow 111 = .ok (.aload_n 0, 1) := by decide +kernel
theorem dX2_narrow_112 : decode cX2_narrow 112 = .ok (.getfield 13, 3) := by decide +kernel
theorem dX2_narrow_115 : decode cX2_narrow 115 = .ok (.dcmp .l, 1) := by decide +kernel
theorem dX2_narrow_116 : decode cX2_narrow 116 = .ok (.ifCond .lt 17, 3) := by decide +kernel
theorem dX2_narrow_119 : decode cX2_narrow 119 = .ok (.aload_n 0, 1) := by decide +kernel
theorem dX2_narrow_120 : decode cX2_narrow 120 = .ok (.dload_n 2, 1) := by decide +kernel
theorem dX2_narrow_121 : decode cX2_narrow 121 = .ok (.putfield 17, 3) := by decide +kernel
theorem dX2_narrow_124 : decode cX2_narrow 124 = .ok (.aload_n 0, 1) := by decide +kernel
theorem dX2_narrow_125 : decode cX2_narrow 125 = .ok (.dload 4, 2) := by decide +kernel
theorem dX2_narrow_127 : decode cX2_narrow 127 = .ok (.putfield 23, 3) := by decide +kernel
theorem dX2_narrow_130 : decode cX2_narrow 130 = .ok (.goto 14, 3) := by decide +kernel
theorem dX2_narrow_133 : decode cX2_narrow 133 = .ok (.aload_n 0, 1) := by decide +kernel
theorem dX2_narrow_134 : decode cX2_narrow 134 = .ok (.dload_n 2, 1) := by decide +kernel
theorem dX2_narrow_135 : decode cX2_narrow 135 = .ok (.putfield 20, 3) := by decide +kernel
theorem dX2_narrow_138 : decode cX2_narrow 138 = .ok (.aload_n 0, 1) := by decide +kernel
theorem dX2_narrow_139 : decode cX2_narrow 139 = .ok (.dload 4, 2) := by decide +kernel
theorem dX2_narrow_141 : decode cX2_narrow 141 = .ok (.putfield 26, 3) := by decide +kernel
theorem dX2_narrow_144 : decode cX2_narrow 144 = .ok (.return_, 1) := by decide +kernel
set_option maxRecDepth 20000 in
theorem ggX8_open_X0_periodAt : GoodIn wsX8_open wsX0_periodAt := goodIn_r _ [19, 20, 21, 102, 103, 104, 105, 106, 107, 108, 109, 110, 111, 112, 113, 114, 115, 116, 117] (by decide +kernel) (by decide +kernel)
set_option maxRecDepth 20000 in
theorem gX8_open_X0_periodAt : GoodIn wsX8_open (wsV RX8 41 RX0 yX0_periodAt wsX0_periodAt) := goodIn_app (goodIn_of _ (by decide +kernel)) ggX8_open_X0_periodAt
set_option maxRecDepth 20000 in
theorem ggX8_open_X0_hasPeriod : GoodIn wsX8_open wsX0_hasPeriod := goodIn_r _ [25, 20, 21, 102, 103, 104, 105, 106, 107, 108, 109, 110, 111, 112, 113, 114, 115, 116, 117] (by decide +kernel) (by decide +kernel)
set_option maxRecDepth 20000 in
theorem gX8_open_X0_hasPeriod : GoodIn wsX8_open (wsV RX8 47 RX0 yX0_hasPeriod wsX0_hasPeriod) := goodIn_app (goodIn_of _ (by decide +kernel)) ggX8_open_X0_hasPeriod
set_option maxRecDepth 20000 in
theorem ggX8_open_X0_startOf : GoodIn wsX8_open wsX0_startOf := goodIn_r _ [29, 21, 30, 102, 103, 104, 105, 106, 107, 108, 109, 110, 111, 112, 113, 114, 115, 116, 117] (by decide +kernel) (by decide +kernel)
set_option maxRecDepth 20000 in
theorem gX8_open_X0_startOf : GoodIn wsX8_open (wsV RX8 51 RX0 yX0_startOf wsX0_startOf) := goodIn_app (goodIn_of _ (by decide +kernel)) ggX8_open_X0_startOf
set_option maxRecDepth 100000 in
theorem ggX8_open_X0_measure_p1 : ∀ w ∈ wsX0_measure_r1, w ∈ wsX8_open := List.forall_mem_cons.mpr ⟨(List.mem_cons_of_mem _ (List.mem_append_left _ (List.mem_append_left _ (List.mem_append_left _ (List.mem_append_right _ (List.mem_append_left _ (List.mem_of_getElem? (l := wsX8_open_r2) (i := 10) rfl))))))), List.forall_mem_cons.mpr ⟨(List.mem_cons_of_mem _ (List.mem_append_left _ (List.mem_append_left _ (List.mem_append_left _ (List.mem_append_right _ (List.mem_append_left _ (List.mem_of_getElem? (l := wsX8_open_r2) (i := 11) rfl))))))), List.forall_mem_cons.mpr ⟨(List.mem_cons_of_mem _ (List.mem_append_left _ (List.mem_append_left _ (List.mem_append_left _ (List.mem_append_right _ (List.mem_append_left _ (List.mem_of_getElem? (l := wsX8_open_r2) (i := 12) rfl))))))), List.forall_mem_cons.mpr ⟨(List.mem_cons_of_mem _ (List.mem_append_left _ (List.mem_append_left _ (List.mem_append_left _ (List.mem_append_right _ (List.mem_append_left _ (List.mem_of_getElem? (l := wsX8_open_r2) (i := 13) rfl))))))), List.forall_mem_cons.mpr ⟨(List.mem_cons_of_mem _ (List.mem_append_left _ (List.mem_append_left _ (List.mem_append_left _ (List.mem_append_right _ (List.mem_append_left _ (List.mem_of_getElem? (l := wsX8_open_r2) (i := 14) rfl))))))), List.forall_mem_cons.mpr ⟨(List.mem_cons_of_mem _ (List.mem_append_left _ (List.mem_append_left _ (List.mem_append_left _ (List.mem_append_right _ (List.mem_append_left _ (List.mem_of_getElem? (l := wsX8_open_r2) (i := 15) rfl))))))), List.forall_mem_cons.mpr ⟨(List.mem_cons_of_mem _ (List.mem_append_left _ (List.mem_append_left _ (List.mem_append_left _ (List.mem_append_right _ (List.mem_append_left _ (List.mem_of_getElem? (l := wsX8_open_r2) (i := 16) rfl))))))), List.forall_mem_cons.mpr ⟨(List.mem_cons_of_mem _ (List.mem_append_left _ (List.mem_append_left _ (List.mem_append_left _ (List.mem_append_right _ (List.mem_append_left _ (List.mem_of_getElem? (l := wsX8_open_r2) (i := 17) rfl))))))), List.forall_mem_cons.mpr ⟨(List.mem_cons_of_mem _ (List.mem_append_left _ (List.mem_append_left _ (List.mem_append_left _ (List.mem_append_right _ (List.mem_append_left _ (List.mem_of_getElem? (l := wsX8_open_r2) (i := 18) rfl))))))), List.forall_mem_cons.mpr ⟨(List.mem_cons_of_mem _ (List.mem_append_left _ (List.mem_append_left _ (List.mem_append_left _ (List.mem_append_right _ (List.mem_append_left _ (List.mem_of_getElem? (l := wsX8_open_r2) (i := 19) rfl))))))), List.forall_mem_cons.mpr ⟨(List.mem_cons_of_mem _ (List.mem_append_left _ (List.mem_append_left _ (List.mem_append_left _ (List.mem_append_right _ (List.mem_append_left _ (List.mem_of_getElem? (l := wsX8_open_r2) (i := 20) rfl))))))), List.forall_mem_cons.mpr ⟨(List.mem_cons_of_mem _ (List.mem_append_left _ (List.mem_append_left _ (List.mem_append_left _ (List.mem_append_right _ (List.mem_append_left _ (List.mem_of_getElem? (l := wsX8_open_r2) (i := 21) rfl))))))), List.forall_mem_cons.mpr ⟨(List.mem_cons_of_mem _ (List.mem_append_left _ (List.mem_append_left _ (List.mem_append_left _ (List.mem_append_right _ (List.mem_append_left _ (List.mem_of_getElem? (l := wsX8_open_r2) (i := 22) rfl))))))), List.forall_mem_cons.mpr ⟨(List.mem_cons_of_mem _ (List.mem_append_left _ (List.mem_append_left _ (List.mem_append_left _ (List.mem_append_right _ (List.mem_append_left _ (List.mem_of_getElem? (l := wsX8_open_r2) (i := 23) rfl))))))), List.forall_mem_cons.mpr ⟨(List.mem_cons_of_mem _ (List.mem_append_left _ (List.mem_append_left _ (List.mem_append_left _ (List.mem_append_right _ (List.mem_append_right _ (List.mem_append_left _ (List.mem_of_getElem? (l := wsX8_open_r3) (i := 0) rfl)))))))), List.forall_mem_cons.mpr ⟨(List.mem_cons_of_mem _ (List.mem_append_left _ (List.mem_append_left _ (List.mem_append_left _ (List.mem_append_right _ (List.mem_append_right _ (List.mem_append_left _ (List.mem_of_getElem? (l := wsX8_open_r3) (i := 1) rfl)))))))), List.forall_mem_cons.mpr ⟨(List.mem_cons_of_mem _ (List.mem_append_left _ (List.mem_append_left _ (List.mem_append_left _ (List.mem_append_right _ (List.mem_append_right _ (List.mem_append_left _ (List.mem_of_getElem? (l := wsX8_open_r3) (i := 2) rfl)))))))), List.forall_mem_cons.mpr ⟨(List.mem_cons_of_mem _ (List.mem_append_left _ (List.mem_append_left _ (List.mem_append_left _ (List.mem_append_right _ (List.mem_append_right _ (List.mem_append_left _ (List.mem_of_getElem? (l := wsX8_open_r3) (i := 3) rfl)))))))), List.forall_mem_cons.mpr ⟨(List.mem_cons_of_mem _ (List.mem_append_left _ (List.mem_append_left _ (List.mem_append_left _ (List.mem_append_right _ (List.mem_append_right _ (List.mem_append_left _ (List.mem_of_getElem? (l := wsX8_open_r3) (i := 4) rfl)))))))), List.forall_mem_cons.mpr ⟨(List.mem_cons_of_mem _ (List.mem_append_left _ (List.mem_append_left _ (List.mem_append_left _ (List.mem_append_right _ (List.mem_append_right _ (List.mem_append_left _ (List.mem_of_getElem? (l := wsX8_open_r3) (i := 5) rfl)))))))), List.forall_mem_cons.mpr ⟨(List.mem_cons_of_mem _ (List.mem_append_left _ (List.mem_append_left _ (List.mem_append_left _ (List.mem_append_right _ (List.mem_append_right _ (List.mem_append_left _ (List.mem_of_getElem? (l := wsX8_open_r3) (i := 6) rfl)))))))), List.forall_mem_cons.mpr ⟨(List.mem_cons_of_mem _ (List.mem_append_left _ (List.mem_append_left _ (List.mem_append_left _ (List.mem_append_right _ (List.mem_append_right _ (List.mem_append_left _ (List.mem_of_getElem? (l := wsX8_open_r3) (i := 7) rfl)))))))), List.forall_mem_cons.mpr ⟨(List.mem_cons_of_mem _ (List.mem_append_left _ (List.mem_append_left _ (List.mem_append_left _ (List.mem_append_right _ (List.mem_append_right _ (List.mem_append_left _ (List.mem_of_getElem? (l := wsX8_open_r3) (i := 8) rfl)))))))), List.forall_mem_cons.mpr ⟨(List.mem_cons_of_mem _ (List.mem_append_left _ (List.mem_append_left _ (List.mem_append_left _ (List.mem_append_right _ (List.mem_append_right _ (List.mem_append_left _ (List.mem_of_getElem? (l := wsX8_open_r3) (i := 9) rfl)))))))), (fun _ h => absurd h List.not_mem_nil)⟩⟩⟩⟩⟩⟩⟩⟩⟩⟩⟩⟩⟩⟩⟩⟩⟩⟩⟩⟩⟩⟩⟩⟩
set_option maxRecDepth 100000 in
theorem ggX8_open_X0_measure_p2 : ∀ w ∈ wsX0_measure_r2, w ∈ wsX8_open := List.forall_mem_cons.mpr ⟨(List.mem_cons_of_mem _ (List.mem_append_left _ (List.mem_append_left _ (List.mem_append_left _ (List.mem_append_right _ (List.mem_append_right _ (List.mem_append_left _ (List.mem_of_getElem? (l := wsX8_open_r3) (i := 10) rfl)))))))), List.forall_mem_cons.mpr ⟨(List.mem_cons_of_mem _ (List.mem_append_left _ (List.mem_append_left _ (List.mem_append_left _ (List.mem_append_right _ (List.mem_append_right _ (List.mem_append_left _ (List.mem_of_getElem? (l := wsX8_open_r3) (i := 11) rfl)))))))), List.forall_mem_cons.mpr ⟨(List.mem_cons_of_mem _ (List.mem_append_left _ (List.mem_append_left _ (List.mem_append_left _ (List.mem_append_right _ (List.mem_append_right _ (List.mem_append_left _ (List.mem_of_getElem? (l := wsX8_open_r3) (i := 12) rfl)))))))), List.forall_mem_cons.mpr ⟨(List.mem_cons_of_mem _ (List.mem_append_left _ (List.mem_append_left _ (List.mem_append_left _ (List.mem_append_right _ (List.mem_append_right _ (List.mem_append_left _ (List.mem_of_getElem? (l := wsX8_open_r3) (i := 13) rfl)))))))), List.forall_mem_cons.mpr ⟨(List.mem_cons_of_mem _ (List.mem_append_left _ (List.mem_append_left _ (List.mem_append_left _ (List.mem_append_right _ (List.mem_append_right _ (List.mem_append_left _ (List.mem_of_getElem? (l := wsX8_open_r3) (i := 14) rfl)))))))), List.forall_mem_cons.mpr ⟨(List.mem_cons_of_mem _ (List.mem_append_left _ (List.mem_append_left _ (List.mem_append_left _ (List.mem_append_right _ (List.mem_append_right _ (List.mem_append_left _ (List.mem_of_getElem? (l := wsX8_open_r3) (i := 15) rfl)))))))), List.forall_mem_cons.mpr ⟨(List.mem_cons_of_mem _ (List.mem_append_left _ (List.mem_append_left _ (List.mem_append_left _ (List.mem_append_right _ (List.mem_append_right _ (List.mem_append_left _ (List.mem_of_getElem? (l := wsX8_open_r3) (i := 16) rfl)))))))), List.forall_mem_cons.mpr ⟨(List.mem_cons_of_mem _ (List.mem_append_left _ (List.mem_append_left _ (List.mem_append_left _ (List.mem_append_right _ (List.mem_append_right _ (List.mem_append_left _ (List.mem_of_getElem? (l := wsX8_open_r3) (i := 17) rfl)))))))), List.forall_mem_cons.mpr ⟨(List.mem_cons_of_mem _ (List.mem_append_left _ (List.mem_append_left _ (List.mem_append_left _ (List.mem_append_right _ (List.mem_append_right _ (List.mem_append_left _ (List.mem_of_getElem? (l := wsX8_open_r3) (i := 18) rfl)))))))), List.forall_mem_cons.mpr ⟨(List.mem_cons_of_mem _ (List.mem_append_left _ (List.mem_append_left _ (List.mem_append_left _ (List.mem_append_right _ (List.mem_append_right _ (List.mem_append_left _ (List.mem_of_getElem? (l := wsX8_open_r3) (i := 19) rfl)))))))), List.forall_mem_cons.mpr ⟨(List.mem_cons_of_mem _ (List.mem_append_left _ (List.mem_append_left _ (List.mem_append_left _ (List.mem_append_right _ (List.mem_append_right _ (List.mem_append_left _ (List.mem_of_getElem? (l := wsX8_open_r3) (i := 20) rfl)))))))), List.forall_mem_cons.mpr ⟨(List.mem_cons_of_mem _ (List.mem_append_left _ (List.mem_append_left _ (List.mem_append_left _ (List.mem_append_right _ (List.mem_append_right _ (List.mem_append_left _ (List.mem_of_getElem? (l := wsX8_open_r3) (i := 21) rfl)))))))), List.forall_mem_cons.mpr ⟨(List.mem_cons_of_mem _ (List.mem_append_left _ (List.mem_append_left _ (List.mem_append_left _ (List.mem_append_right _ (List.mem_append_right _ (List.mem_append_left _ (List.mem_of_getElem? (l := wsX8_open_r3) (i := 22) rfl)))))))), List.forall_mem_cons.mpr ⟨(List.mem_cons_of_mem _ (List.mem_append_left _ (List.mem_append_left _ (List.mem_append_left _ (List.mem_append_right _ (List.mem_append_right _ (List.mem_append_left _ (List.mem_of_getElem? (l := wsX8_open_r3) (i := 23) rfl)))))))), List.forall_mem_cons.mpr ⟨(List.mem_cons_of_mem _ (List.mem_append_left _ (List.mem_append_left _ (List.mem_append_left _ (List.mem_append_right _ (List.mem_append_right _ (List.mem_append_right _ (List.mem_of_getElem? (l := wsX8_open_r4) (i := 0) rfl)))))))), List.forall_mem_cons.mpr ⟨(List.mem_cons_of_mem _ (List.mem_append_left _ (List.mem_append_left _ (List.mem_append_left _ (List.mem_append_right _ (List.mem_append_right _ (List.mem_append_right _ (List.mem_of_getElem? (l := wsX8_open_r4) (i := 1) rfl)))))))), List.forall_mem_cons.mpr ⟨(List.mem_cons_of_mem _ (List.mem_append_left _ (List.mem_append_left _ (List.mem_append_left _ (List.mem_append_right _ (List.mem_append_right _ (List.mem_append_right _ (List.mem_of_getElem? (l := wsX8_open_r4) (i := 2) rfl)))))))), List.forall_mem_cons.mpr ⟨(List.mem_cons_of_mem _ (List.mem_append_left _ (List.mem_append_left _ (List.mem_append_left _ (List.mem_append_right _ (List.mem_append_right _ (List.mem_append_right _ (List.mem_of_getElem? (l := wsX8_open_r4) (i := 3) rfl)))))))), List.forall_mem_cons.mpr ⟨(List.mem_cons_of_mem _ (List.mem_append_left _ (List.mem_append_left _ (List.mem_append_left _ (List.mem_append_right _ (List.mem_append_right _ (List.mem_append_right _ (List.mem_of_getElem? (l := wsX8_open_r4) (i := 4) rfl)))))))), (fun _ h => absurd h List.not_mem_nil)⟩⟩⟩⟩⟩⟩⟩⟩⟩⟩⟩⟩⟩⟩⟩⟩⟩⟩⟩
set_option maxRecDepth 100000 in
theorem ggX8_open_X0_measure : GoodIn wsX8_open wsX0_measure := goodIn_sub (fun w h => (List.mem_cons.mp h).elim (fun e => e ▸ ((List.mem_cons_of_mem _ (List.mem_append_left _ (List.mem_append_left _ (List.mem_append_left _ (List.mem_append_right _ (List.mem_append_left _ (List.mem_of_getElem? (l := wsX8_open_r2) (i := 9) rfl))))))) : Cond.code yX0_measure cX0_measure 6 none ∈ wsX8_open)) (fun h => (List.mem_append.mp h).elim (fun h => (List.mem_append.mp h).elim (fun h => (List.mem_append.mp h).elim (fun h => ggX8_open_X0_measure_p1 w h) (fun h => ggX8_open_X0_measure_p2 w h)) (fun h => (List.mem_cons_of_mem _ (List.mem_append_left _ (List.mem_append_right _ h))))) (fun h => (List.mem_cons_of_mem _ (List.mem_append_right _ h))))) (by decide +kernel)
set_option maxRecDepth 20000 in
theorem gX8_open_X0_measure : GoodIn wsX8_open (wsV RX8 58 RX0 yX0_measure wsX0_measure) := goodIn_app (goodIn_of _ (by decide +kernel)) ggX8_open_X0_measure
set_option maxRecDepth 100000 in
theorem ggX8_open_X0_measurePeriod_p1 : ∀ w ∈ wsX0_measurePeriod_r1, w ∈ wsX8_open := List.forall_mem_cons.mpr ⟨(List.mem_cons_of_mem _ (List.mem_append_left _ (List.mem_append_left _ (List.mem_append_left _ (List.mem_append_left _ (List.mem_of_getElem? (l := wsX8_open_r1) (i := 20) rfl)))))), List.forall_mem_cons.mpr ⟨(List.mem_cons_of_mem _ (List.mem_append_left _ (List.mem_append_left _ (List.mem_append_left _ (List.mem_append_right _ (List.mem_append_right _ (List.mem_append_right _ (List.mem_of_getElem? (l := wsX8_open_r4) (i := 9) rfl)))))))), List.forall_mem_cons.mpr ⟨(List.mem_cons_of_mem _ (List.mem_append_left _ (List.mem_append_left _ (List.mem_append_left _ (List.mem_append_left _ (List.mem_of_getElem? (l := wsX8_open_r1) (i := 22) rfl)))))), List.forall_mem_cons.mpr ⟨(List.mem_cons_of_mem _ (List.mem_append_left _ (List.mem_append_left _ (List.mem_append_left _ (List.mem_append_left _ (List.mem_of_getElem? (l := wsX8_open_r1) (i := 23) rfl)))))), List.forall_mem_cons.mpr ⟨(List.mem_cons_of_mem _ (List.mem_append_left _ (List.mem_append_left _ (List.mem_append_left _ (List.mem_append_left _ (List.mem_of_getElem? (l := wsX8_open_r1) (i := 17) rfl)))))), List.forall_mem_cons.mpr ⟨(List.mem_cons_of_mem _ (List.mem_append_left _ (List.mem_append_left _ (List.mem_append_left _ (List.mem_append_right _ (List.mem_append_left _ (List.mem_of_getElem? (l := wsX8_open_r2) (i := 0) rfl))))))), List.forall_mem_cons.mpr ⟨(List.mem_cons_of_mem _ (List.mem_append_left _ (List.mem_append_left _ (List.mem_append_left _ (List.mem_append_left _ (List.mem_of_getElem? (l := wsX8_open_r1) (i := 19) rfl)))))), List.forall_mem_cons.mpr ⟨(List.mem_cons_of_mem _ (List.mem_append_left _ (List.mem_append_left _ (List.mem_append_left _ (List.mem_append_right _ (List.mem_append_right _ (List.mem_append_right _ (List.mem_of_getElem? (l := wsX8_open_r4) (i := 10) rfl)))))))), List.forall_mem_cons.mpr ⟨(List.mem_cons_of_mem _ (List.mem_append_left _ (List.mem_append_left _ (List.mem_append_left _ (List.mem_append_right _ (List.mem_append_left _ (List.mem_of_getElem? (l := wsX8_open_r2) (i := 2) rfl))))))), List.forall_mem_cons.mpr ⟨(List.mem_cons_of_mem _ (List.mem_append_left _ (List.mem_append_left _ (List.mem_append_left _ (List.mem_append_right _ (List.mem_append_left _ (List.mem_of_getElem? (l := wsX8_open_r2) (i := 3) rfl))))))), List.forall_mem_cons.mpr ⟨(List.mem_cons_of_mem _ (List.mem_append_left _ (List.mem_append_left _ (List.mem_append_left _ (List.mem_append_right _ (List.mem_append_left _ (List.mem_of_getElem? (l := wsX8_open_r2) (i := 4) rfl))))))), List.forall_mem_cons.mpr ⟨(List.mem_cons_of_mem _ (List.mem_append_left _ (List.mem_append_left _ (List.mem_append_left _ (List.mem_append_right _ (List.mem_append_left _ (List.mem_of_getElem? (l := wsX8_open_r2) (i := 5) rfl))))))), List.forall_mem_cons.mpr ⟨(List.mem_cons_of_mem _ (List.mem_append_left _ (List.mem_append_left _ (List.mem_append_left _ (List.mem_append_right _ (List.mem_append_right _ (List.mem_append_right _ (List.mem_of_getElem? (l := wsX8_open_r4) (i := 11) rfl)))))))), List.forall_mem_cons.mpr ⟨(List.mem_cons_of_mem _ (List.mem_append_left _ (List.mem_append_left _ (List.mem_append_left _ (List.mem_append_right _ (List.mem_append_left _ (List.mem_of_getElem? (l := wsX8_open_r2) (i := 7) rfl))))))), List.forall_mem_cons.mpr ⟨(List.mem_cons_of_mem _ (List.mem_append_left _ (List.mem_append_left _ (List.mem_append_left _ (List.mem_append_right _ (List.mem_append_left _ (List.mem_of_getElem? (l := wsX8_open_r2) (i := 8) rfl))))))), List.forall_mem_cons.mpr ⟨(List.mem_cons_of_mem _ (List.mem_append_left _ (List.mem_append_left _ (List.mem_append_left _ (List.mem_append_right _ (List.mem_append_left _ (List.mem_of_getElem? (l := wsX8_open_r2) (i := 9) rfl))))))), List.forall_mem_cons.mpr ⟨(List.mem_cons_of_mem _ (List.mem_append_left _ (List.mem_append_left _ (List.mem_append_left _ (List.mem_append_right _ (List.mem_append_left _ (List.mem_of_getElem? (l := wsX8_open_r2) (i := 10) rfl))))))), List.forall_mem_cons.mpr ⟨(List.mem_cons_of_mem _ (List.mem_append_left _ (List.mem_append_left _ (List.mem_append_left _ (List.mem_append_right _ (List.mem_append_left _ (List.mem_of_getElem? (l := wsX8_open_r2) (i := 11) rfl))))))), List.forall_mem_cons.mpr ⟨(List.mem_cons_of_mem _ (List.mem_append_left _ (List.mem_append_left _ (List.mem_append_left _ (List.mem_append_right _ (List.mem_append_left _ (List.mem_of_getElem? (l := wsX8_open_r2) (i := 12) rfl))))))), List.forall_mem_cons.mpr ⟨(List.mem_cons_of_mem _ (List.mem_append_left _ (List.mem_append_left _ (List.mem_append_left _ (List.mem_append_right _ (List.mem_append_left _ (List.mem_of_getElem? (l := wsX8_open_r2) (i := 13) rfl))))))), List.forall_mem_cons.mpr ⟨(List.mem_cons_of_mem _ (List.mem_append_left _ (List.mem_append_left _ (List.mem_append_left _ (List.mem_append_right _ (List.mem_append_left _ (List.mem_of_getElem? (l := wsX8_open_r2) (i := 14) rfl))))))), List.forall_mem_cons.mpr ⟨(List.mem_cons_of_mem _ (List.mem_append_left _ (List.mem_append_left _ (List.mem_append_left _ (List.mem_append_right _ (List.mem_append_left _ (List.mem_of_getElem? (l := wsX8_open_r2) (i := 15) rfl))))))), List.forall_mem_cons.mpr ⟨(List.mem_cons_of_mem _ (List.mem_append_left _ (List.mem_append_left _ (List.mem_append_left _ (List.mem_append_right _ (List.mem_append_left _ (List.mem_of_getElem? (l := wsX8_open_r2) (i := 16) rfl))))))), List.forall_mem_cons.mpr ⟨(List.mem_cons_of_mem _ (List.mem_append_left _ (List.mem_append_left _ (List.mem_append_left _ (List.mem_append_right _ (List.mem_append_left _ (List.mem_of_getElem? (l := wsX8_open_r2) (i := 17) rfl))))))), (fun _ h => absurd h List.not_mem_nil)⟩⟩⟩⟩⟩⟩⟩⟩⟩⟩⟩⟩⟩⟩⟩⟩⟩⟩⟩⟩⟩⟩⟩⟩
set_option maxRecDepth 100000 in
theorem ggX8_open_X0_measurePeriod_p2 : ∀ w ∈ wsX0_measurePeriod_r2, w ∈ wsX8_open := List.forall_mem_cons.mpr ⟨(List.mem_cons_of_mem _ (List.mem_append_left _ (List.mem_append_left _ (List.mem_append_left _ (List.mem_append_right _ (List.mem_append_left _ (List.mem_of_getElem? (l := wsX8_open_r2) (i := 18) rfl))))))), List.forall_mem_cons.mpr ⟨(List.mem_cons_of_mem _ (List.mem_append_left _ (List.mem_append_left _ (List.mem_append_left _ (List.mem_append_right _ (List.mem_append_left _ (List.mem_of_getElem? (l := wsX8_open_r2) (i := 19) rfl))))))), List.forall_mem_cons.mpr ⟨(List.mem_cons_of_mem _ (List.mem_append_left _ (List.mem_append_left _ (List.mem_append_left _ (List.mem_append_right _ (List.mem_append_left _ (List.mem_of_getElem? (l := wsX8_open_r2) (i := 20) rfl))))))), List.forall_mem_cons.mpr ⟨(List.mem_cons_of_mem _ (List.mem_append_left _ (List.mem_append_left _ (List.mem_append_left _ (List.mem_append_right _ (List.mem_append_left _ (List.mem_of_getElem? (l := wsX8_open_r2) (i := 21) rfl))))))), List.forall_mem_cons.mpr ⟨(List.mem_cons_of_mem _ (List.mem_append_left _ (List.mem_append_left _ (List.mem_append_left _ (List.mem_append_right _ (List.mem_append_left _ (List.mem_of_getElem? (l := wsX8_open_r2) (i := 22) rfl))))))), List.forall_mem_cons.mpr ⟨(List.mem_cons_of_mem _ (List.mem_append_left _ (List.mem_append_left _ (List.mem_append_left _ (List.mem_append_right _ (List.mem_append_left _ (List.mem_of_getElem? (l := wsX8_open_r2) (i := 23) rfl))))))), List.forall_mem_cons.mpr ⟨(List.mem_cons_of_mem _ (List.mem_append_left _ (List.mem_append_left _ (List.mem_append_left _ (List.mem_append_right _ (List.mem_append_right _ (List.mem_append_left _ (List.mem_of_getElem? (l := wsX8_open_r3) (i := 0) rfl)))))))), List.forall_mem_cons.mpr ⟨(List.mem_cons_of_mem _ (List.mem_append_left _ (List.mem_append_left _ (List.mem_append_left _ (List.mem_append_right _ (List.mem_append_right _ (List.mem_append_left _ (List.mem_of_getElem? (l := wsX8_open_r3) (i := 1) rfl)))))))), List.forall_mem_cons.mpr ⟨(List.mem_cons_of_mem _ (List.mem_append_left _ (List.mem_append_left _ (List.mem_append_left _ (List.mem_append_right _ (List.mem_append_right _ (List.mem_append_left _ (List.mem_of_getElem? (l := wsX8_open_r3) (i := 2) rfl)))))))), List.forall_mem_cons.mpr ⟨(List.mem_cons_of_mem _ (List.mem_append_left _ (List.mem_append_left _ (List.mem_append_left _ (List.mem_append_right _ (List.mem_append_right _ (List.mem_append_left _ (List.mem_of_getElem? (l := wsX8_open_r3) (i := 3) rfl)))))))), List.forall_mem_cons.mpr ⟨(List.mem_cons_of_mem _ (List.mem_append_left _ (List.mem_append_left _ (List.mem_append_left _ (List.mem_append_right _ (List.mem_append_right _ (List.mem_append_left _ (List.mem_of_getElem? (l := wsX8_open_r3) (i := 4) rfl)))))))), List.forall_mem_cons.mpr ⟨(List.mem_cons_of_mem _ (List.mem_append_left _ (List.mem_append_left _ (List.mem_append_left _ (List.mem_append_right _ (List.mem_append_right _ (List.mem_append_left _ (List.mem_of_getElem? (l := wsX8_open_r3) (i := 5) rfl)))))))), List.forall_mem_cons.mpr ⟨(List.mem_cons_of_mem _ (List.mem_append_left _ (List.mem_append_left _ (List.mem_append_left _ (List.mem_append_right _ (List.mem_append_right _ (List.mem_append_left _ (List.mem_of_getElem? (l := wsX8_open_r3) (i := 6) rfl)))))))), List.forall_mem_cons.mpr ⟨(List.mem_cons_of_mem _ (List.mem_append_left _ (List.mem_append_left _ (List.mem_append_left _ (List.mem_append_right _ (List.mem_append_right _ (List.mem_append_left _ (List.mem_of_getElem? (l := wsX8_open_r3) (i := 7) rfl)))))))), List.forall_mem_cons.mpr ⟨(List.mem_cons_of_mem _ (List.mem_append_left _ (List.mem_append_left _ (List.mem_append_left _ (List.mem_append_right _ (List.mem_append_right _ (List.mem_append_left _ (List.mem_of_getElem? (l := wsX8_open_r3) (i := 8) rfl)))))))), List.forall_mem_cons.mpr ⟨(List.mem_cons_of_mem _ (List.mem_append_left _ (List.mem_append_left _ (List.mem_append_left _ (List.mem_append_right _ (List.mem_append_right _ (List.mem_append_left _ (List.mem_of_getElem? (l := wsX8_open_r3) (i := 9) rfl)))))))), List.forall_mem_cons.mpr ⟨(List.mem_cons_of_mem _ (List.mem_append_left _ (List.mem_append_left _ (List.mem_append_left _ (List.mem_append_right _ (List.mem_append_right _ (List.mem_append_left _ (List.mem_of_getElem? (l := wsX8_open_r3) (i := 10) rfl)))))))), List.forall_mem_cons.mpr ⟨(List.mem_cons_of_mem _ (List.mem_append_left _ (List.mem_append_left _ (List.mem_append_left _ (List.mem_append_right _ (List.mem_append_right _ (List.mem_append_left _ (List.mem_of_getElem? (l := wsX8_open_r3) (i := 11) rfl)))))))), List.forall_mem_cons.mpr ⟨(List.mem_cons_of_mem _ (List.mem_append_left _ (List.mem_append_left _ (List.mem_append_left _ (List.mem_append_right _ (List.mem_append_right _ (List.mem_append_left _ (List.mem_of_getElem? (l := wsX8_open_r3) (i := 12) rfl)))))))), List.forall_mem_cons.mpr ⟨(List.mem_cons_of_mem _ (List.mem_append_left _ (List.mem_append_left _ (List.mem_append_left _ (List.mem_append_right _ (List.mem_append_right _ (List.mem_append_left _ (List.mem_of_getElem? (l := wsX8_open_r3) (i := 13) rfl)))))))), List.forall_mem_cons.mpr ⟨(List.mem_cons_of_mem _ (List.mem_append_left _ (List.mem_append_left _ (List.mem_append_left _ (List.mem_append_right _ (List.mem_append_right _ (List.mem_append_left _ (List.mem_of_getElem? (l := wsX8_open_r3) (i := 14) rfl)))))))), List.forall_mem_cons.mpr ⟨(List.mem_cons_of_mem _ (List.mem_append_left _ (List.mem_append_left _ (List.mem_append_left _ (List.mem_append_right _ (List.mem_append_right _ (List.mem_append_left _ (List.mem_of_getElem? (l := wsX8_open_r3) (i := 15) rfl)))))))), List.forall_mem_cons.mpr ⟨(List.mem_cons_of_mem _ (List.mem_append_left _ (List.mem_append_left _ (List.mem_append_left _ (List.mem_append_right _ (List.mem_append_right _ (List.mem_append_left _ (List.mem_of_getElem? (l := wsX8_open_r3) (i := 16) rfl)))))))), List.forall_mem_cons.mpr ⟨(List.mem_cons_of_mem _ (List.mem_append_left _ (List.mem_append_left _ (List.mem_append_left _ (List.mem_append_right _ (List.mem_append_right _ (List.mem_append_left _ (List.mem_of_getElem? (l := wsX8_open_r3) (i := 17) rfl)))))))), (fun _ h => absurd h List.not_mem_nil)⟩⟩⟩⟩⟩⟩⟩⟩⟩⟩⟩⟩⟩⟩⟩⟩⟩⟩⟩⟩⟩⟩⟩⟩
set_option maxRecDepth 100000 in
theorem ggX8_open_X0_measurePeriod_p3 : ∀ w ∈ wsX0_measurePeriod_r3, w ∈ wsX8_open := List.forall_mem_cons.mpr ⟨(List.mem_cons_of_mem _ (List.mem_append_left _ (List.mem_append_left _ (List.mem_append_left _ (List.mem_append_right _ (List.mem_append_right _ (List.mem_append_left _ (List.mem_of_getElem? (l := wsX8_open_r3) (i := 18) rfl)))))))), List.forall_mem_cons.mpr ⟨(List.mem_cons_of_mem _ (List.mem_append_left _ (List.mem_append_left _ (List.mem_append_left _ (List.mem_append_right _ (List.mem_append_right _ (List.mem_append_left _ (List.mem_of_getElem? (l := wsX8_open_r3) (i := 19) rfl)))))))), List.forall_mem_cons.mpr ⟨(List.mem_cons_of_mem _ (List.mem_append_left _ (List.mem_append_left _ (List.mem_append_left _ (List.mem_append_right _ (List.mem_append_right _ (List.mem_append_left _ (List.mem_of_getElem? (l := wsX8_open_r3) (i := 20) rfl)))))))), List.forall_mem_cons.mpr ⟨(List.mem_cons_of_mem _ (List.mem_append_left _ (List.mem_append_left _ (List.mem_append_left _ (List.mem_append_right _ (List.mem_append_right _ (List.mem_append_left _ (List.mem_of_getElem? (l := wsX8_open_r3) (i := 21) rfl)))))))), List.forall_mem_cons.mpr ⟨(List.mem_cons_of_mem _ (List.mem_append_left _ (List.mem_append_left _ (List.mem_append_left _ (List.mem_append_right _ (List.mem_append_right _ (List.mem_append_left _ (List.mem_of_getElem? (l := wsX8_open_r3) (i := 22) rfl)))))))), List.forall_mem_cons.mpr ⟨(List.mem_cons_of_mem _ (List.mem_append_left _ (List.mem_append_left _ (List.mem_append_left _ (List.mem_append_right _ (List.mem_append_right _ (List.mem_append_left _ (List.mem_of_getElem? (l := wsX8_open_r3) (i := 23) rfl)))))))), List.forall_mem_cons.mpr ⟨(List.mem_cons_of_mem _ (List.mem_append_left _ (List.mem_append_left _ (List.mem_append_left _ (List.mem_append_right _ (List.mem_append_right _ (List.mem_append_right _ (List.mem_of_getElem? (l := wsX8_open_r4) (i := 0) rfl)))))))), List.forall_mem_cons.mpr ⟨(List.mem_cons_of_mem _ (List.mem_append_left _ (List.mem_append_left _ (List.mem_append_left _ (List.mem_append_right _ (List.mem_append_right _ (List.mem_append_right _ (List.mem_of_getElem? (l := wsX8_open_r4) (i := 1) rfl)))))))), List.forall_mem_cons.mpr ⟨(List.mem_cons_of_mem _ (List.mem_append_left _ (List.mem_append_left _ (List.mem_append_left _ (List.mem_append_right _ (List.mem_append_right _ (List.mem_append_right _ (List.mem_of_getElem? (l := wsX8_open_r4) (i := 2) rfl)))))))), List.forall_mem_cons.mpr ⟨(List.mem_cons_of_mem _ (List.mem_append_left _ (List.mem_append_left _ (List.mem_append_left _ (List.mem_append_right _ (List.mem_append_right _ (List.mem_append_right _ (List.mem_of_getElem? (l := wsX8_open_r4) (i := 3) rfl)))))))), List.forall_mem_cons.mpr ⟨(List.mem_cons_of_mem _ (List.mem_append_left _ (List.mem_append_left _ (List.mem_append_left _ (List.mem_append_right _ (List.mem_append_right _ (List.mem_append_right _ (List.mem_of_getElem? (l := wsX8_open_r4) (i := 4) rfl)))))))), (fun _ h => absurd h List.not_mem_nil)⟩⟩⟩⟩⟩⟩⟩⟩⟩⟩⟩
set_option maxRecDepth 100000 in
theorem ggX8_open_X0_measurePeriod : GoodIn wsX8_open wsX0_measurePeriod := goodIn_sub (fun w h => (List.mem_cons.mp h).elim (fun e => e ▸ ((List.mem_cons_of_mem _ (List.mem_append_left _ (List.mem_append_left _ (List.mem_append_left _ (List.mem_append_right _ (List.mem_append_right _ (List.mem_append_right _ (List.mem_of_getElem? (l := wsX8_open_r4) (i := 8) rfl)))))))) : Cond.code yX0_measurePeriod cX0_measurePeriod 3 none ∈ wsX8_open)) (fun h => (List.mem_append.mp h).elim (fun h => (List.mem_append.mp h).elim (fun h => (List.mem_append.mp h).elim (fun h => ggX8_open_X0_measurePeriod_p1 w h) (fun h => (List.mem_append.mp h).elim (fun h => ggX8_open_X0_measurePeriod_p2 w h) (fun h => ggX8_open_X0_measurePeriod_p3 w h))) (fun h => (List.mem_cons_of_mem _ (List.mem_append_left _ (List.mem_append_right _ h))))) (fun h => (List.mem_cons_of_mem _ (List.mem_append_right _ h))))) (by decide +kernel)
set_option maxRecDepth 20000 in
theorem gX8_open_X0_measurePeriod : GoodIn wsX8_open (wsV RX8 62 RX0 yX0_measurePeriod wsX0_measurePeriod) := goodIn_app (goodIn_of _ (by decide +kernel)) ggX8_open_X0_measurePeriod
set_option maxRecDepth 20000 in
theorem ggX8_open_X6_add : GoodIn wsX8_open wsX6_add := goodIn_r _ [77, 57, 56, 58, 59, 48, 60, 52, 53, 54, 55, 118, 119] (by decide +kernel) (by decide +kernel)
set_option maxRecDepth 20000 in
theorem gX8_open_X6_add : GoodIn wsX8_open (wsV RX8 73 RX6 yX6_add wsX6_add) := goodIn_app (goodIn_of _ (by decide +kernel)) ggX8_open_X6_add
set_option maxRecDepth 20000 in
theorem ggX8_open_X6_multiply : GoodIn wsX8_open wsX6_multiply := goodIn_r _ [89, 56, 57, 52, 53, 54, 48, 55, 58, 59, 60, 118, 119] (by decide +kernel) (by decide +kernel)
set_option maxRecDepth 20000 in
theorem gX8_open_X6_multiply : GoodIn wsX8_open (wsV RX8 82 RX6 yX6_multiply wsX6_multiply) := goodIn_app (goodIn_of _ (by decide +kernel)) ggX8_open_X6_multiply
set_option maxRecDepth 20000 in
theorem ggX8_open_X6_value : GoodIn wsX8_open wsX6_value := goodIn_r _ [93, 56, 57, 118, 119] (by decide +kernel) (by decide +kernel)
set_option maxRecDepth 20000 in
theorem gX8_open_X6_value : GoodIn wsX8_open (wsV RX8 85 RX6 yX6_value wsX6_value) := goodIn_app (goodIn_of _ (by decide +kernel)) ggX8_open_X6_value
theorem dX8_open_0 : decode cX8_open 0 = .ok (.aload_n 0, 1) := by decide +kernel
theorem dX8_open_1 : decode cX8_open 1 = .ok (.aload_n 1, 1) := by decide +kernel
theorem dX8_open_2 : decode cX8_open 2 = .ok (.putfield 7, 3) := by decide +kernel
theorem dX8_open_5 : decode cX8_open 5 = .ok (.aload_n 0, 1) := by decide +kernel
theorem dX8_open_6 : decode cX8_open 6 = .ok (.aload_n 1, 1) := by decide +kernel
theorem dX8_open_7 : decode cX8_open 7 = .ok (.iload_n 2, 1) := by decide +kernel
theorem dX8_open_8 : decode cX8_open 8 = .ok (.invokevirtual 41, 3) := by decide +kernel
theorem dX8_open_11 : decode cX8_open 11 = .ok (.putfield 13, 3) := by decide +kernel
theorem dX8_open_14 : decode cX8_open 14 = .ok (.aload_n 1, 1) := by decide +kernel
theorem dX8_open_15 : decode cX8_open 15 = .ok (.aload_n 0, 1) := by decide +kernel
theorem dX8_open_16 : decode cX8_open 16 = .ok (.getfield 13, 3) := by decide +kernel
theorem dX8_open_19 : decode cX8_open 19 = .ok (.invokevirtual 47, 3) := by decide +kernel
theorem dX8_open_22 : decode cX8_open 22 = .ok (.ifCond .ne 4, 3) := by decide +kernel
theorem dX8_open_25 : decode cX8_open 25 = .ok (.return_, 1) := by decide +kernel
theorem dX8_open_26 : decode cX8_open 26 = .ok (.aload_n 1, 1) := by decide +kernel
theorem dX8_open_27 : decode cX8_open 27 = .ok (.aload_n 0, 1) := by decide +kernel
theorem dX8_open_28 : decode cX8_open 28 = .ok (.getfield 13, 3) := by decide +kernel
theorem dX8_open_31 : decode cX8_open 31 = .ok (.invokevirtual 51, 3) := by decide +kernel
theorem dX8_open_34 : decode cX8_open 34 = .ok (.istore_n 3, 1) := by decide +kernel
theorem dX8_open_35 : decode cX8_open 35 = .ok (.aload_n 0, 1) := by decide +kernel
theorem dX8_open_36 : decode cX8_open 36 = .ok (.aload_n 1, 1) := by decide +kernel
theorem dX8_open_37 : decode cX8_open 37 = .ok (.getfield 54, 3) := by decide +kernel
theorem dX8_open_40 : decode cX8_open 40 = .ok (.aload_n 0, 1) := by decide +kernel
theorem dX8_open_41 : decode cX8_open 41 = .ok (.getfield 13, 3) := by decide +kernel
theorem dX8_open_44 : decode cX8_open 44 = .ok (.iaload, 1) := by decide +kernel
theorem dX8_open_45 : decode cX8_open 45 = .ok (.iload_n 2, 1) := by decide +kernel
theorem dX8_open_46 : decode cX8_open 46 = .ok (.if_icmp .gt 7, 3) := by decide +kernel
theorem dX8_open_49 : decode cX8_open 49 = .ok (.iconst 1, 1) := by decide +kernel
theorem dX8_open_50 : decode cX8_open 50 = .ok (.goto 4, 3) := by decide +kernel
theorem dX8_open_53 : decode cX8_open 53 = .ok (.iconst 0, 1) := by decide +kernel
theorem dX8_open_54 : decode cX8_open 54 = .ok (.putfield 17, 3) := by decide +kernel
theorem dX8_open_57 : decode cX8_open 57 = .ok (.aload_n 1, 1) := by decide +kernel
theorem dX8_open_58 : decode cX8_open 58 = .ok (.iload_n 3, 1) := by decide +kernel
theorem dX8_open_59 : decode cX8_open 59 = .ok (.iload_n 2, 1) := by decide +kernel
theorem dX8_open_60 : decode cX8_open 60 = .ok (.aload_n 0, 1) := by decide +kernel
theorem dX8_open_61 : decode cX8_open 61 = .ok (.getfield 24, 3) := by decide +kernel
theorem dX8_open_64 : decode cX8_open 64 = .ok (.invokevirtual 58, 3) := by decide +kernel
theorem dX8_open_67 : decode cX8_open 67 = .ok (.aload_n 0, 1) := by decide +kernel
theorem dX8_open_68 : decode cX8_open 68 = .ok (.getfield 17, 3) := by decide +kernel
theorem dX8_open_71 : decode cX8_open 71 = .ok (.ifCond .eq 37, 3) := by decide +kernel
theorem dX8_open_74 : decode cX8_open 74 = .ok (.aload_n 1, 1) := by decide +kernel
theorem dX8_open_75 : decode cX8_open 75 = .ok (.aload_n 0, 1) := by decide +kernel
theorem dX8_open_76 : decode cX8_open 76 = .ok (.getfield 13, 3) := by decide +kernel
theorem dX8_open_79 : decode cX8_open 79 = .ok (.aload_n 0, 1) := by decide +kernel
theorem dX8_open_80 : decode cX8_open 80 = .ok (.getfield 31, 3) := by decide +kernel
theorem dX8_open_83 : decode cX8_open 83 = .ok (.invokevirtual 62, 3) := by decide +kernel
theorem dX8_open_86 : decode cX8_open 86 = .ok (.aload_n 0, 1) := by decide +kernel
theorem dX8_open_87 : decode cX8_open 87 = .ok (.getfield 24, 3) := by decide +kernel
theorem dX8_open_90 : decode cX8_open 90 = .ok (.aload_n 0, 1) := by decide +kernel
theorem dX8_open_91 : decode cX8_open 91 = .ok (.getfield 31, 3) := by decide +kernel
theorem dX8_open_94 : decode cX8_open 94 = .ok (.getfield 66, 3) := by decide +kernel
theorem dX8_open_97 : decode cX8_open 97 = .ok (.lneg, 1) := by decide +kernel
theorem dX8_open_98 : decode cX8_open 98 = .ok (.aload_n 0, 1) := by decide +kernel
theorem dX8_open_99 : decode cX8_open 99 = .ok (.getfield 31, 3) := by decide +kernel
theorem dX8_open_102 : decode cX8_open 102 = .ok (.getfield 70, 3) := by decide +kernel
theorem dX8_open_105 : decode cX8_open 105 = .ok (.invokevirtual 73, 3) := by decide +kernel
theorem dX8_open_108 : decode cX8_open 108 = .ok (.aload_n 0, 1) := by decide +kernel
theorem dX8_open_109 : decode cX8_open 109 = .ok (.getfield 24, 3) := by decide +kernel
theorem dX8_open_112 : decode cX8_open 112 = .ok (.aload_n 1, 1) := by decide +kernel
theorem dX8_open_113 : decode cX8_open 113 = .ok (.getfield 77, 3) := by decide +kernel
theorem dX8_open_116 : decode cX8_open 116 = .ok (.i2l, 1) := by decide +kernel
theorem dX8_open_117 : decode cX8_open 117 = .ok (.ldc2_w 80, 3) := by decide +kernel
theorem dX8_open_120 : decode cX8_open 120 = .ok (.invokevirtual 82, 3) := by decide +kernel
theorem dX8_open_123 : decode cX8_open 123 = .ok (.aload_n 0, 1) := by decide +kernel
theorem dX8_open_124 : decode cX8_open 124 = .ok (.aload_n 0, 1) := by decide +kernel
theorem dX8_open_125 : decode cX8_open 125 = .ok (.getfield 24, 3) := by decide +kernel
theorem dX8_open_128 : decode cX8_open 128 = .ok (.invokevirtual 85, 3) := by decide +kernel
theorem dX8_open_131 : decode cX8_open 131 = .ok (.putfield 34, 3) := by decide +kernel
theorem dX8_open_134 : decode cX8_open 134 = .ok (.aload_n 1, 1) := by decide +kernel
theorem dX8_open_135 : decode cX8_open 135 = .ok (.iload_n 2, 1) := by decide +kernel
theorem dX8_open_136 : decode cX8_open 136 = .ok (.aload_n 1, 1) := by decide +kernel
theorem dX8_open_137 : decode cX8_open 137 = .ok (.getfield 89, 3) := by decide +kernel
theorem dX8_open_140 : decode cX8_open 140 = .ok (.aload_n 0, 1) := by decide +kernel
theorem dX8_open_141 : decode cX8_open 141 = .ok (.getfield 13, 3) := by decide +kernel
theorem dX8_open_144 : decode cX8_open 144 = .ok (.iaload, 1) := by decide +kernel
theorem dX8_open_145 : decode cX8_open 145 = .ok (.aload_n 0, 1) := by decide +kernel
theorem dX8_open_146 : decode cX8_open 146 = .ok (.getfield 28, 3) := by decide +kernel
theorem dX8_open_149 : decode cX8_open 149 = .ok (.invokevirtual 58, 3) := by decide +kernel
theorem dX8_open_152 : decode cX8_open 152 = .ok (.aload_n 0, 1) := by decide +kernel
theorem dX8_open_153 : decode cX8_open 153 = .ok (.aload_n 0, 1) := by decide +kernel
theorem dX8_open_154 : decode cX8_open 154 = .ok (.getfield 28, 3) := by decide +kernel
theorem dX8_open_157 : decode cX8_open 157 = .ok (.invokevirtual 85, 3) := by decide +kernel
theorem dX8_open_160 : decode cX8_open 160 = .ok (.putfield 38, 3) := by decide +kernel
theorem dX8_open_163 : decode cX8_open 163 = .ok (.aload_n 0, 1) := by decide +kernel
theorem dX8_open_164 : decode cX8_open 164 = .ok (.getfield 28, 3) := by decide +kernel
theorem dX8_open_167 : decode cX8_open 167 = .ok (.aload_n 1, 1) := by decide +kernel
theorem dX8_open_168 : decode cX8_open 168 = .ok (.getfield 77, 3) := by decide +kernel
theorem dX8_open_171 : decode cX8_open 171 = .ok (.i2l, 1) := by decide +kernel
theorem dX8_open_172 : decode cX8_open 172 = .ok (.ldc2_w 80, 3) := by decide +kernel
theorem dX8_open_175 : decode cX8_open 175 = .ok (.invokevirtual 82, 3) := by decide +kernel
theorem dX8_open_178 : decode cX8_open 178 = .ok (.return_, 1) := by decide +kernel
theorem dX8_dirtyAt_0 : decode cX8_dirtyAt 0 = .ok (.aload_n 0, 1) := by decide +kernel
theorem dX8_dirtyAt_1 : decode cX8_dirtyAt 1 = .ok (.getfield 7, 3) := by decide +kernel
theorem dX8_dirtyAt_4 : decode cX8_dirtyAt 4 = .ok (.ifnonnull 5, 3) := by decide +kernel
theorem dX8_dirtyAt_7 : decode cX8_dirtyAt 7 = .ok (.dconst 0, 1) := by decide +kernel
theorem dX8_dirtyAt_8 : decode cX8_dirtyAt 8 = .ok (.dreturn, 1) := by decide +kernel
theorem dX8_dirtyAt_9 : decode cX8_dirtyAt 9 = .ok (.dconst 1, 1) := by decide +kernel
theorem dX8_dirtyAt_10 : decode cX8_dirtyAt 10 = .ok (.dload_n 1, 1) := by decide +kernel
theorem dX8_dirtyAt_11 : decode cX8_dirtyAt 11 = .ok (.aload_n 0, 1) := by decide +kernel
theorem dX8_dirtyAt_12 : decode cX8_dirtyAt 12 = .ok (.getfield 38, 3) := by decide +kernel
theorem dX8_dirtyAt_15 : decode cX8_dirtyAt 15 = .ok (.dmul, 1) := by decide +kernel
theorem dX8_dirtyAt_16 : decode cX8_dirtyAt 16 = .ok (.dadd, 1) := by decide +kernel
theorem dX8_dirtyAt_17 : decode cX8_dirtyAt 17 = .ok (.dstore_n 3, 1) := by decide +kernel
theorem dX8_dirtyAt_18 : decode cX8_dirtyAt 18 = .ok (.dconst 0, 1) := by decide +kernel
theorem dX8_dirtyAt_19 : decode cX8_dirtyAt 19 = .ok (.dstore 5, 2) := by decide +kernel
theorem dX8_dirtyAt_21 : decode cX8_dirtyAt 21 = .ok (.aload_n 0, 1) := by decide +kernel
theorem dX8_dirtyAt_22 : decode cX8_dirtyAt 22 = .ok (.getfield 7, 3) := by decide +kernel
theorem dX8_dirtyAt_25 : decode cX8_dirtyAt 25 = .ok (.getfield 92, 3) := by decide +kernel
theorem dX8_dirtyAt_28 : decode cX8_dirtyAt 28 = .ok (.iconst 1, 1) := by decide +kernel
theorem dX8_dirtyAt_29 : decode cX8_dirtyAt 29 = .ok (.isub, 1) := by decide +kernel
theorem dX8_dirtyAt_30 : decode cX8_dirtyAt 30 = .ok (.istore 7, 2) := by decide +kernel
theorem dX8_dirtyAt_32 : decode cX8_dirtyAt 32 = .ok (.aload_n 0, 1) := by decide +kernel
theorem dX8_dirtyAt_33 : decode cX8_dirtyAt 33 = .ok (.getfield 13, 3) := by decide +kernel
theorem dX8_dirtyAt_36 : decode cX8_dirtyAt 36 = .ok (.istore 8, 2) := by decide +kernel
theorem dX8_dirtyAt_38 : decode cX8_dirtyAt 38 = .ok (.iload 8, 2) := by decide +kernel
theorem dX8_dirtyAt_40 : decode cX8_dirtyAt 40 = .ok (.ifCond .lt 105, 3) := by decide +kernel
theorem dX8_dirtyAt_43 : decode cX8_dirtyAt 43 = .ok (.iload 8, 2) := by decide +kernel
theorem dX8_dirtyAt_45 : decode cX8_dirtyAt 45 = .ok (.iload 7, 2) := by decide +kernel
theorem dX8_dirtyAt_47 : decode cX8_dirtyAt 47 = .ok (.if_icmp .gt 98, 3) := by decide +kernel
theorem dX8_dirtyAt_50 : decode cX8_dirtyAt 50 = .ok (.iload 8, 2) := by decide +kernel
theorem dX8_dirtyAt_52 : decode cX8_dirtyAt 52 = .ok (.bipush 81, 2) := by decide +kernel
theorem dX8_dirtyAt_54 : decode cX8_dirtyAt 54 = .ok (.if_icmp .ge 91, 3) := by decide +kernel
theorem dX8_dirtyAt_57 : decode cX8_dirtyAt 57 = .ok (.iload 8, 2) := by decide +kernel
theorem dX8_dirtyAt_59 : decode cX8_dirtyAt 59 = .ok (.aload_n 0, 1) := by decide +kernel
theorem dX8_dirtyAt_60 : decode cX8_dirtyAt 60 = .ok (.getfield 13, 3) := by decide +kernel
theorem dX8_dirtyAt_63 : decode cX8_dirtyAt 63 = .ok (.if_icmp .le 20, 3) := by decide +kernel
theorem dX8_dirtyAt_66 : decode cX8_dirtyAt 66 = .ok (.dload_n 3, 1) := by decide +kernel
theorem dX8_dirtyAt_67 : decode cX8_dirtyAt 67 = .ok (.dconst 1, 1) := by decide +kernel
theorem dX8_dirtyAt_68 : decode cX8_dirtyAt 68 = .ok (.dload_n 1, 1) := by decide +kernel
theorem dX8_dirtyAt_69 : decode cX8_dirtyAt 69 = .ok (.aload_n 0, 1) := by decide +kernel
theorem dX8_dirtyAt_70 : decode cX8_dirtyAt 70 = .ok (.getfield 7, 3) := by decide +kernel
theorem dX8_dirtyAt_73 : decode cX8_dirtyAt 73 = .ok (.getfield 95, 3) := by decide +kernel
theorem dX8_dirtyAt_76 : decode cX8_dirtyAt 76 = .ok (.iload 8, 2) := by decide +kernel
theorem dX8_dirtyAt_78 : decode cX8_dirtyAt 78 = .ok (.daload, 1) := by decide +kernel
theorem dX8_dirtyAt_79 : decode cX8_dirtyAt 79 = .ok (.dmul, 1) := by decide +kernel
theorem dX8_dirtyAt_80 : decode cX8_dirtyAt 80 = .ok (.dadd, 1) := by decide +kernel
theorem dX8_dirtyAt_81 : decode cX8_dirtyAt 81 = .ok (.dmul, 1) := by decide +kernel
theorem dX8_dirtyAt_82 : decode cX8_dirtyAt 82 = .ok (.dstore_n 3, 1) := by decide +kernel
theorem dX8_dirtyAt_83 : decode cX8_dirtyAt 83 = .ok (.aload_n 0, 1) := by decide +kernel
theorem dX8_dirtyAt_84 : decode cX8_dirtyAt 84 = .ok (.getfield 17, 3) := by decide +kernel
theorem dX8_dirtyAt_87 : decode cX8_dirtyAt 87 = .ok (.ifCond .eq 16, 3) := by decide +kernel
theorem dX8_dirtyAt_90 : decode cX8_dirtyAt 90 = .ok (.iload 8, 2) := by decide +kernel
theorem dX8_dirtyAt_92 : decode cX8_dirtyAt 92 = .ok (.aload_n 0, 1) := by decide +kernel
theorem dX8_dirtyAt_93 : decode cX8_dirtyAt 93 = .ok (.getfield 13, 3) := by decide +kernel
theorem dX8_dirtyAt_96 : decode cX8_dirtyAt 96 = .ok (.if_icmp .ne 7, 3) := by decide +kernel
theorem dX8_dirtyAt_99 : decode cX8_dirtyAt 99 = .ok (.dconst 0, 1) := by decide +kernel
theorem dX8_dirtyAt_100 : decode cX8_dirtyAt 100 = .ok (.goto 13, 3) := by decide +kernel
theorem dX8_dirtyAt_103 : decode cX8_dirtyAt 103 = .ok (.aload_n 0, 1) := by decide +kernel
theorem dX8_dirtyAt_104 : decode cX8_dirtyAt 104 = .ok (.getfield 7, 3) := by decide +kernel
theorem dX8_dirtyAt_107 : decode cX8_dirtyAt 107 = .ok (.getfield 99, 3) := by decide +kernel
theorem dX8_dirtyAt_110 : decode cX8_dirtyAt 110 = .ok (.iload 8, 2) := by decide +kernel
theorem dX8_dirtyAt_112 : decode cX8_dirtyAt 112 = .ok (.daload, 1) := by decide +kernel
theorem dX8_dirtyAt_113 : decode cX8_dirtyAt 113 = .ok (.dstore 9, 2) := by decide +kernel
theorem dX8_dirtyAt_115 : decode cX8_dirtyAt 115 = .ok (.iload 8, 2) := by decide +kernel
theorem dX8_dirtyAt_117 : decode cX8_dirtyAt 117 = .ok (.iload 7, 2) := by decide +kernel
theorem dX8_dirtyAt_119 : decode cX8_dirtyAt 119 = .ok (.if_icmp .ne 11, 3) := by decide +kernel
theorem dX8_dirtyAt_122 : decode cX8_dirtyAt 122 = .ok (.dload 9, 2) := by decide +kernel
theorem dX8_dirtyAt_124 : decode cX8_dirtyAt 124 = .ok (.ldc2_w 102, 3) := by decide +kernel
theorem dX8_dirtyAt_127 : decode cX8_dirtyAt 127 = .ok (.dadd, 1) := by decide +kernel
theorem dX8_dirtyAt_128 : decode cX8_dirtyAt 128 = .ok (.dstore 9, 2) := by decide +kernel
theorem dX8_dirtyAt_130 : decode cX8_dirtyAt 130 = .ok (.dload 5, 2) := by decide +kernel
theorem dX8_dirtyAt_132 : decode cX8_dirtyAt 132 = .ok (.dload 9, 2) := by decide +kernel
theorem dX8_dirtyAt_134 : decode cX8_dirtyAt 134 = .ok (.dload_n 3, 1) := by decide +kernel
theorem dX8_dirtyAt_135 : decode cX8_dirtyAt 135 = .ok (.ddiv, 1) := by decide +kernel
theorem dX8_dirtyAt_136 : decode cX8_dirtyAt 136 = .ok (.dadd, 1) := by decide +kernel
theorem dX8_dirtyAt_137 : decode cX8_dirtyAt 137 = .ok (.dstore 5, 2) := by decide +kernel
theorem dX8_dirtyAt_139 : decode cX8_dirtyAt 139 = .ok (.iinc 8 1, 3) := by decide +kernel
theorem dX8_dirtyAt_142 : decode cX8_dirtyAt 142 = .ok (.goto (-104), 3) := by decide +kernel
theorem dX8_dirtyAt_145 : decode cX8_dirtyAt 145 = .ok (.dload 5, 2) := by decide +kernel
theorem dX8_dirtyAt_147 : decode cX8_dirtyAt 147 = .ok (.dreturn, 1) := by decide +kernel
set_option maxRecDepth 20000 in
theorem ggX8_cleanAt_X8_dirtyAt : GoodIn wsX8_cleanAt wsX8_dirtyAt := goodIn_r _ [6, 7, 8, 9, 10, 11, 12, 13, 14, 15, 16, 17, 18, 19, 20, 21, 22, 23, 24, 25, 26, 27, 28, 29, 30, 31, 32, 33, 34, 35, 36, 37, 38] (by decide +kernel) (by decide +kernel)
set_option maxRecDepth 20000 in
theorem gX8_cleanAt_X8_dirtyAt : GoodIn wsX8_cleanAt (wsV RX8 104 RX8 yX8_dirtyAt wsX8_dirtyAt) := goodIn_app (goodIn_of _ (by decide +kernel)) ggX8_cleanAt_X8_dirtyAt
theorem dX8_cleanAt_0 : decode cX8_cleanAt 0 = .ok (.aload_n 0, 1) := by decide +kernel
theorem dX8_cleanAt_1 : decode cX8_cleanAt 1 = .ok (.dload_n 1, 1) := by decide +kernel
theorem dX8_cleanAt_2 : decode cX8_cleanAt 2 = .ok (.invokevirtual 104, 3) := by decide +kernel
theorem dX8_cleanAt_5 : decode cX8_cleanAt 5 = .ok (.aload_n 0, 1) := by decide +kernel
theorem dX8_cleanAt_6 : decode cX8_cleanAt 6 = .ok (.getfield 34, 3) := by decide +kernel
theorem dX8_cleanAt_9 : decode cX8_cleanAt 9 = .ok (.dsub, 1) := by decide +kernel
theorem dX8_cleanAt_10 : decode cX8_cleanAt 10 = .ok (.dreturn, 1) := by decide +kernel
