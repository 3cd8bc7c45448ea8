theorem dX0_stepMonths_0 : decode cX0_stepMonths 0 = .ok (.aload_n 0, 1) := by decide +kernel
theorem dX0_stepMonths_1 : decode cX0_stepMonths 1 = .ok (.getfield 15, 3) := by decide +kernel
theorem dX0_stepMonths_4 : decode cX0_stepMonths 4 = .ok (.iconst 1, 1) := by decide +kernel
theorem dX0_stepMonths_5 : decode cX0_stepMonths 5 = .ok (.if_icmp .ge 8, 3) := by decide +kernel
theorem dX0_stepMonths_8 : decode cX0_stepMonths 8 = .ok (.bipush 12, 2) := by decide +kernel
theorem dX0_stepMonths_10 : decode cX0_stepMonths 10 = .ok (.goto 10, 3) := by decide +kernel
theorem dX0_stepMonths_13 : decode cX0_stepMonths 13 = .ok (.bipush 12, 2) := by decide +kernel
theorem dX0_stepMonths_15 : decode cX0_stepMonths 15 = .ok (.aload_n 0, 1) := by decide +kernel
theorem dX0_stepMonths_16 : decode cX0_stepMonths 16 = .ok (.getfield 15, 3) := by decide +kernel
theorem dX0_stepMonths_19 : decode cX0_stepMonths 19 = .ok (.idiv, 1) := by decide +kernel
theorem dX0_stepMonths_20 : decode cX0_stepMonths 20 = .ok (.ireturn, 1) := by decide +kernel
set_option maxRecDepth 20000 in
theorem ggX0_layGrid_X3_numberOf : GoodIn wsX0_layGrid wsX3_numberOf := goodIn_r _ [7, 8, 9, 10, 11] (by decide +kernel) (by decide +kernel)
set_option maxRecDepth 20000 in
theorem gX0_layGrid_X3_numberOf : GoodIn wsX0_layGrid (va_wsS RX0 63 yX3_numberOf wsX3_numberOf) := goodIn_app (goodIn_of _ (by decide +kernel)) ggX0_layGrid_X3_numberOf
set_option maxRecDepth 20000 in
theorem ggX0_layGrid_X0_stepMonths : GoodIn wsX0_layGrid wsX0_stepMonths := goodIn_r _ [16, 17, 27, 28, 29, 30, 31, 32, 33, 34, 35, 36, 37, 38, 39, 40, 41, 42] (by decide +kernel) (by decide +kernel)
set_option maxRecDepth 20000 in
theorem gX0_layGrid_X0_stepMonths : GoodIn wsX0_layGrid (wsV RX0 69 RX0 yX0_stepMonths wsX0_stepMonths) := goodIn_app (goodIn_of _ (by decide +kernel)) ggX0_layGrid_X0_stepMonths
set_option maxRecDepth 20000 in
theorem ggX0_layGrid_X3_monthsFrom : GoodIn wsX0_layGrid wsX3_monthsFrom := goodIn_r _ [20, 21, 22, 6, 23] (by decide +kernel) (by decide +kernel)
set_option maxRecDepth 20000 in
theorem gX0_layGrid_X3_monthsFrom : GoodIn wsX0_layGrid (va_wsS RX0 73 yX3_monthsFrom wsX3_monthsFrom) := goodIn_app (goodIn_of _ (by decide +kernel)) ggX0_layGrid_X3_monthsFrom
set_option maxRecDepth 20000 in
theorem ggX0_layGrid_X3_dayOf : GoodIn wsX0_layGrid wsX3_dayOf := goodIn_r _ [26, 8] (by decide +kernel) (by decide +kernel)
set_option maxRecDepth 20000 in
theorem gX0_layGrid_X3_dayOf : GoodIn wsX0_layGrid (va_wsS RX0 77 yX3_dayOf wsX3_dayOf) := goodIn_app (goodIn_of _ (by decide +kernel)) ggX0_layGrid_X3_dayOf
theorem dX0_layGrid_0 : decode cX0_layGrid 0 = .ok (.aload_n 0, 1) := by decide +kernel
theorem dX0_layGrid_1 : decode cX0_layGrid 1 = .ok (.getfield 28, 3) := by decide +kernel
theorem dX0_layGrid_4 : decode cX0_layGrid 4 = .ok (.invokestatic 63, 3) := by decide +kernel
theorem dX0_layGrid_7 : decode cX0_layGrid 7 = .ok (.istore_n 1, 1) := by decide +kernel
theorem dX0_layGrid_8 : decode cX0_layGrid 8 = .ok (.iconst 0, 1) := by decide +kernel
theorem dX0_layGrid_9 : decode cX0_layGrid 9 = .ok (.istore_n 2, 1) := by decide +kernel
theorem dX0_layGrid_10 : decode cX0_layGrid 10 = .ok (.iload_n 2, 1) := by decide +kernel
theorem dX0_layGrid_11 : decode cX0_layGrid 11 = .ok (.aload_n 0, 1) := by decide +kernel
theorem dX0_layGrid_12 : decode cX0_layGrid 12 = .ok (.getfield 43, 3) := by decide +kernel
theorem dX0_layGrid_15 : decode cX0_layGrid 15 = .ok (.arraylength, 1) := by decide +kernel
theorem dX0_layGrid_16 : decode cX0_layGrid 16 = .ok (.if_icmp .ge 37, 3) := by decide +kernel
theorem dX0_layGrid_19 : decode cX0_layGrid 19 = .ok (.iload_n 2, 1) := by decide +kernel
theorem dX0_layGrid_20 : decode cX0_layGrid 20 = .ok (.bipush 90, 2) := by decide +kernel
theorem dX0_layGrid_22 : decode cX0_layGrid 22 = .ok (.isub, 1) := by decide +kernel
theorem dX0_layGrid_23 : decode cX0_layGrid 23 = .ok (.aload_n 0, 1) := by decide +kernel
theorem dX0_layGrid_24 : decode cX0_layGrid 24 = .ok (.invokevirtual 69, 3) := by decide +kernel
theorem dX0_layGrid_27 : decode cX0_layGrid 27 = .ok (.imul, 1) := by decide +kernel
theorem dX0_layGrid_28 : decode cX0_layGrid 28 = .ok (.istore_n 3, 1) := by decide +kernel
theorem dX0_layGrid_29 : decode cX0_layGrid 29 = .ok (.aload_n 0, 1) := by decide +kernel
theorem dX0_layGrid_30 : decode cX0_layGrid 30 = .ok (.getfield 43, 3) := by decide +kernel
theorem dX0_layGrid_33 : decode cX0_layGrid 33 = .ok (.iload_n 2, 1) := by decide +kernel
theorem dX0_layGrid_34 : decode cX0_layGrid 34 = .ok (.iload_n 1, 1) := by decide +kernel
theorem dX0_layGrid_35 : decode cX0_layGrid 35 = .ok (.iload_n 3, 1) := by decide +kernel
theorem dX0_layGrid_36 : decode cX0_layGrid 36 = .ok (.aload_n 0, 1) := by decide +kernel
theorem dX0_layGrid_37 : decode cX0_layGrid 37 = .ok (.getfield 21, 3) := by decide +kernel
theorem dX0_layGrid_40 : decode cX0_layGrid 40 = .ok (.invokestatic 73, 3) := by decide +kernel
theorem dX0_layGrid_43 : decode cX0_layGrid 43 = .ok (.invokestatic 77, 3) := by decide +kernel
theorem dX0_layGrid_46 : decode cX0_layGrid 46 = .ok (.iastore, 1) := by decide +kernel
theorem dX0_layGrid_47 : decode cX0_layGrid 47 = .ok (.iinc 2 1, 3) := by decide +kernel
theorem dX0_layGrid_50 : decode cX0_layGrid 50 = .ok (.goto (-40), 3) := by decide +kernel
theorem dX0_layGrid_53 : decode cX0_layGrid 53 = .ok (.return_, 1) := by decide +kernel
theorem dX0_stepsBehind_0 : decode cX0_stepsBehind 0 = .ok (.iconst 0, 1) := by decide +kernel
theorem dX0_stepsBehind_1 : decode cX0_stepsBehind 1 = .ok (.istore_n 2, 1) := by decide +kernel
theorem dX0_stepsBehind_2 : decode cX0_stepsBehind 2 = .ok (.bipush 90, 2) := by decide +kernel
theorem dX0_stepsBehind_4 : decode cX0_stepsBehind 4 = .ok (.istore_n 3, 1) := by decide +kernel
theorem dX0_stepsBehind_5 : decode cX0_stepsBehind 5 = .ok (.iload_n 3, 1) := by decide +kernel
theorem dX0_stepsBehind_6 : decode cX0_stepsBehind 6 = .ok (.ifCond .lt 22, 3) := by decide +kernel
theorem dX0_stepsBehind_9 : decode cX0_stepsBehind 9 = .ok (.aload_n 0, 1) := by decide +kernel
theorem dX0_stepsBehind_10 : decode cX0_stepsBehind 10 = .ok (.getfield 43, 3) := by decide +kernel
theorem dX0_stepsBehind_13 : decode cX0_stepsBehind 13 = .ok (.iload_n 3, 1) := by decide +kernel
theorem dX0_stepsBehind_14 : decode cX0_stepsBehind 14 = .ok (.iaload, 1) := by decide +kernel
theorem dX0_stepsBehind_15 : decode cX0_stepsBehind 15 = .ok (.iload_n 1, 1) := by decide +kernel
theorem dX0_stepsBehind_16 : decode cX0_stepsBehind 16 = .ok (.if_icmp .le 12, 3) := by decide +kernel
theorem dX0_stepsBehind_19 : decode cX0_stepsBehind 19 = .ok (.iinc 2 1, 3) := by decide +kernel
theorem dX0_stepsBehind_22 : decode cX0_stepsBehind 22 = .ok (.iinc 3 (-1), 3) := by decide +kernel
theorem dX0_stepsBehind_25 : decode cX0_stepsBehind 25 = .ok (.goto (-20), 3) := by decide +kernel
theorem dX0_stepsBehind_28 : decode cX0_stepsBehind 28 = .ok (.iload_n 2, 1) := by decide +kernel
theorem dX0_stepsBehind_29 : decode cX0_stepsBehind 29 = .ok (.ireturn, 1) := by decide +kernel
theorem dX0_gridPlaceOf_0 : decode cX0_gridPlaceOf 0 = .ok (.iconst 0, 1) := by decide +kernel
theorem dX0_gridPlaceOf_1 : decode cX0_gridPlaceOf 1 = .ok (.istore_n 2, 1) := by decide +kernel
theorem dX0_gridPlaceOf_2 : decode cX0_gridPlaceOf 2 = .ok (.iload_n 2, 1) := by decide +kernel
theorem dX0_gridPlaceOf_3 : decode cX0_gridPlaceOf 3 = .ok (.bipush 90, 2) := by decide +kernel
theorem dX0_gridPlaceOf_5 : decode cX0_gridPlaceOf 5 = .ok (.if_icmp .gt 30, 3) := by decide +kernel
theorem dX0_gridPlaceOf_8 : decode cX0_gridPlaceOf 8 = .ok (.iload_n 2, 1) := by decide +kernel
theorem dX0_gridPlaceOf_9 : decode cX0_gridPlaceOf 9 = .ok (.aload_n 0, 1) := by decide +kernel
theorem dX0_gridPlaceOf_10 : decode cX0_gridPlaceOf 10 = .ok (.getfield 43, 3) := by decide +kernel
theorem dX0_gridPlaceOf_13 : decode cX0_gridPlaceOf 13 = .ok (.arraylength, 1) := by decide +kernel
theorem dX0_gridPlaceOf_14 : decode cX0_gridPlaceOf 14 = .ok (.if_icmp .ge 21, 3) := by decide +kernel
theorem dX0_gridPlaceOf_17 : decode cX0_gridPlaceOf 17 = .ok (.aload_n 0, 1) := by decide +kernel
theorem dX0_gridPlaceOf_18 : decode cX0_gridPlaceOf 18 = .ok (.getfield 43, 3) := by decide +kernel
theorem dX0_gridPlaceOf_21 : decode cX0_gridPlaceOf 21 = .ok (.iload_n 2, 1) := by decide +kernel
theorem dX0_gridPlaceOf_22 : decode cX0_gridPlaceOf 22 = .ok (.iaload, 1) := by decide +kernel
theorem dX0_gridPlaceOf_23 : decode cX0_gridPlaceOf 23 = .ok (.iload_n 1, 1) := by decide +kernel
theorem dX0_gridPlaceOf_24 : decode cX0_gridPlaceOf 24 = .ok (.if_icmp .ne 5, 3) := by decide +kernel
theorem dX0_gridPlaceOf_27 : decode cX0_gridPlaceOf 27 = .ok (.iload_n 2, 1) := by decide +kernel
theorem dX0_gridPlaceOf_28 : decode cX0_gridPlaceOf 28 = .ok (.ireturn, 1) := by decide +kernel
theorem dX0_gridPlaceOf_29 : decode cX0_gridPlaceOf 29 = .ok (.iinc 2 1, 3) := by decide +kernel
theorem dX0_gridPlaceOf_32 : decode cX0_gridPlaceOf 32 = .ok (.goto (-30), 3) := by decide +kernel
theorem dX0_gridPlaceOf_35 : decode cX0_gridPlaceOf 35 = .ok (.iconst (-1), 1) := by decide +kernel
theorem dX0_gridPlaceOf_36 : decode cX0_gridPlaceOf 36 = .ok (.ireturn, 1) := by decide +kernel
set_option maxRecDepth 20000 in
theorem ggX0_layPeriods_X0_addPeriod : GoodIn wsX0_layPeriods wsX0_addPeriod := goodIn_r _ [18, 1, 7, 112, 113, 114, 115, 116, 117, 118, 119, 120, 121, 122, 123, 124, 125, 126, 127] (by decide +kernel) (by decide +kernel)
set_option maxRecDepth 20000 in
theorem gX0_layPeriods_X0_addPeriod : GoodIn wsX0_layPeriods (wsV RX0 80 RX0 yX0_addPeriod wsX0_addPeriod) := goodIn_app (goodIn_of _ (by decide +kernel)) ggX0_layPeriods_X0_addPeriod
set_option maxRecDepth 20000 in
theorem ggX0_layPeriods_X5_businessDaysFrom : GoodIn wsX0_layPeriods wsX5_businessDaysFrom := goodIn_r _ [23, 24, 25, 26, 22, 27, 28, 29, 30, 31, 32, 33, 34, 35, 36, 37, 38, 39, 40, 41, 128, 129] (by decide +kernel) (by decide +kernel)
set_option maxRecDepth 20000 in
theorem gX0_layPeriods_X5_businessDaysFrom : GoodIn wsX0_layPeriods (wsV RX0 84 RX5 yX5_businessDaysFrom wsX5_businessDaysFrom) := goodIn_app (goodIn_of _ (by decide +kernel)) ggX0_layPeriods_X5_businessDaysFrom
set_option maxRecDepth 20000 in
theorem ggX0_layPeriods_X5_businessDayNotBefore : GoodIn wsX0_layPeriods wsX5_businessDayNotBefore := goodIn_r _ [45, 24, 25, 26, 22, 27, 28, 29, 30, 31, 32, 33, 34, 35, 36, 37, 38, 39, 40, 41, 128, 129] (by decide +kernel) (by decide +kernel)
set_option maxRecDepth 20000 in
theorem gX0_layPeriods_X5_businessDayNotBefore : GoodIn wsX0_layPeriods (wsV RX0 90 RX5 yX5_businessDayNotBefore wsX5_businessDayNotBefore) := goodIn_app (goodIn_of _ (by decide +kernel)) ggX0_layPeriods_X5_businessDayNotBefore
set_option maxRecDepth 100000 in
theorem ggX0_layPeriods_X0_measurePeriod_p1 : ∀ w ∈ wsX0_measurePeriod_r1, w ∈ wsX0_layPeriods := List.forall_mem_cons.mpr ⟨(List.mem_cons_of_mem _ (List.mem_append_left _ (List.mem_append_left _ (List.mem_append_left _ (List.mem_append_left _ (List.mem_of_getElem? (l := wsX0_layPeriods_r1) (i := 6) rfl)))))), List.forall_mem_cons.mpr ⟨(List.mem_cons_of_mem _ (List.mem_append_left _ (List.mem_append_left _ (List.mem_append_left _ (List.mem_append_right _ (List.mem_append_right _ (List.mem_append_left _ (List.mem_of_getElem? (l := wsX0_layPeriods_r3) (i := 1) rfl)))))))), List.forall_mem_cons.mpr ⟨(List.mem_cons_of_mem _ (List.mem_append_left _ (List.mem_append_left _ (List.mem_append_left _ (List.mem_append_right _ (List.mem_append_right _ (List.mem_append_left _ (List.mem_of_getElem? (l := wsX0_layPeriods_r3) (i := 2) rfl)))))))), List.forall_mem_cons.mpr ⟨(List.mem_cons_of_mem _ (List.mem_append_left _ (List.mem_append_left _ (List.mem_append_left _ (List.mem_append_right _ (List.mem_append_right _ (List.mem_append_left _ (List.mem_of_getElem? (l := wsX0_layPeriods_r3) (i := 3) rfl)))))))), List.forall_mem_cons.mpr ⟨(List.mem_cons_of_mem _ (List.mem_append_left _ (List.mem_append_left _ (List.mem_append_left _ (List.mem_append_left _ (List.mem_of_getElem? (l := wsX0_layPeriods_r1) (i := 16) rfl)))))), List.forall_mem_cons.mpr ⟨(List.mem_cons_of_mem _ (List.mem_append_left _ (List.mem_append_left _ (List.mem_append_left _ (List.mem_append_right _ (List.mem_append_right _ (List.mem_append_left _ (List.mem_of_getElem? (l := wsX0_layPeriods_r3) (i := 4) rfl)))))))), List.forall_mem_cons.mpr ⟨(List.mem_cons_of_mem _ (List.mem_append_left _ (List.mem_append_left _ (List.mem_append_left _ (List.mem_append_left _ (List.mem_of_getElem? (l := wsX0_layPeriods_r1) (i := 0) rfl)))))), List.forall_mem_cons.mpr ⟨(List.mem_cons_of_mem _ (List.mem_append_left _ (List.mem_append_left _ (List.mem_append_left _ (List.mem_append_right _ (List.mem_append_right _ (List.mem_append_left _ (List.mem_of_getElem? (l := wsX0_layPeriods_r3) (i := 5) rfl)))))))), List.forall_mem_cons.mpr ⟨(List.mem_cons_of_mem _ (List.mem_append_left _ (List.mem_append_left _ (List.mem_append_left _ (List.mem_append_right _ (List.mem_append_right _ (List.mem_append_left _ (List.mem_of_getElem? (l := wsX0_layPeriods_r3) (i := 6) rfl)))))))), List.forall_mem_cons.mpr ⟨(List.mem_cons_of_mem _ (List.mem_append_left _ (List.mem_append_left _ (List.mem_append_left _ (List.mem_append_right _ (List.mem_append_right _ (List.mem_append_left _ (List.mem_of_getElem? (l := wsX0_layPeriods_r3) (i := 7) rfl)))))))), List.forall_mem_cons.mpr ⟨(List.mem_cons_of_mem _ (List.mem_append_left _ (List.mem_append_left _ (List.mem_append_left _ (List.mem_append_right _ (List.mem_append_right _ (List.mem_append_left _ (List.mem_of_getElem? (l := wsX0_layPeriods_r3) (i := 8) rfl)))))))), List.forall_mem_cons.mpr ⟨(List.mem_cons_of_mem _ (List.mem_append_left _ (List.mem_append_left _ (List.mem_append_left _ (List.mem_append_right _ (List.mem_append_right _ (List.mem_append_left _ (List.mem_of_getElem? (l := wsX0_layPeriods_r3) (i := 9) rfl)))))))), List.forall_mem_cons.mpr ⟨(List.mem_cons_of_mem _ (List.mem_append_left _ (List.mem_append_left _ (List.mem_append_left _ (List.mem_append_right _ (List.mem_append_right _ (List.mem_append_left _ (List.mem_of_getElem? (l := wsX0_layPeriods_r3) (i := 10) rfl)))))))), List.forall_mem_cons.mpr ⟨(List.mem_cons_of_mem _ (List.mem_append_left _ (List.mem_append_left _ (List.mem_append_left _ (List.mem_append_right _ (List.mem_append_right _ (List.mem_append_left _ (List.mem_of_getElem? (l := wsX0_layPeriods_r3) (i := 11) rfl)))))))), List.forall_mem_cons.mpr ⟨(List.mem_cons_of_mem _ (List.mem_append_left _ (List.mem_append_left _ (List.mem_append_left _ (List.mem_append_right _ (List.mem_append_right _ (List.mem_append_left _ (List.mem_of_getElem? (l := wsX0_layPeriods_r3) (i := 12) rfl)))))))), List.forall_mem_cons.mpr ⟨(List.mem_cons_of_mem _ (List.mem_append_left _ (List.mem_append_left _ (List.mem_append_left _ (List.mem_append_right _ (List.mem_append_right _ (List.mem_append_left _ (List.mem_of_getElem? (l := wsX0_layPeriods_r3) (i := 13) rfl)))))))), List.forall_mem_cons.mpr ⟨(List.mem_cons_of_mem _ (List.mem_append_left _ (List.mem_append_left _ (List.mem_append_left _ (List.mem_append_right _ (List.mem_append_right _ (List.mem_append_left _ (List.mem_of_getElem? (l := wsX0_layPeriods_r3) (i := 14) rfl)))))))), List.forall_mem_cons.mpr ⟨(List.mem_cons_of_mem _ (List.mem_append_left _ (List.mem_append_left _ (List.mem_append_left _ (List.mem_append_left _ (List.mem_of_getElem? (l := wsX0_layPeriods_r1) (i := 2) rfl)))))), List.forall_mem_cons.mpr ⟨(List.mem_cons_of_mem _ (List.mem_append_left _ (List.mem_append_left _ (List.mem_append_left _ (List.mem_append_right _ (List.mem_append_right _ (List.mem_append_left _ (List.mem_of_getElem? (l := wsX0_layPeriods_r3) (i := 15) rfl)))))))), List.forall_mem_cons.mpr ⟨(List.mem_cons_of_mem _ (List.mem_append_left _ (List.mem_append_left _ (List.mem_append_left _ (List.mem_append_right _ (List.mem_append_right _ (List.mem_append_left _ (List.mem_of_getElem? (l := wsX0_layPeriods_r3) (i := 16) rfl)))))))), List.forall_mem_cons.mpr ⟨(List.mem_cons_of_mem _ (List.mem_append_left _ (List.mem_append_left _ (List.mem_append_left _ (List.mem_append_right _ (List.mem_append_left _ (List.mem_of_getElem? (l := wsX0_layPeriods_r2) (i := 9) rfl))))))), List.forall_mem_cons.mpr ⟨(List.mem_cons_of_mem _ (List.mem_append_left _ (List.mem_append_left _ (List.mem_append_left _ (List.mem_append_right _ (List.mem_append_right _ (List.mem_append_left _ (List.mem_of_getElem? (l := wsX0_layPeriods_r3) (i := 18) rfl)))))))), List.forall_mem_cons.mpr ⟨(List.mem_cons_of_mem _ (List.mem_append_left _ (List.mem_append_left _ (List.mem_append_left _ (List.mem_append_right _ (List.mem_append_right _ (List.mem_append_left _ (List.mem_of_getElem? (l := wsX0_layPeriods_r3) (i := 19) rfl)))))))), List.forall_mem_cons.mpr ⟨(List.mem_cons_of_mem _ (List.mem_append_left _ (List.mem_append_left _ (List.mem_append_left _ (List.mem_append_right _ (List.mem_append_right _ (List.mem_append_left _ (List.mem_of_getElem? (l := wsX0_layPeriods_r3) (i := 20) rfl)))))))), (fun _ h => absurd h List.not_mem_nil)⟩⟩⟩⟩⟩⟩⟩⟩⟩⟩⟩⟩⟩⟩⟩⟩⟩⟩⟩⟩⟩⟩⟩⟩
set_option maxRecDepth 100000 in
theorem ggX0_layPeriods_X0_measurePeriod_p2 : ∀ w ∈ wsX0_measurePeriod_r2, w ∈ wsX0_layPeriods := List.forall_mem_cons.mpr ⟨(List.mem_cons_of_mem _ (List.mem_append_left _ (List.mem_append_left _ (List.mem_append_left _ (List.mem_append_right _ (List.mem_append_right _ (List.mem_append_left _ (List.mem_of_getElem? (l := wsX0_layPeriods_r3) (i := 21) rfl)))))))), List.forall_mem_cons.mpr ⟨(List.mem_cons_of_mem _ (List.mem_append_left _ (List.mem_append_left _ (List.mem_append_left _ (List.mem_append_right _ (List.mem_append_right _ (List.mem_append_left _ (List.mem_of_getElem? (l := wsX0_layPeriods_r3) (i := 22) rfl)))))))), List.forall_mem_cons.mpr ⟨(List.mem_cons_of_mem _ (List.mem_append_left _ (List.mem_append_left _ (List.mem_append_left _ (List.mem_append_right _ (List.mem_append_right _ (List.mem_append_left _ (List.mem_of_getElem? (l := wsX0_layPeriods_r3) (i := 23) rfl)))))))), List.forall_mem_cons.mpr ⟨(List.mem_cons_of_mem _ (List.mem_append_left _ (List.mem_append_left _ (List.mem_append_left _ (List.mem_append_right _ (List.mem_append_right _ (List.mem_append_right _ (List.mem_append_left _ (List.mem_of_getElem? (l := wsX0_layPeriods_r4) (i := 0) rfl))))))))), List.forall_mem_cons.mpr ⟨(List.mem_cons_of_mem _ (List.mem_append_left _ (List.mem_append_left _ (List.mem_append_left _ (List.mem_append_right _ (List.mem_append_right _ (List.mem_append_right _ (List.mem_append_left _ (List.mem_of_getElem? (l := wsX0_layPeriods_r4) (i := 1) rfl))))))))), List.forall_mem_cons.mpr ⟨(List.mem_cons_of_mem _ (List.mem_append_left _ (List.mem_append_left _ (List.mem_append_left _ (List.mem_append_right _ (List.mem_append_right _ (List.mem_append_right _ (List.mem_append_left _ (List.mem_of_getElem? (l := wsX0_layPeriods_r4) (i := 2) rfl))))))))), List.forall_mem_cons.mpr ⟨(List.mem_cons_of_mem _ (List.mem_append_left _ (List.mem_append_left _ (List.mem_append_left _ (List.mem_append_right _ (List.mem_append_right _ (List.mem_append_right _ (List.mem_append_left _ (List.mem_of_getElem? (l := wsX0_layPeriods_r4) (i := 3) rfl))))))))), List.forall_mem_cons.mpr ⟨(List.mem_cons_of_mem _ (List.mem_append_left _ (List.mem_append_left _ (List.mem_append_left _ (List.mem_append_right _ (List.mem_append_right _ (List.mem_append_right _ (List.mem_append_left _ (List.mem_of_getElem? (l := wsX0_layPeriods_r4) (i := 4) rfl))))))))), List.forall_mem_cons.mpr ⟨(List.mem_cons_of_mem _ (List.mem_append_left _ (List.mem_append_left _ (List.mem_append_left _ (List.mem_append_right _ (List.mem_append_right _ (List.mem_append_right _ (List.mem_append_left _ (List.mem_of_getElem? (l := wsX0_layPeriods_r4) (i := 5) rfl))))))))), List.forall_mem_cons.mpr ⟨(List.mem_cons_of_mem _ (List.mem_append_left _ (List.mem_append_left _ (List.mem_append_left _ (List.mem_append_right _ (List.mem_append_right _ (List.mem_append_right _ (List.mem_append_left _ (List.mem_of_getElem? (l := wsX0_layPeriods_r4) (i := 6) rfl))))))))), List.forall_mem_cons.mpr ⟨(List.mem_cons_of_mem _ (List.mem_append_left _ (List.mem_append_left _ (List.mem_append_left _ (List.mem_append_right _ (List.mem_append_right _ (List.mem_append_right _ (List.mem_append_left _ (List.mem_of_getElem? (l := wsX0_layPeriods_r4) (i := 7) rfl))))))))), List.forall_mem_cons.mpr ⟨(List.mem_cons_of_mem _ (List.mem_append_left _ (List.mem_append_left _ (List.mem_append_left _ (List.mem_append_right _ (List.mem_append_right _ (List.mem_append_right _ (List.mem_append_left _ (List.mem_of_getElem? (l := wsX0_layPeriods_r4) (i := 8) rfl))))))))), List.forall_mem_cons.mpr ⟨(List.mem_cons_of_mem _ (List.mem_append_left _ (List.mem_append_left _ (List.mem_append_left _ (List.mem_append_right _ (List.mem_append_right _ (List.mem_append_right _ (List.mem_append_left _ (List.mem_of_getElem? (l := wsX0_layPeriods_r4) (i := 9) rfl))))))))), List.forall_mem_cons.mpr ⟨(List.mem_cons_of_mem _ (List.mem_append_left _ (List.mem_append_left _ (List.mem_append_left _ (List.mem_append_right _ (List.mem_append_right _ (List.mem_append_right _ (List.mem_append_left _ (List.mem_of_getElem? (l := wsX0_layPeriods_r4) (i := 10) rfl))))))))), List.forall_mem_cons.mpr ⟨(List.mem_cons_of_mem _ (List.mem_append_left _ (List.mem_append_left _ (List.mem_append_left _ (List.mem_append_right _ (List.mem_append_right _ (List.mem_append_right _ (List.mem_append_left _ (List.mem_of_getElem? (l := wsX0_layPeriods_r4) (i := 11) rfl))))))))), List.forall_mem_cons.mpr ⟨(List.mem_cons_of_mem _ (List.mem_append_left _ (List.mem_append_left _ (List.mem_append_left _ (List.mem_append_right _ (List.mem_append_right _ (List.mem_append_right _ (List.mem_append_left _ (List.mem_of_getElem? (l := wsX0_layPeriods_r4) (i := 12) rfl))))))))), List.forall_mem_cons.mpr ⟨(List.mem_cons_of_mem _ (List.mem_append_left _ (List.mem_append_left _ (List.mem_append_left _ (List.mem_append_right _ (List.mem_append_right _ (List.mem_append_right _ (List.mem_append_left _ (List.mem_of_getElem? (l := wsX0_layPeriods_r4) (i := 13) rfl))))))))), List.forall_mem_cons.mpr ⟨(List.mem_cons_of_mem _ (List.mem_append_left _ (List.mem_append_left _ (List.mem_append_left _ (List.mem_append_right _ (List.mem_append_right _ (List.mem_append_right _ (List.mem_append_left _ (List.mem_of_getElem? (l := wsX0_layPeriods_r4) (i := 14) rfl))))))))), List.forall_mem_cons.mpr ⟨(List.mem_cons_of_mem _ (List.mem_append_left _ (List.mem_append_left _ (List.mem_append_left _ (List.mem_append_right _ (List.mem_append_right _ (List.mem_append_right _ (List.mem_append_left _ (List.mem_of_getElem? (l := wsX0_layPeriods_r4) (i := 15) rfl))))))))), List.forall_mem_cons.mpr ⟨(List.mem_cons_of_mem _ (List.mem_append_left _ (List.mem_append_left _ (List.mem_append_left _ (List.mem_append_right _ (List.mem_append_right _ (List.mem_append_right _ (List.mem_append_left _ (List.mem_of_getElem? (l := wsX0_layPeriods_r4) (i := 16) rfl))))))))), List.forall_mem_cons.mpr ⟨(List.mem_cons_of_mem _ (List.mem_append_left _ (List.mem_append_left _ (List.mem_append_left _ (List.mem_append_right _ (List.mem_append_left _ (List.mem_of_getElem? (l := wsX0_layPeriods_r2) (i := 5) rfl))))))), List.forall_mem_cons.mpr ⟨(List.mem_cons_of_mem _ (List.mem_append_left _ (List.mem_append_left _ (List.mem_append_left _ (List.mem_append_right _ (List.mem_append_right _ (List.mem_append_right _ (List.mem_append_left _ (List.mem_of_getElem? (l := wsX0_layPeriods_r4) (i := 17) rfl))))))))), List.forall_mem_cons.mpr ⟨(List.mem_cons_of_mem _ (List.mem_append_left _ (List.mem_append_left _ (List.mem_append_left _ (List.mem_append_right _ (List.mem_append_right _ (List.mem_append_right _ (List.mem_append_left _ (List.mem_of_getElem? (l := wsX0_layPeriods_r4) (i := 18) rfl))))))))), List.forall_mem_cons.mpr ⟨(List.mem_cons_of_mem _ (List.mem_append_left _ (List.mem_append_left _ (List.mem_append_left _ (List.mem_append_right _ (List.mem_append_right _ (List.mem_append_right _ (List.mem_append_left _ (List.mem_of_getElem? (l := wsX0_layPeriods_r4) (i := 19) rfl))))))))), (fun _ h => absurd h List.not_mem_nil)⟩⟩⟩⟩⟩⟩⟩⟩⟩⟩⟩⟩⟩⟩⟩⟩⟩⟩⟩⟩⟩⟩⟩⟩
set_option maxRecDepth 100000 in
theorem ggX0_layPeriods_X0_measurePeriod_p3 : ∀ w ∈ wsX0_measurePeriod_r3, w ∈ wsX0_layPeriods := List.forall_mem_cons.mpr ⟨(List.mem_cons_of_mem _ (List.mem_append_left _ (List.mem_append_left _ (List.mem_append_left _ (List.mem_append_right _ (List.mem_append_right _ (List.mem_append_right _ (List.mem_append_left _ (List.mem_of_getElem? (l := wsX0_layPeriods_r4) (i := 20) rfl))))))))), List.forall_mem_cons.mpr ⟨(List.mem_cons_of_mem _ (List.mem_append_left _ (List.mem_append_left _ (List.mem_append_left _ (List.mem_append_right _ (List.mem_append_right _ (List.mem_append_right _ (List.mem_append_left _ (List.mem_of_getElem? (l := wsX0_layPeriods_r4) (i := 21) rfl))))))))), List.forall_mem_cons.mpr ⟨(List.mem_cons_of_mem _ (List.mem_append_left _ (List.mem_append_left _ (List.mem_append_left _ (List.mem_append_right _ (List.mem_append_right _ (List.mem_append_right _ (List.mem_append_left _ (List.mem_of_getElem? (l := wsX0_layPeriods_r4) (i := 22) rfl))))))))), List.forall_mem_cons.mpr ⟨(List.mem_cons_of_mem _ (List.mem_append_left _ (List.mem_append_left _ (List.mem_append_left _ (List.mem_append_right _ (List.mem_append_right _ (List.mem_append_right _ (List.mem_append_left _ (List.mem_of_getElem? (l := wsX0_layPeriods_r4) (i := 23) rfl))))))))), List.forall_mem_cons.mpr ⟨(List.mem_cons_of_mem _ (List.mem_append_left _ (List.mem_append_left _ (List.mem_append_left _ (List.mem_append_right _ (List.mem_append_right _ (List.mem_append_right _ (List.mem_append_right _ (List.mem_of_getElem? (l := wsX0_layPeriods_r5) (i := 0) rfl))))))))), List.forall_mem_cons.mpr ⟨(List.mem_cons_of_mem _ (List.mem_append_left _ (List.mem_append_left _ (List.mem_append_left _ (List.mem_append_right _ (List.mem_append_right _ (List.mem_append_right _ (List.mem_append_right _ (List.mem_of_getElem? (l := wsX0_layPeriods_r5) (i := 1) rfl))))))))), List.forall_mem_cons.mpr ⟨(List.mem_cons_of_mem _ (List.mem_append_left _ (List.mem_append_left _ (List.mem_append_left _ (List.mem_append_right _ (List.mem_append_right _ (List.mem_append_right _ (List.mem_append_right _ (List.mem_of_getElem? (l := wsX0_layPeriods_r5) (i := 2) rfl))))))))), List.forall_mem_cons.mpr ⟨(List.mem_cons_of_mem _ (List.mem_append_left _ (List.mem_append_left _ (List.mem_append_left _ (List.mem_append_right _ (List.mem_append_right _ (List.mem_append_right _ (List.mem_append_right _ (List.mem_of_getElem? (l := wsX0_layPeriods_r5) (i := 3) rfl))))))))), List.forall_mem_cons.mpr ⟨(List.mem_cons_of_mem _ (List.mem_append_left _ (List.mem_append_left _ (List.mem_append_left _ (List.mem_append_right _ (List.mem_append_right _ (List.mem_append_right _ (List.mem_append_right _ (List.mem_of_getElem? (l := wsX0_layPeriods_r5) (i := 4) rfl))))))))), List.forall_mem_cons.mpr ⟨(List.mem_cons_of_mem _ (List.mem_append_left _ (List.mem_append_left _ (List.mem_append_left _ (List.mem_append_right _ (List.mem_append_right _ (List.mem_append_right _ (List.mem_append_right _ (List.mem_of_getElem? (l := wsX0_layPeriods_r5) (i := 5) rfl))))))))), List.forall_mem_cons.mpr ⟨(List.mem_cons_of_mem _ (List.mem_append_left _ (List.mem_append_left _ (List.mem_append_left _ (List.mem_append_right _ (List.mem_append_right _ (List.mem_append_right _ (List.mem_append_right _ (List.mem_of_getElem? (l := wsX0_layPeriods_r5) (i := 6) rfl))))))))), (fun _ h => absurd h List.not_mem_nil)⟩⟩⟩⟩⟩⟩⟩⟩⟩⟩⟩
set_option maxRecDepth 100000 in
theorem ggX0_layPeriods_X0_measurePeriod : GoodIn wsX0_layPeriods wsX0_measurePeriod := goodIn_sub (fun w h => (List.mem_cons.mp h).elim (fun e => e ▸ ((List.mem_cons_of_mem _ (List.mem_append_left _ (List.mem_append_left _ (List.mem_append_left _ (List.mem_append_right _ (List.mem_append_right _ (List.mem_append_left _ (List.mem_of_getElem? (l := wsX0_layPeriods_r3) (i := 0) rfl)))))))) : Cond.code yX0_measurePeriod cX0_measurePeriod 3 none ∈ wsX0_layPeriods)) (fun h => (List.mem_append.mp h).elim (fun h => (List.mem_append.mp h).elim (fun h => (List.mem_append.mp h).elim (fun h => ggX0_layPeriods_X0_measurePeriod_p1 w h) (fun h => (List.mem_append.mp h).elim (fun h => ggX0_layPeriods_X0_measurePeriod_p2 w h) (fun h => ggX0_layPeriods_X0_measurePeriod_p3 w h))) (fun h => (List.mem_cons_of_mem _ (List.mem_append_left _ (List.mem_append_left _ (List.mem_append_right _ h)))))) (fun h => (List.mem_cons_of_mem _ (List.mem_append_right _ h))))) (by decide +kernel)
set_option maxRecDepth 20000 in
theorem gX0_layPeriods_X0_measurePeriod : GoodIn wsX0_layPeriods (wsV RX0 93 RX0 yX0_measurePeriod wsX0_measurePeriod) := goodIn_app (goodIn_of _ (by decide +kernel)) ggX0_layPeriods_X0_measurePeriod
set_option maxRecDepth 20000 in
theorem ggX0_layPeriods_X6_value : GoodIn wsX0_layPeriods wsX6_value := goodIn_r _ [107, 83, 84, 130, 131] (by decide +kernel) (by decide +kernel)
set_option maxRecDepth 20000 in
theorem gX0_layPeriods_X6_value : GoodIn wsX0_layPeriods (wsV RX0 97 RX6 yX6_value wsX6_value) := goodIn_app (goodIn_of _ (by decide +kernel)) ggX0_layPeriods_X6_value
set_option maxRecDepth 20000 in
theorem ggX0_layPeriods_X6_multiply : GoodIn wsX0_layPeriods wsX6_multiply := goodIn_r _ [111, 83, 84, 79, 80, 81, 75, 82, 85, 86, 87, 130, 131] (by decide +kernel) (by decide +kernel)
set_option maxRecDepth 20000 in
theorem gX0_layPeriods_X6_multiply : GoodIn wsX0_layPeriods (wsV RX0 105 RX6 yX6_multiply wsX6_multiply) := goodIn_app (goodIn_of _ (by decide +kernel)) ggX0_layPeriods_X6_multiply
theorem dX0_layPeriods_0 : decode cX0_layPeriods 0 = .ok (.aload_n 0, 1) := by decide +kernel
theorem dX0_layPeriods_1 : decode cX0_layPeriods 1 = .ok (.iconst 0, 1) := by decide +kernel
theorem dX0_layPeriods_2 : decode cX0_layPeriods 2 = .ok (.putfield 40, 3) := by decide +kernel
theorem dX0_layPeriods_5 : decode cX0_layPeriods 5 = .ok (.aload_n 0, 1) := by decide +kernel
theorem dX0_layPeriods_6 : decode cX0_layPeriods 6 = .ok (.getfield 37, 3) := by decide +kernel
theorem dX0_layPeriods_9 : decode cX0_layPeriods 9 = .ok (.istore_n 3, 1) := by decide +kernel
theorem dX0_layPeriods_10 : decode cX0_layPeriods 10 = .ok (.iload_n 3, 1) := by decide +kernel
theorem dX0_layPeriods_11 : decode cX0_layPeriods 11 = .ok (.ifCond .lt 25, 3) := by decide +kernel
theorem dX0_layPeriods_14 : decode cX0_layPeriods 14 = .ok (.iload_n 3, 1) := by decide +kernel
theorem dX0_layPeriods_15 : decode cX0_layPeriods 15 = .ok (.bipush 90, 2) := by decide +kernel
theorem dX0_layPeriods_17 : decode cX0_layPeriods 17 = .ok (.if_icmp .gt 19, 3) := by decide +kernel
theorem dX0_layPeriods_20 : decode cX0_layPeriods 20 = .ok (.aload_n 0, 1) := by decide +kernel
theorem dX0_layPeriods_21 : decode cX0_layPeriods 21 = .ok (.aload_n 0, 1) := by decide +kernel
theorem dX0_layPeriods_22 : decode cX0_layPeriods 22 = .ok (.getfield 43, 3) := by decide +kernel
theorem dX0_layPeriods_25 : decode cX0_layPeriods 25 = .ok (.iload_n 3, 1) := by decide +kernel
theorem dX0_layPeriods_26 : decode cX0_layPeriods 26 = .ok (.iaload, 1) := by decide +kernel
theorem dX0_layPeriods_27 : decode cX0_layPeriods 27 = .ok (.invokevirtual 80, 3) := by decide +kernel
theorem dX0_layPeriods_30 : decode cX0_layPeriods 30 = .ok (.iinc 3 1, 3) := by decide +kernel
theorem dX0_layPeriods_33 : decode cX0_layPeriods 33 = .ok (.goto (-23), 3) := by decide +kernel
theorem dX0_layPeriods_36 : decode cX0_layPeriods 36 = .ok (.aload_n 0, 1) := by decide +kernel
theorem dX0_layPeriods_37 : decode cX0_layPeriods 37 = .ok (.getfield 25, 3) := by decide +kernel
theorem dX0_layPeriods_40 : decode cX0_layPeriods 40 = .ok (.aload_n 0, 1) := by decide +kernel
theorem dX0_layPeriods_41 : decode cX0_layPeriods 41 = .ok (.getfield 28, 3) := by decide +kernel
theorem dX0_layPeriods_44 : decode cX0_layPeriods 44 = .ok (.if_icmp .le 11, 3) := by decide +kernel
theorem dX0_layPeriods_47 : decode cX0_layPeriods 47 = .ok (.aload_n 0, 1) := by decide +kernel
theorem dX0_layPeriods_48 : decode cX0_layPeriods 48 = .ok (.aload_n 0, 1) := by decide +kernel
theorem dX0_layPeriods_49 : decode cX0_layPeriods 49 = .ok (.getfield 25, 3) := by decide +kernel
theorem dX0_layPeriods_52 : decode cX0_layPeriods 52 = .ok (.invokevirtual 80, 3) := by decide +kernel
theorem dX0_layPeriods_55 : decode cX0_layPeriods 55 = .ok (.iconst 0, 1) := by decide +kernel
theorem dX0_layPeriods_56 : decode cX0_layPeriods 56 = .ok (.istore_n 3, 1) := by decide +kernel
theorem dX0_layPeriods_57 : decode cX0_layPeriods 57 = .ok (.iload_n 3, 1) := by decide +kernel
theorem dX0_layPeriods_58 : decode cX0_layPeriods 58 = .ok (.aload_n 0, 1) := by decide +kernel
theorem dX0_layPeriods_59 : decode cX0_layPeriods 59 = .ok (.getfield 40, 3) := by decide +kernel
theorem dX0_layPeriods_62 : decode cX0_layPeriods 62 = .ok (.if_icmp .ge 84, 3) := by decide +kernel
theorem dX0_layPeriods_65 : decode cX0_layPeriods 65 = .ok (.aload_n 0, 1) := by decide +kernel
theorem dX0_layPeriods_66 : decode cX0_layPeriods 66 = .ok (.getfield 50, 3) := by decide +kernel
theorem dX0_layPeriods_69 : decode cX0_layPeriods 69 = .ok (.iload_n 3, 1) := by decide +kernel
theorem dX0_layPeriods_70 : decode cX0_layPeriods 70 = .ok (.aload_n 1, 1) := by decide +kernel
theorem dX0_layPeriods_71 : decode cX0_layPeriods 71 = .ok (.aload_n 0, 1) := by decide +kernel
theorem dX0_layPeriods_72 : decode cX0_layPeriods 72 = .ok (.getfield 47, 3) := by decide +kernel
theorem dX0_layPeriods_75 : decode cX0_layPeriods 75 = .ok (.iload_n 3, 1) := by decide +kernel
theorem dX0_layPeriods_76 : decode cX0_layPeriods 76 = .ok (.iaload, 1) := by decide +kernel
theorem dX0_layPeriods_77 : decode cX0_layPeriods 77 = .ok (.aload_n 0, 1) := by decide +kernel
theorem dX0_layPeriods_78 : decode cX0_layPeriods 78 = .ok (.getfield 34, 3) := by decide +kernel
theorem dX0_layPeriods_81 : decode cX0_layPeriods 81 = .ok (.ineg, 1) := by decide +kernel
theorem dX0_layPeriods_82 : decode cX0_layPeriods 82 = .ok (.invokevirtual 84, 3) := by decide +kernel
theorem dX0_layPeriods_85 : decode cX0_layPeriods 85 = .ok (.iastore, 1) := by decide +kernel
theorem dX0_layPeriods_86 : decode cX0_layPeriods 86 = .ok (.aload_n 0, 1) := by decide +kernel
theorem dX0_layPeriods_87 : decode cX0_layPeriods 87 = .ok (.getfield 53, 3) := by decide +kernel
theorem dX0_layPeriods_90 : decode cX0_layPeriods 90 = .ok (.iload_n 3, 1) := by decide +kernel
theorem dX0_layPeriods_91 : decode cX0_layPeriods 91 = .ok (.aload_n 1, 1) := by decide +kernel
theorem dX0_layPeriods_92 : decode cX0_layPeriods 92 = .ok (.aload_n 0, 1) := by decide +kernel
theorem dX0_layPeriods_93 : decode cX0_layPeriods 93 = .ok (.getfield 47, 3) := by decide +kernel
theorem dX0_layPeriods_96 : decode cX0_layPeriods 96 = .ok (.iload_n 3, 1) := by decide +kernel
theorem dX0_layPeriods_97 : decode cX0_layPeriods 97 = .ok (.iaload, 1) := by decide +kernel
theorem dX0_layPeriods_98 : decode cX0_layPeriods 98 = .ok (.invokevirtual 90, 3) := by decide +kernel
theorem dX0_layPeriods_101 : decode cX0_layPeriods 101 = .ok (.iastore, 1) := by decide +kernel
theorem dX0_layPeriods_102 : decode cX0_layPeriods 102 = .ok (.aload_n 0, 1) := by decide +kernel
theorem dX0_layPeriods_103 : decode cX0_layPeriods 103 = .ok (.iload_n 3, 1) := by decide +kernel
theorem dX0_layPeriods_104 : decode cX0_layPeriods 104 = .ok (.aload_n 2, 1) := by decide +kernel
theorem dX0_layPeriods_105 : decode cX0_layPeriods 105 = .ok (.invokevirtual 93, 3) := by decide +kernel
theorem dX0_layPeriods_108 : decode cX0_layPeriods 108 = .ok (.aload_n 0, 1) := by decide +kernel
theorem dX0_layPeriods_109 : decode cX0_layPeriods 109 = .ok (.getfield 56, 3) := by decide +kernel
theorem dX0_layPeriods_112 : decode cX0_layPeriods 112 = .ok (.iload_n 3, 1) := by decide +kernel
theorem dX0_layPeriods_113 : decode cX0_layPeriods 113 = .ok (.aload_n 2, 1) := by decide +kernel
theorem dX0_layPeriods_114 : decode cX0_layPeriods 114 = .ok (.invokevirtual 97, 3) := by decide +kernel
theorem dX0_layPeriods_117 : decode cX0_layPeriods 117 = .ok (.dastore, 1) := by decide +kernel
theorem dX0_layPeriods_118 : decode cX0_layPeriods 118 = .ok (.aload_n 2, 1) := by decide +kernel
theorem dX0_layPeriods_119 : decode cX0_layPeriods 119 = .ok (.aload_n 0, 1) := by decide +kernel
theorem dX0_layPeriods_120 : decode cX0_layPeriods 120 = .ok (.getfield 11, 3) := by decide +kernel
theorem dX0_layPeriods_123 : decode cX0_layPeriods 123 = .ok (.i2l, 1) := by decide +kernel
theorem dX0_layPeriods_124 : decode cX0_layPeriods 124 = .ok (.ldc2_w 103, 3) := by decide +kernel
theorem dX0_layPeriods_127 : decode cX0_layPeriods 127 = .ok (.invokevirtual 105, 3) := by decide +kernel
theorem dX0_layPeriods_130 : decode cX0_layPeriods 130 = .ok (.aload_n 0, 1) := by decide +kernel
theorem dX0_layPeriods_131 : decode cX0_layPeriods 131 = .ok (.getfield 60, 3) := by decide +kernel
theorem dX0_layPeriods_134 : decode cX0_layPeriods 134 = .ok (.iload_n 3, 1) := by decide +kernel
theorem dX0_layPeriods_135 : decode cX0_layPeriods 135 = .ok (.aload_n 2, 1) := by decide +kernel
theorem dX0_layPeriods_136 : decode cX0_layPeriods 136 = .ok (.invokevirtual 97, 3) := by decide +kernel
theorem dX0_layPeriods_139 : decode cX0_layPeriods 139 = .ok (.dastore, 1) := by decide +kernel
theorem dX0_layPeriods_140 : decode cX0_layPeriods 140 = .ok (.iinc 3 1, 3) := by decide +kernel
theorem dX0_layPeriods_143 : decode cX0_layPeriods 143 = .ok (.goto (-86), 3) := by decide +kernel
theorem dX0_layPeriods_146 : decode cX0_layPeriods 146 = .ok (.return_, 1) := by decide +kernel
theorem dX0_addPeriod_0 : decode cX0_addPeriod 0 = .ok (.aload_n 0, 1) := by decide +kernel
theorem dX0_addPeriod_1 : decode cX0_addPeriod 1 = .ok (.getfield 40, 3) := by decide +kernel
theorem dX0_addPeriod_4 : decode cX0_addPeriod 4 = .ok (.aload_n 0, 1) := by decide +kernel
theorem dX0_addPeriod_5 : decode cX0_addPeriod 5 = .ok (.getfield 47, 3) := by decide +kernel
theorem dX0_addPeriod_8 : decode cX0_addPeriod 8 = .ok (.arraylength, 1) := by decide +kernel
theorem dX0_addPeriod_9 : decode cX0_addPeriod 9 = .ok (.if_icmp .ge 23, 3) := by decide +kernel
theorem dX0_addPeriod_12 : decode cX0_addPeriod 12 = .ok (.aload_n 0, 1) := by decide +kernel
theorem dX0_addPeriod_13 : decode cX0_addPeriod 13 = .ok (.getfield 47, 3) := by decide +kernel
theorem dX0_addPeriod_16 : decode cX0_addPeriod 16 = .ok (.aload_n 0, 1) := by decide +kernel
theorem dX0_addPeriod_17 : decode cX0_addPeriod 17 = .ok (.getfield 40, 3) := by decide +kernel
theorem dX0_addPeriod_20 : decode cX0_addPeriod 20 = .ok (.iload_n 1, 1) := by decide +kernel
theorem dX0_addPeriod_21 : decode cX0_addPeriod 21 = .ok (.iastore, 1) := by decide +kernel
theorem dX0_addPeriod_22 : decode cX0_addPeriod 22 = .ok (.aload_n 0, 1) := by decide +kernel
theorem dX0_addPeriod_23 : decode cX0_addPeriod 23 = .ok (.dup, 1) := by decide +kernel
theorem dX0_addPeriod_24 : decode cX0_addPeriod 24 = .ok (.getfield 40, 3) := by decide +kernel
theorem dX0_addPeriod_27 : decode cX0_addPeriod 27 = .ok (.iconst 1, 1) := by decide +kernel
theorem dX0_addPeriod_28 : decode cX0_addPeriod 28 = .ok (.iadd, 1) := by decide +kernel
theorem dX0_addPeriod_29 : decode cX0_addPeriod 29 = .ok (.putfield 40, 3) := by decide +kernel
theorem dX0_addPeriod_32 : decode cX0_addPeriod 32 = .ok (.return_, 1) := by decide +kernel
theorem dX0_hasPeriod_0 : decode cX0_hasPeriod 0 = .ok (.iload_n 1, 1) := by decide +kernel
theorem dX0_hasPeriod_1 : decode cX0_hasPeriod 1 = .ok (.ifCond .lt 24, 3) := by decide +kernel
theorem dX0_hasPeriod_4 : decode cX0_hasPeriod 4 = .ok (.iload_n 1, 1) := by decide +kernel
theorem dX0_hasPeriod_5 : decode cX0_hasPeriod 5 = .ok (.aload_n 0, 1) := by decide +kernel
theorem dX0_hasPeriod_6 : decode cX0_hasPeriod 6 = .ok (.getfield 40, 3) := by decide +kernel
theorem dX0_hasPeriod_9 : decode cX0_hasPeriod 9 = .ok (.if_icmp .ge 16, 3) := by decide +kernel
theorem dX0_hasPeriod_12 : decode cX0_hasPeriod 12 = .ok (.iload_n 1, 1) := by decide +kernel
theorem dX0_hasPeriod_13 : decode cX0_hasPeriod 13 = .ok (.aload_n 0, 1) := by decide +kernel
theorem dX0_hasPeriod_14 : decode cX0_hasPeriod 14 = .ok (.getfield 47, 3) := by decide +kernel
theorem dX0_hasPeriod_17 : decode cX0_hasPeriod 17 = .ok (.arraylength, 1) := by decide +kernel
theorem dX0_hasPeriod_18 : decode cX0_hasPeriod 18 = .ok (.if_icmp .ge 7, 3) := by decide +kernel
theorem dX0_hasPeriod_21 : decode cX0_hasPeriod 21 = .ok (.iconst 1, 1) := by decide +kernel
theorem dX0_hasPeriod_22 : decode cX0_hasPeriod 22 = .ok (.goto 4, 3) := by decide +kernel
theorem dX0_hasPeriod_25 : decode cX0_hasPeriod 25 = .ok (.iconst 0, 1) := by decide +kernel
theorem dX0_hasPeriod_26 : decode cX0_hasPeriod 26 = .ok (.ireturn, 1) := by decide +kernel
theorem dX0_startOf_0 : decode cX0_startOf 0 = .ok (.iload_n 1, 1) := by decide +kernel
theorem dX0_startOf_1 : decode cX0_startOf 1 = .ok (.ifCond .le 23, 3) := by decide +kernel
theorem dX0_startOf_4 : decode cX0_startOf 4 = .ok (.iload_n 1, 1) := by decide +kernel
theorem dX0_startOf_5 : decode cX0_startOf 5 = .ok (.aload_n 0, 1) := by decide +kernel
theorem dX0_startOf_6 : decode cX0_startOf 6 = .ok (.getfield 47, 3) := by decide +kernel
theorem dX0_startOf_9 : decode cX0_startOf 9 = .ok (.arraylength, 1) := by decide +kernel
theorem dX0_startOf_10 : decode cX0_startOf 10 = .ok (.if_icmp .gt 14, 3) := by decide +kernel
theorem dX0_startOf_13 : decode cX0_startOf 13 = .ok (.aload_n 0, 1) := by decide +kernel
theorem dX0_startOf_14 : decode cX0_startOf 14 = .ok (.getfield 47, 3) := by decide +kernel
theorem dX0_startOf_17 : decode cX0_startOf 17 = .ok (.iload_n 1, 1) := by decide +kernel
theorem dX0_startOf_18 : decode cX0_startOf 18 = .ok (.iconst 1, 1) := by decide +kernel
theorem dX0_startOf_19 : decode cX0_startOf 19 = .ok (.isub, 1) := by decide +kernel
theorem dX0_startOf_20 : decode cX0_startOf 20 = .ok (.iaload, 1) := by decide +kernel
theorem dX0_startOf_21 : decode cX0_startOf 21 = .ok (.goto 7, 3) := by decide +kernel
theorem dX0_startOf_24 : decode cX0_startOf 24 = .ok (.aload_n 0, 1) := by decide +kernel
theorem dX0_startOf_25 : decode cX0_startOf 25 = .ok (.getfield 31, 3) := by decide +kernel
theorem dX0_startOf_28 : decode cX0_startOf 28 = .ok (.ireturn, 1) := by decide +kernel
theorem dX0_isSettle_0 : decode cX0_isSettle 0 = .ok (.iload_n 1, 1) := by decide +kernel
theorem dX0_isSettle_1 : decode cX0_isSettle 1 = .ok (.aload_n 0, 1) := by decide +kernel
theorem dX0_isSettle_2 : decode cX0_isSettle 2 = .ok (.getfield 31, 3) := by decide +kernel
theorem dX0_isSettle_5 : decode cX0_isSettle 5 = .ok (.if_icmp .lt 15, 3) := by decide +kernel
theorem dX0_isSettle_8 : decode cX0_isSettle 8 = .ok (.iload_n 1, 1) := by decide +kernel
theorem dX0_isSettle_9 : decode cX0_isSettle 9 = .ok (.aload_n 0, 1) := by decide +kernel
theorem dX0_isSettle_10 : decode cX0_isSettle 10 = .ok (.getfield 25, 3) := by decide +kernel
theorem dX0_isSettle_13 : decode cX0_isSettle 13 = .ok (.if_icmp .ge 7, 3) := by decide +kernel
theorem dX0_isSettle_16 : decode cX0_isSettle 16 = .ok (.iconst 1, 1) := by decide +kernel
theorem dX0_isSettle_17 : decode cX0_isSettle 17 = .ok (.goto 4, 3) := by decide +kernel
theorem dX0_isSettle_20 : decode cX0_isSettle 20 = .ok (.iconst 0, 1) := by decide +kernel
theorem dX0_isSettle_21 : decode cX0_isSettle 21 = .ok (.ireturn, 1) := by decide +kernel
theorem dX0_periodAt_0 : decode cX0_periodAt 0 = .ok (.iconst 0, 1) := by decide +kernel
theorem dX0_periodAt_1 : decode cX0_periodAt 1 = .ok (.istore_n 2, 1) := by decide +kernel
theorem dX0_periodAt_2 : decode cX0_periodAt 2 = .ok (.iload_n 2, 1) := by decide +kernel
theorem dX0_periodAt_3 : decode cX0_periodAt 3 = .ok (.aload_n 0, 1) := by decide +kernel
theorem dX0_periodAt_4 : decode cX0_periodAt 4 = .ok (.getfield 40, 3) := by decide +kernel
theorem dX0_periodAt_7 : decode cX0_periodAt 7 = .ok (.iconst 1, 1) := by decide +kernel
theorem dX0_periodAt_8 : decode cX0_periodAt 8 = .ok (.isub, 1) := by decide +kernel
theorem dX0_periodAt_9 : decode cX0_periodAt 9 = .ok (.if_icmp .ge 19, 3) := by decide +kernel
theorem dX0_periodAt_12 : decode cX0_periodAt 12 = .ok (.aload_n 0, 1) := by decide +kernel
theorem dX0_periodAt_13 : decode cX0_periodAt 13 = .ok (.getfield 47, 3) := by decide +kernel
theorem dX0_periodAt_16 : decode cX0_periodAt 16 = .ok (.iload_n 2, 1) := by decide +kernel
theorem dX0_periodAt_17 : decode cX0_periodAt 17 = .ok (.iaload, 1) := by decide +kernel
theorem dX0_periodAt_18 : decode cX0_periodAt 18 = .ok (.iload_n 1, 1) := by decide +kernel
theorem dX0_periodAt_19 : decode cX0_periodAt 19 = .ok (.if_icmp .gt 9, 3) := by decide +kernel
theorem dX0_periodAt_22 : decode cX0_periodAt 22 = .ok (.iinc 2 1, 3) := by decide +kernel
theorem dX0_periodAt_25 : decode cX0_periodAt 25 = .ok (.goto (-23), 3) := by decide +kernel
theorem dX0_periodAt_28 : decode cX0_periodAt 28 = .ok (.iload_n 2, 1) := by decide +kernel
theorem dX0_periodAt_29 : decode cX0_periodAt 29 = .ok (.ireturn, 1) := by decide +kernel
set_option maxRecDepth 20000 in
theorem ggX0_isWholeStep_X0_startOf : GoodIn wsX0_isWholeStep wsX0_startOf := goodIn_r _ [7, 2, 8, 14, 15, 16, 17, 18, 19, 20, 21, 22, 23, 24, 25, 26, 27, 28, 29] (by decide +kernel) (by decide +kernel)
set_option maxRecDepth 20000 in
theorem gX0_isWholeStep_X0_startOf : GoodIn wsX0_isWholeStep (wsV RX0 109 RX0 yX0_startOf wsX0_startOf) := goodIn_app (goodIn_of _ (by decide +kernel)) ggX0_isWholeStep_X0_startOf
set_option maxRecDepth 20000 in
theorem ggX0_isWholeStep_X0_hasPeriod : GoodIn wsX0_isWholeStep wsX0_hasPeriod := goodIn_r _ [12, 13, 2, 14, 15, 16, 17, 18, 19, 20, 21, 22, 23, 24, 25, 26, 27, 28, 29] (by decide +kernel) (by decide +kernel)
set_option maxRecDepth 20000 in
theorem gX0_isWholeStep_X0_hasPeriod : GoodIn wsX0_isWholeStep (wsV RX0 112 RX0 yX0_hasPeriod wsX0_hasPeriod) := goodIn_app (goodIn_of _ (by decide +kernel)) ggX0_isWholeStep_X0_hasPeriod
theorem dX0_isWholeStep_0 : decode cX0_isWholeStep 0 = .ok (.aload_n 0, 1) := by decide +kernel
theorem dX0_isWholeStep_1 : decode cX0_isWholeStep 1 = .ok (.iload_n 1, 1) := by decide +kernel
theorem dX0_isWholeStep_2 : decode cX0_isWholeStep 2 = .ok (.invokevirtual 109, 3) := by decide +kernel
theorem dX0_isWholeStep_5 : decode cX0_isWholeStep 5 = .ok (.istore_n 2, 1) := by decide +kernel
theorem dX0_isWholeStep_6 : decode cX0_isWholeStep 6 = .ok (.iconst 0, 1) := by decide +kernel
theorem dX0_isWholeStep_7 : decode cX0_isWholeStep 7 = .ok (.istore_n 3, 1) := by decide +kernel
theorem dX0_isWholeStep_8 : decode cX0_isWholeStep 8 = .ok (.iload_n 3, 1) := by decide +kernel
theorem dX0_isWholeStep_9 : decode cX0_isWholeStep 9 = .ok (.aload_n 0, 1) := by decide +kernel
theorem dX0_isWholeStep_10 : decode cX0_isWholeStep 10 = .ok (.getfield 43, 3) := by decide +kernel
theorem dX0_isWholeStep_13 : decode cX0_isWholeStep 13 = .ok (.arraylength, 1) := by decide +kernel
theorem dX0_isWholeStep_14 : decode cX0_isWholeStep 14 = .ok (.iconst 1, 1) := by decide +kernel
theorem dX0_isWholeStep_15 : decode cX0_isWholeStep 15 = .ok (.isub, 1) := by decide +kernel
theorem dX0_isWholeStep_16 : decode cX0_isWholeStep 16 = .ok (.if_icmp .ge 50, 3) := by decide +kernel
theorem dX0_isWholeStep_19 : decode cX0_isWholeStep 19 = .ok (.aload_n 0, 1) := by decide +kernel
theorem dX0_isWholeStep_20 : decode cX0_isWholeStep 20 = .ok (.getfield 43, 3) := by decide +kernel
theorem dX0_isWholeStep_23 : decode cX0_isWholeStep 23 = .ok (.iload_n 3, 1) := by decide +kernel
theorem dX0_isWholeStep_24 : decode cX0_isWholeStep 24 = .ok (.iaload, 1) := by decide +kernel
theorem dX0_isWholeStep_25 : decode cX0_isWholeStep 25 = .ok (.iload_n 2, 1) := by decide +kernel
theorem dX0_isWholeStep_26 : decode cX0_isWholeStep 26 = .ok (.if_icmp .ne 34, 3) := by decide +kernel
theorem dX0_isWholeStep_29 : decode cX0_isWholeStep 29 = .ok (.aload_n 0, 1) := by decide +kernel
theorem dX0_isWholeStep_30 : decode cX0_isWholeStep 30 = .ok (.iload_n 1, 1) := by decide +kernel
theorem dX0_isWholeStep_31 : decode cX0_isWholeStep 31 = .ok (.invokevirtual 112, 3) := by decide +kernel
theorem dX0_isWholeStep_34 : decode cX0_isWholeStep 34 = .ok (.ifCond .eq 24, 3) := by decide +kernel
theorem dX0_isWholeStep_37 : decode cX0_isWholeStep 37 = .ok (.aload_n 0, 1) := by decide +kernel
theorem dX0_isWholeStep_38 : decode cX0_isWholeStep 38 = .ok (.getfield 43, 3) := by decide +kernel
theorem dX0_isWholeStep_41 : decode cX0_isWholeStep 41 = .ok (.iload_n 3, 1) := by decide +kernel
theorem dX0_isWholeStep_42 : decode cX0_isWholeStep 42 = .ok (.iconst 1, 1) := by decide +kernel
theorem dX0_isWholeStep_43 : decode cX0_isWholeStep 43 = .ok (.iadd, 1) := by decide +kernel
theorem dX0_isWholeStep_44 : decode cX0_isWholeStep 44 = .ok (.iaload, 1) := by decide +kernel
theorem dX0_isWholeStep_45 : decode cX0_isWholeStep 45 = .ok (.aload_n 0, 1) := by decide +kernel
theorem dX0_isWholeStep_46 : decode cX0_isWholeStep 46 = .ok (.getfield 47, 3) := by decide +kernel
theorem dX0_isWholeStep_49 : decode cX0_isWholeStep 49 = .ok (.iload_n 1, 1) := by decide +kernel
theorem dX0_isWholeStep_50 : decode cX0_isWholeStep 50 = .ok (.iaload, 1) := by decide +kernel
theorem dX0_isWholeStep_51 : decode cX0_isWholeStep 51 = .ok (.if_icmp .ne 7, 3) := by decide +kernel
theorem dX0_isWholeStep_54 : decode cX0_isWholeStep 54 = .ok (.iconst 1, 1) := by decide +kernel
theorem dX0_isWholeStep_55 : decode cX0_isWholeStep 55 = .ok (.goto 4, 3) := by decide +kernel
theorem dX0_isWholeStep_58 : decode cX0_isWholeStep 58 = .ok (.iconst 0, 1) := by decide +kernel
theorem dX0_isWholeStep_59 : decode cX0_isWholeStep 59 = .ok (.ireturn, 1) := by decide +kernel
theorem dX0_isWholeStep_60 : decode cX0_isWholeStep 60 = .ok (.iinc 3 1, 3) := by decide +kernel
theorem dX0_isWholeStep_63 : decode cX0_isWholeStep 63 = .ok (.goto (-55), 3) := by decide +kernel
theorem dX0_isWholeStep_66 : decode cX0_isWholeStep 66 = .ok (.iconst 0, 1) := by decide +kernel
theorem dX0_isWholeStep_67 : decode cX0_isWholeStep 67 = .ok (.ireturn, 1) := by decide +kernel
set_option maxRecDepth 20000 in
theorem ggX0_measure_X6_setCounted : GoodIn wsX0_measure wsX6_setCounted := goodIn_r _ [15, 16, 17, 18, 19, 20, 14, 21, 22, 23, 24, 25, 26, 27, 28, 29, 30, 31, 32, 33, 34, 35, 36, 37, 38, 4, 5, 6, 60, 61] (by decide +kernel) (by decide +kernel)
set_option maxRecDepth 20000 in
theorem gX0_measure_X6_setCounted : GoodIn wsX0_measure (wsV RX0 116 RX6 yX6_setCounted wsX6_setCounted) := goodIn_app (goodIn_of _ (by decide +kernel)) ggX0_measure_X6_setCounted
set_option maxRecDepth 20000 in
theorem ggX0_measure_X6_set : GoodIn wsX0_measure wsX6_set := goodIn_r _ [21, 22, 23, 24, 25, 14, 26, 60, 61] (by decide +kernel) (by decide +kernel)
set_option maxRecDepth 20000 in
theorem gX0_measure_X6_set : GoodIn wsX0_measure (wsV RX0 120 RX6 yX6_set wsX6_set) := goodIn_app (goodIn_of _ (by decide +kernel)) ggX0_measure_X6_set
set_option maxRecDepth 20000 in
theorem ggX0_measure_X6_add : GoodIn wsX0_measure wsX6_add := goodIn_r _ [43, 23, 22, 24, 25, 14, 26, 18, 19, 20, 21, 60, 61] (by decide +kernel) (by decide +kernel)
set_option maxRecDepth 20000 in
theorem gX0_measure_X6_add : GoodIn wsX0_measure (wsV RX0 131 RX6 yX6_add wsX6_add) := goodIn_app (goodIn_of _ (by decide +kernel)) ggX0_measure_X6_add
theorem dX0_measure_0 : decode cX0_measure 0 = .ok (.aload_n 0, 1) := by decide +kernel
theorem dX0_measure_1 : decode cX0_measure 1 = .ok (.getfield 18, 3) := by decide +kernel
theorem dX0_measure_4 : decode cX0_measure 4 = .ok (.iconst 4, 1) := by decide +kernel
theorem dX0_measure_5 : decode cX0_measure 5 = .ok (.if_icmp .eq 14, 3) := by decide +kernel
theorem dX0_measure_8 : decode cX0_measure 8 = .ok (.aload_n 3, 1) := by decide +kernel
theorem dX0_measure_9 : decode cX0_measure 9 = .ok (.aload_n 0, 1) := by decide +kernel
theorem dX0_measure_10 : decode cX0_measure 10 = .ok (.getfield 18, 3) := by decide +kernel
theorem dX0_measure_13 : decode cX0_measure 13 = .ok (.iload_n 1, 1) := by decide +kernel
theorem dX0_measure_14 : decode cX0_measure 14 = .ok (.iload_n 2, 1) := by decide +kernel
theorem dX0_measure_15 : decode cX0_measure 15 = .ok (.invokevirtual 116, 3) := by decide +kernel
theorem dX0_measure_18 : decode cX0_measure 18 = .ok (.return_, 1) := by decide +kernel
theorem dX0_measure_19 : decode cX0_measure 19 = .ok (.aload_n 3, 1) := by decide +kernel
theorem dX0_measure_20 : decode cX0_measure 20 = .ok (.lconst 0, 1) := by decide +kernel
theorem dX0_measure_21 : decode cX0_measure 21 = .ok (.lconst 1, 1) := by decide +kernel
theorem dX0_measure_22 : decode cX0_measure 22 = .ok (.invokevirtual 120, 3) := by decide +kernel
theorem dX0_measure_25 : decode cX0_measure 25 = .ok (.iconst 0, 1) := by decide +kernel
theorem dX0_measure_26 : decode cX0_measure 26 = .ok (.istore 4, 2) := by decide +kernel
theorem dX0_measure_28 : decode cX0_measure 28 = .ok (.iload 4, 2) := by decide +kernel
theorem dX0_measure_30 : decode cX0_measure 30 = .ok (.aload_n 0, 1) := by decide +kernel
theorem dX0_measure_31 : decode cX0_measure 31 = .ok (.getfield 43, 3) := by decide +kernel
theorem dX0_measure_34 : decode cX0_measure 34 = .ok (.arraylength, 1) := by decide +kernel
theorem dX0_measure_35 : decode cX0_measure 35 = .ok (.iconst 1, 1) := by decide +kernel
theorem dX0_measure_36 : decode cX0_measure 36 = .ok (.isub, 1) := by decide +kernel
theorem dX0_measure_37 : decode cX0_measure 37 = .ok (.if_icmp .ge 82, 3) := by decide +kernel
theorem dX0_measure_40 : decode cX0_measure 40 = .ok (.aload_n 0, 1) := by decide +kernel
theorem dX0_measure_41 : decode cX0_measure 41 = .ok (.getfield 43, 3) := by decide +kernel
theorem dX0_measure_44 : decode cX0_measure 44 = .ok (.iload 4, 2) := by decide +kernel
theorem dX0_measure_46 : decode cX0_measure 46 = .ok (.iaload, 1) := by decide +kernel
theorem dX0_measure_47 : decode cX0_measure 47 = .ok (.iload_n 2, 1) := by decide +kernel
theorem dX0_measure_48 : decode cX0_measure 48 = .ok (.if_icmp .ge 71, 3) := by decide +kernel
theorem dX0_measure_51 : decode cX0_measure 51 = .ok (.iload_n 2, 1) := by decide +kernel
theorem dX0_measure_52 : decode cX0_measure 52 = .ok (.aload_n 0, 1) := by decide +kernel
theorem dX0_measure_53 : decode cX0_measure 53 = .ok (.getfield 43, 3) := by decide +kernel
theorem dX0_measure_56 : decode cX0_measure 56 = .ok (.iload 4, 2) := by decide +kernel
theorem dX0_measure_58 : decode cX0_measure 58 = .ok (.iconst 1, 1) := by decide +kernel
theorem dX0_measure_59 : decode cX0_measure 59 = .ok (.iadd, 1) := by decide +kernel
theorem dX0_measure_60 : decode cX0_measure 60 = .ok (.iaload, 1) := by decide +kernel
theorem dX0_measure_61 : decode cX0_measure 61 = .ok (.invokestatic 123, 3) := by decide +kernel
theorem dX0_measure_64 : decode cX0_measure 64 = .ok (.iload_n 1, 1) := by decide +kernel
theorem dX0_measure_65 : decode cX0_measure 65 = .ok (.aload_n 0, 1) := by decide +kernel
theorem dX0_measure_66 : decode cX0_measure 66 = .ok (.getfield 43, 3) := by decide +kernel
theorem dX0_measure_69 : decode cX0_measure 69 = .ok (.iload 4, 2) := by decide +kernel
theorem dX0_measure_71 : decode cX0_measure 71 = .ok (.iaload, 1) := by decide +kernel
theorem dX0_measure_72 : decode cX0_measure 72 = .ok (.invokestatic 128, 3) := by decide +kernel
theorem dX0_measure_75 : decode cX0_measure 75 = .ok (.isub, 1) := by decide +kernel
theorem dX0_measure_76 : decode cX0_measure 76 = .ok (.istore 5, 2) := by decide +kernel
theorem dX0_measure_78 : decode cX0_measure 78 = .ok (.iload 5, 2) := by decide +kernel
theorem dX0_measure_80 : decode cX0_measure 80 = .ok (.ifCond .le 33, 3) := by decide +kernel
theorem dX0_measure_83 : decode cX0_measure 83 = .ok (.aload_n 3, 1) := by decide +kernel
theorem dX0_measure_84 : decode cX0_measure 84 = .ok (.iload 5, 2) := by decide +kernel
theorem dX0_measure_86 : decode cX0_measure 86 = .ok (.i2l, 1) := by decide +kernel
theorem dX0_measure_87 : decode cX0_measure 87 = .ok (.aload_n 0, 1) := by decide +kernel
theorem dX0_measure_88 : decode cX0_measure 88 = .ok (.getfield 15, 3) := by decide +kernel
theorem dX0_measure_91 : decode cX0_measure 91 = .ok (.aload_n 0, 1) := by decide +kernel
theorem dX0_measure_92 : decode cX0_measure 92 = .ok (.getfield 43, 3) := by decide +kernel
theorem dX0_measure_95 : decode cX0_measure 95 = .ok (.iload 4, 2) := by decide +kernel
theorem dX0_measure_97 : decode cX0_measure 97 = .ok (.iconst 1, 1) := by decide +kernel
theorem dX0_measure_98 : decode cX0_measure 98 = .ok (.iadd, 1) := by decide +kernel
theorem dX0_measure_99 : decode cX0_measure 99 = .ok (.iaload, 1) := by decide +kernel
theorem dX0_measure_100 : decode cX0_measure 100 = .ok (.aload_n 0, 1) := by decide +kernel
theorem dX0_measure_101 : decode cX0_measure 101 = .ok (.getfield 43, 3) := by decide +kernel
theorem dX0_measure_104 : decode cX0_measure 104 = .ok (.iload 4, 2) := by decide +kernel
theorem dX0_measure_106 : decode cX0_measure 106 = .ok (.iaload, 1) := by decide +kernel
theorem dX0_measure_107 : decode cX0_measure 107 = .ok (.isub, 1) := by decide +kernel
theorem dX0_measure_108 : decode cX0_measure 108 = .ok (.imul, 1) := by decide +kernel
theorem dX0_measure_109 : decode cX0_measure 109 = .ok (.i2l, 1) := by decide +kernel
theorem dX0_measure_110 : decode cX0_measure 110 = .ok (.invokevirtual 131, 3) := by decide +kernel
theorem dX0_measure_113 : decode cX0_measure 113 = .ok (.iinc 4 1, 3) := by decide +kernel
theorem dX0_measure_116 : decode cX0_measure 116 = .ok (.goto (-88), 3) := by decide +kernel
theorem dX0_measure_119 : decode cX0_measure 119 = .ok (.return_, 1) := by decide +kernel
set_option maxRecDepth 20000 in
theorem ggX0_measurePeriod_X0_hasPeriod : GoodIn wsX0_measurePeriod wsX0_hasPeriod := goodIn_r _ [6, 7, 1, 60, 61, 62, 63, 64, 65, 66, 67, 68, 69, 70, 71, 72, 73, 74, 75] (by decide +kernel) (by decide +kernel)
set_option maxRecDepth 20000 in
theorem gX0_measurePeriod_X0_hasPeriod : GoodIn wsX0_measurePeriod (wsV RX0 112 RX0 yX0_hasPeriod wsX0_hasPeriod) := goodIn_app (goodIn_of _ (by decide +kernel)) ggX0_measurePeriod_X0_hasPeriod
set_option maxRecDepth 20000 in
theorem ggX0_measurePeriod_X0_startOf : GoodIn wsX0_measurePeriod wsX0_startOf := goodIn_r _ [11, 1, 12, 60, 61, 62, 63, 64, 65, 66, 67, 68, 69, 70, 71, 72, 73, 74, 75] (by decide +kernel) (by decide +kernel)
set_option maxRecDepth 20000 in
theorem gX0_measurePeriod_X0_startOf : GoodIn wsX0_measurePeriod (wsV RX0 109 RX0 yX0_startOf wsX0_startOf) := goodIn_app (goodIn_of _ (by decide +kernel)) ggX0_measurePeriod_X0_startOf
set_option maxRecDepth 100000 in
theorem ggX0_measurePeriod_X0_measure_p1 : ∀ w ∈ wsX0_measure_r1, w ∈ wsX0_measurePeriod := List.forall_mem_cons.mpr ⟨(List.mem_cons_of_mem _ (List.mem_append_left _ (List.mem_append_left _ (List.mem_append_left _ (List.mem_of_getElem? (l := wsX0_measurePeriod_r1) (i := 16) rfl))))), List.forall_mem_cons.mpr ⟨(List.mem_cons_of_mem _ (List.mem_append_left _ (List.mem_append_left _ (List.mem_append_left _ (List.mem_of_getElem? (l := wsX0_measurePeriod_r1) (i := 17) rfl))))), List.forall_mem_cons.mpr ⟨(List.mem_cons_of_mem _ (List.mem_append_left _ (List.mem_append_left _ (List.mem_append_left _ (List.mem_of_getElem? (l := wsX0_measurePeriod_r1) (i := 18) rfl))))), List.forall_mem_cons.mpr ⟨(List.mem_cons_of_mem _ (List.mem_append_left _ (List.mem_append_left _ (List.mem_append_left _ (List.mem_of_getElem? (l := wsX0_measurePeriod_r1) (i := 19) rfl))))), List.forall_mem_cons.mpr ⟨(List.mem_cons_of_mem _ (List.mem_append_left _ (List.mem_append_left _ (List.mem_append_left _ (List.mem_of_getElem? (l := wsX0_measurePeriod_r1) (i := 20) rfl))))), List.forall_mem_cons.mpr ⟨(List.mem_cons_of_mem _ (List.mem_append_left _ (List.mem_append_left _ (List.mem_append_left _ (List.mem_of_getElem? (l := wsX0_measurePeriod_r1) (i := 21) rfl))))), List.forall_mem_cons.mpr ⟨(List.mem_cons_of_mem _ (List.mem_append_left _ (List.mem_append_left _ (List.mem_append_left _ (List.mem_of_getElem? (l := wsX0_measurePeriod_r1) (i := 22) rfl))))), List.forall_mem_cons.mpr ⟨(List.mem_cons_of_mem _ (List.mem_append_left _ (List.mem_append_left _ (List.mem_append_left _ (List.mem_of_getElem? (l := wsX0_measurePeriod_r1) (i := 23) rfl))))), List.forall_mem_cons.mpr ⟨(List.mem_cons_of_mem _ (List.mem_append_left _ (List.mem_append_left _ (List.mem_append_right _ (List.mem_append_left _ (List.mem_of_getElem? (l := wsX0_measurePeriod_r2) (i := 0) rfl)))))), List.forall_mem_cons.mpr ⟨(List.mem_cons_of_mem _ (List.mem_append_left _ (List.mem_append_left _ (List.mem_append_right _ (List.mem_append_left _ (List.mem_of_getElem? (l := wsX0_measurePeriod_r2) (i := 1) rfl)))))), List.forall_mem_cons.mpr ⟨(List.mem_cons_of_mem _ (List.mem_append_left _ (List.mem_append_left _ (List.mem_append_right _ (List.mem_append_left _ (List.mem_of_getElem? (l := wsX0_measurePeriod_r2) (i := 2) rfl)))))), List.forall_mem_cons.mpr ⟨(List.mem_cons_of_mem _ (List.mem_append_left _ (List.mem_append_left _ (List.mem_append_right _ (List.mem_append_left _ (List.mem_of_getElem? (l := wsX0_measurePeriod_r2) (i := 3) rfl)))))), List.forall_mem_cons.mpr ⟨(List.mem_cons_of_mem _ (List.mem_append_left _ (List.mem_append_left _ (List.mem_append_right _ (List.mem_append_left _ (List.mem_of_getElem? (l := wsX0_measurePeriod_r2) (i := 4) rfl)))))), List.forall_mem_cons.mpr ⟨(List.mem_cons_of_mem _ (List.mem_append_left _ (List.mem_append_left _ (List.mem_append_right _ (List.mem_append_left _ (List.mem_of_getElem? (l := wsX0_measurePeriod_r2) (i := 5) rfl)))))), List.forall_mem_cons.mpr ⟨(List.mem_cons_of_mem _ (List.mem_append_left _ (List.mem_append_left _ (List.mem_append_right _ (List.mem_append_left _ (List.mem_of_getElem? (l := wsX0_measurePeriod_r2) (i := 6) rfl)))))), List.forall_mem_cons.mpr ⟨(List.mem_cons_of_mem _ (List.mem_append_left _ (List.mem_append_left _ (List.mem_append_right _ (List.mem_append_left _ (List.mem_of_getElem? (l := wsX0_measurePeriod_r2) (i := 7) rfl)))))), List.forall_mem_cons.mpr ⟨(List.mem_cons_of_mem _ (List.mem_append_left _ (List.mem_append_left _ (List.mem_append_right _ (List.mem_append_left _ (List.mem_of_getElem? (l := wsX0_measurePeriod_r2) (i := 8) rfl)))))), List.forall_mem_cons.mpr ⟨(List.mem_cons_of_mem _ (List.mem_append_left _ (List.mem_append_left _ (List.mem_append_right _ (List.mem_append_left _ (List.mem_of_getElem? (l := wsX0_measurePeriod_r2) (i := 9) rfl)))))), List.forall_mem_cons.mpr ⟨(List.mem_cons_of_mem _ (List.mem_append_left _ (List.mem_append_left _ (List.mem_append_right _ (List.mem_append_left _ (List.mem_of_getElem? (l := wsX0_measurePeriod_r2) (i := 10) rfl)))))), List.forall_mem_cons.mpr ⟨(List.mem_cons_of_mem _ (List.mem_append_left _ (List.mem_append_left _ (List.mem_append_right _ (List.mem_append_left _ (List.mem_of_getElem? (l := wsX0_measurePeriod_r2) (i := 11) rfl)))))), List.forall_mem_cons.mpr ⟨(List.mem_cons_of_mem _ (List.mem_append_left _ (List.mem_append_left _ (List.mem_append_right _ (List.mem_append_left _ (List.mem_of_getElem? (l := wsX0_measurePeriod_r2) (i := 12) rfl)))))), List.forall_mem_cons.mpr ⟨(List.mem_cons_of_mem _ (List.mem_append_left _ (List.mem_append_left _ (List.mem_append_right _ (List.mem_append_left _ (List.mem_of_getElem? (l := wsX0_measurePeriod_r2) (i := 13) rfl)))))), List.forall_mem_cons.mpr ⟨(List.mem_cons_of_mem _ (List.mem_append_left _ (List.mem_append_left _ (List.mem_append_right _ (List.mem_append_left _ (List.mem_of_getElem? (l := wsX0_measurePeriod_r2) (i := 14) rfl)))))), List.forall_mem_cons.mpr ⟨(List.mem_cons_of_mem _ (List.mem_append_left _ (List.mem_append_left _ (List.mem_append_right _ (List.mem_append_left _ (List.mem_of_getElem? (l := wsX0_measurePeriod_r2) (i := 15) rfl)))))), (fun _ h => absurd h List.not_mem_nil)⟩⟩⟩⟩⟩⟩⟩⟩⟩⟩⟩⟩⟩⟩⟩⟩⟩⟩⟩⟩⟩⟩⟩⟩
set_option maxRecDepth 100000 in
theorem ggX0_measurePeriod_X0_measure_p2 : ∀ w ∈ wsX0_measure_r2, w ∈ wsX0_measurePeriod := List.forall_mem_cons.mpr ⟨(List.mem_cons_of_mem _ (List.mem_append_left _ (List.mem_append_left _ (List.mem_append_right _ (List.mem_append_left _ (List.mem_of_getElem? (l := wsX0_measurePeriod_r2) (i := 16) rfl)))))), List.forall_mem_cons.mpr ⟨(List.mem_cons_of_mem _ (List.mem_append_left _ (List.mem_append_left _ (List.mem_append_right _ (List.mem_append_left _ (List.mem_of_getElem? (l := wsX0_measurePeriod_r2) (i := 17) rfl)))))), List.forall_mem_cons.mpr ⟨(List.mem_cons_of_mem _ (List.mem_append_left _ (List.mem_append_left _ (List.mem_append_right _ (List.mem_append_left _ (List.mem_of_getElem? (l := wsX0_measurePeriod_r2) (i := 18) rfl)))))), List.forall_mem_cons.mpr ⟨(List.mem_cons_of_mem _ (List.mem_append_left _ (List.mem_append_left _ (List.mem_append_right _ (List.mem_append_left _ (List.mem_of_getElem? (l := wsX0_measurePeriod_r2) (i := 19) rfl)))))), List.forall_mem_cons.mpr ⟨(List.mem_cons_of_mem _ (List.mem_append_left _ (List.mem_append_left _ (List.mem_append_right _ (List.mem_append_left _ (List.mem_of_getElem? (l := wsX0_measurePeriod_r2) (i := 20) rfl)))))), List.forall_mem_cons.mpr ⟨(List.mem_cons_of_mem _ (List.mem_append_left _ (List.mem_append_left _ (List.mem_append_right _ (List.mem_append_left _ (List.mem_of_getElem? (l := wsX0_measurePeriod_r2) (i := 21) rfl)))))), List.forall_mem_cons.mpr ⟨(List.mem_cons_of_mem _ (List.mem_append_left _ (List.mem_append_left _ (List.mem_append_right _ (List.mem_append_left _ (List.mem_of_getElem? (l := wsX0_measurePeriod_r2) (i := 22) rfl)))))), List.forall_mem_cons.mpr ⟨(List.mem_cons_of_mem _ (List.mem_append_left _ (List.mem_append_left _ (List.mem_append_right _ (List.mem_append_left _ (List.mem_of_getElem? (l := wsX0_measurePeriod_r2) (i := 23) rfl)))))), List.forall_mem_cons.mpr ⟨(List.mem_cons_of_mem _ (List.mem_append_left _ (List.mem_append_left _ (List.mem_append_right _ (List.mem_append_right _ (List.mem_of_getElem? (l := wsX0_measurePeriod_r3) (i := 0) rfl)))))), List.forall_mem_cons.mpr ⟨(List.mem_cons_of_mem _ (List.mem_append_left _ (List.mem_append_left _ (List.mem_append_right _ (List.mem_append_right _ (List.mem_of_getElem? (l := wsX0_measurePeriod_r3) (i := 1) rfl)))))), List.forall_mem_cons.mpr ⟨(List.mem_cons_of_mem _ (List.mem_append_left _ (List.mem_append_left _ (List.mem_append_right _ (List.mem_append_right _ (List.mem_of_getElem? (l := wsX0_measurePeriod_r3) (i := 2) rfl)))))), List.forall_mem_cons.mpr ⟨(List.mem_cons_of_mem _ (List.mem_append_left _ (List.mem_append_left _ (List.mem_append_right _ (List.mem_append_right _ (List.mem_of_getElem? (l := wsX0_measurePeriod_r3) (i := 3) rfl)))))), List.forall_mem_cons.mpr ⟨(List.mem_cons_of_mem _ (List.mem_append_left _ (List.mem_append_left _ (List.mem_append_right _ (List.mem_append_right _ (List.mem_of_getElem? (l := wsX0_measurePeriod_r3) (i := 4) rfl)))))), List.forall_mem_cons.mpr ⟨(List.mem_cons_of_mem _ (List.mem_append_left _ (List.mem_append_left _ (List.mem_append_right _ (List.mem_append_right _ (List.mem_of_getElem? (l := wsX0_measurePeriod_r3) (i := 5) rfl)))))), List.forall_mem_cons.mpr ⟨(List.mem_cons_of_mem _ (List.mem_append_left _ (List.mem_append_left _ (List.mem_append_right _ (List.mem_append_right _ (List.mem_of_getElem? (l := wsX0_measurePeriod_r3) (i := 6) rfl)))))), List.forall_mem_cons.mpr ⟨(List.mem_cons_of_mem _ (List.mem_append_left _ (List.mem_append_left _ (List.mem_append_right _ (List.mem_append_right _ (List.mem_of_getElem? (l := wsX0_measurePeriod_r3) (i := 7) rfl)))))), List.forall_mem_cons.mpr ⟨(List.mem_cons_of_mem _ (List.mem_append_left _ (List.mem_append_left _ (List.mem_append_right _ (List.mem_append_right _ (List.mem_of_getElem? (l := wsX0_measurePeriod_r3) (i := 8) rfl)))))), List.forall_mem_cons.mpr ⟨(List.mem_cons_of_mem _ (List.mem_append_left _ (List.mem_append_left _ (List.mem_append_right _ (List.mem_append_right _ (List.mem_of_getElem? (l := wsX0_measurePeriod_r3) (i := 9) rfl)))))), List.forall_mem_cons.mpr ⟨(List.mem_cons_of_mem _ (List.mem_append_left _ (List.mem_append_left _ (List.mem_append_right _ (List.mem_append_right _ (List.mem_of_getElem? (l := wsX0_measurePeriod_r3) (i := 10) rfl)))))), (fun _ h => absurd h List.not_mem_nil)⟩⟩⟩⟩⟩⟩⟩⟩⟩⟩⟩⟩⟩⟩⟩⟩⟩⟩⟩
set_option maxRecDepth 100000 in
theorem ggX0_measurePeriod_X0_measure : GoodIn wsX0_measurePeriod wsX0_measure := goodIn_sub (fun w h => (List.mem_cons.mp h).elim (fun e => e ▸ ((List.mem_cons_of_mem _ (List.mem_append_left _ (List.mem_append_left _ (List.mem_append_left _ (List.mem_of_getElem? (l := wsX0_measurePeriod_r1) (i := 15) rfl))))) : Cond.code yX0_measure cX0_measure 6 none ∈ wsX0_measurePeriod)) (fun h => (List.mem_append.mp h).elim (fun h => (List.mem_append.mp h).elim (fun h => (List.mem_append.mp h).elim (fun h => ggX0_measurePeriod_X0_measure_p1 w h) (fun h => ggX0_measurePeriod_X0_measure_p2 w h)) (fun h => (List.mem_cons_of_mem _ (List.mem_append_left _ (List.mem_append_right _ h))))) (fun h => (List.mem_cons_of_mem _ (List.mem_append_right _ h))))) (by decide +kernel)
set_option maxRecDepth 20000 in
theorem gX0_measurePeriod_X0_measure : GoodIn wsX0_measurePeriod (wsV RX0 134 RX0 yX0_measure wsX0_measure) := goodIn_app (goodIn_of _ (by decide +kernel)) ggX0_measurePeriod_X0_measure
theorem dX0_measurePeriod_0 : decode cX0_measurePeriod 0 = .ok (.aload_n 0, 1) := by decide +kernel
theorem dX0_measurePeriod_1 : decode cX0_measurePeriod 1 = .ok (.iload_n 1, 1) := by decide +kernel
theorem dX0_measurePeriod_2 : decode cX0_measurePeriod 2 = .ok (.invokevirtual 112, 3) := by decide +kernel
theorem dX0_measurePeriod_5 : decode cX0_measurePeriod 5 = .ok (.ifCond .eq 19, 3) := by decide +kernel
theorem dX0_measurePeriod_8 : decode cX0_measurePeriod 8 = .ok (.aload_n 0, 1) := by decide +kernel
theorem dX0_measurePeriod_9 : decode cX0_measurePeriod 9 = .ok (.aload_n 0, 1) := by decide +kernel
theorem dX0_measurePeriod_10 : decode cX0_measurePeriod 10 = .ok (.iload_n 1, 1) := by decide +kernel
theorem dX0_measurePeriod_11 : decode cX0_measurePeriod 11 = .ok (.invokevirtual 109, 3) := by decide +kernel
theorem dX0_measurePeriod_14 : decode cX0_measurePeriod 14 = .ok (.aload_n 0, 1) := by decide +kernel
theorem dX0_measurePeriod_15 : decode cX0_measurePeriod 15 = .ok (.getfield 47, 3) := by decide +kernel
theorem dX0_measurePeriod_18 : decode cX0_measurePeriod 18 = .ok (.iload_n 1, 1) := by decide +kernel
theorem dX0_measurePeriod_19 : decode cX0_measurePeriod 19 = .ok (.iaload, 1) := by decide +kernel
theorem dX0_measurePeriod_20 : decode cX0_measurePeriod 20 = .ok (.aload_n 2, 1) := by decide +kernel
theorem dX0_measurePeriod_21 : decode cX0_measurePeriod 21 = .ok (.invokevirtual 134, 3) := by decide +kernel
theorem dX0_measurePeriod_24 : decode cX0_measurePeriod 24 = .ok (.return_, 1) := by decide +kernel
set_option maxRecDepth 20000 in
theorem ggX0_measureCoupon_X0_hasPeriod : GoodIn wsX0_measureCoupon wsX0_hasPeriod := goodIn_r _ [8, 9, 1, 66, 67, 68, 69, 70, 71, 72, 73, 74, 75, 76, 77, 78, 79, 80, 81] (by decide +kernel) (by decide +kernel)
set_option maxRecDepth 20000 in
theorem gX0_measureCoupon_X0_hasPeriod : GoodIn wsX0_measureCoupon (wsV RX0 112 RX0 yX0_hasPeriod wsX0_hasPeriod) := goodIn_app (goodIn_of _ (by decide +kernel)) ggX0_measureCoupon_X0_hasPeriod
set_option maxRecDepth 20000 in
theorem ggX0_measureCoupon_X0_startOf : GoodIn wsX0_measureCoupon wsX0_startOf := goodIn_r _ [13, 1, 14, 66, 67, 68, 69, 70, 71, 72, 73, 74, 75, 76, 77, 78, 79, 80, 81] (by decide +kernel) (by decide +kernel)
set_option maxRecDepth 20000 in
theorem gX0_measureCoupon_X0_startOf : GoodIn wsX0_measureCoupon (wsV RX0 109 RX0 yX0_startOf wsX0_startOf) := goodIn_app (goodIn_of _ (by decide +kernel)) ggX0_measureCoupon_X0_startOf
set_option maxRecDepth 100000 in
theorem ggX0_measureCoupon_X0_measure_p1 : ∀ w ∈ wsX0_measure_r1, w ∈ wsX0_measureCoupon := List.forall_mem_cons.mpr ⟨(List.mem_cons_of_mem _ (List.mem_append_left _ (List.mem_append_left _ (List.mem_append_left _ (List.mem_of_getElem? (l := wsX0_measureCoupon_r1) (i := 18) rfl))))), List.forall_mem_cons.mpr ⟨(List.mem_cons_of_mem _ (List.mem_append_left _ (List.mem_append_left _ (List.mem_append_left _ (List.mem_of_getElem? (l := wsX0_measureCoupon_r1) (i := 19) rfl))))), List.forall_mem_cons.mpr ⟨(List.mem_cons_of_mem _ (List.mem_append_left _ (List.mem_append_left _ (List.mem_append_left _ (List.mem_of_getElem? (l := wsX0_measureCoupon_r1) (i := 20) rfl))))), List.forall_mem_cons.mpr ⟨(List.mem_cons_of_mem _ (List.mem_append_left _ (List.mem_append_left _ (List.mem_append_left _ (List.mem_of_getElem? (l := wsX0_measureCoupon_r1) (i := 21) rfl))))), List.forall_mem_cons.mpr ⟨(List.mem_cons_of_mem _ (List.mem_append_left _ (List.mem_append_left _ (List.mem_append_left _ (List.mem_of_getElem? (l := wsX0_measureCoupon_r1) (i := 22) rfl))))), List.forall_mem_cons.mpr ⟨(List.mem_cons_of_mem _ (List.mem_append_left _ (List.mem_append_left _ (List.mem_append_left _ (List.mem_of_getElem? (l := wsX0_measureCoupon_r1) (i := 23) rfl))))), List.forall_mem_cons.mpr ⟨(List.mem_cons_of_mem _ (List.mem_append_left _ (List.mem_append_left _ (List.mem_append_right _ (List.mem_append_left _ (List.mem_of_getElem? (l := wsX0_measureCoupon_r2) (i := 0) rfl)))))), List.forall_mem_cons.mpr ⟨(List.mem_cons_of_mem _ (List.mem_append_left _ (List.mem_append_left _ (List.mem_append_right _ (List.mem_append_left _ (List.mem_of_getElem? (l := wsX0_measureCoupon_r2) (i := 1) rfl)))))), List.forall_mem_cons.mpr ⟨(List.mem_cons_of_mem _ (List.mem_append_left _ (List.mem_append_left _ (List.mem_append_right _ (List.mem_append_left _ (List.mem_of_getElem? (l := wsX0_measureCoupon_r2) (i := 2) rfl)))))), List.forall_mem_cons.mpr ⟨(List.mem_cons_of_mem _ (List.mem_append_left _ (List.mem_append_left _ (List.mem_append_right _ (List.mem_append_left _ (List.mem_of_getElem? (l := wsX0_measureCoupon_r2) (i := 3) rfl)))))), List.forall_mem_cons.mpr ⟨(List.mem_cons_of_mem _ (List.mem_append_left _ (List.mem_append_left _ (List.mem_append_right _ (List.mem_append_left _ (List.mem_of_getElem? (l := wsX0_measureCoupon_r2) (i := 4) rfl)))))), List.forall_mem_cons.mpr ⟨(List.mem_cons_of_mem _ (List.mem_append_left _ (List.mem_append_left _ (List.mem_append_right _ (List.mem_append_left _ (List.mem_of_getElem? (l := wsX0_measureCoupon_r2) (i := 5) rfl)))))), List.forall_mem_cons.mpr ⟨(List.mem_cons_of_mem _ (List.mem_append_left _ (List.mem_append_left _ (List.mem_append_right _ (List.mem_append_left _ (List.mem_of_getElem? (l := wsX0_measureCoupon_r2) (i := 6) rfl)))))), List.forall_mem_cons.mpr ⟨(List.mem_cons_of_mem _ (List.mem_append_left _ (List.mem_append_left _ (List.mem_append_right _ (List.mem_append_left _ (List.mem_of_getElem? (l := wsX0_measureCoupon_r2) (i := 7) rfl)))))), List.forall_mem_cons.mpr ⟨(List.mem_cons_of_mem _ (List.mem_append_left _ (List.mem_append_left _ (List.mem_append_right _ (List.mem_append_left _ (List.mem_of_getElem? (l := wsX0_measureCoupon_r2) (i := 8) rfl)))))), List.forall_mem_cons.mpr ⟨(List.mem_cons_of_mem _ (List.mem_append_left _ (List.mem_append_left _ (List.mem_append_right _ (List.mem_append_left _ (List.mem_of_getElem? (l := wsX0_measureCoupon_r2) (i := 9) rfl)))))), List.forall_mem_cons.mpr ⟨(List.mem_cons_of_mem _ (List.mem_append_left _ (List.mem_append_left _ (List.mem_append_right _ (List.mem_append_left _ (List.mem_of_getElem? (l := wsX0_measureCoupon_r2) (i := 10) rfl)))))), List.forall_mem_cons.mpr ⟨(List.mem_cons_of_mem _ (List.mem_append_left _ (List.mem_append_left _ (List.mem_append_right _ (List.mem_append_left _ (List.mem_of_getElem? (l := wsX0_measureCoupon_r2) (i := 11) rfl)))))), List.forall_mem_cons.mpr ⟨(List.mem_cons_of_mem _ (List.mem_append_left _ (List.mem_append_left _ (List.mem_append_right _ (List.mem_append_left _ (List.mem_of_getElem? (l := wsX0_measureCoupon_r2) (i := 12) rfl)))))), List.forall_mem_cons.mpr ⟨(List.mem_cons_of_mem _ (List.mem_append_left _ (List.mem_append_left _ (List.mem_append_right _ (List.mem_append_left _ (List.mem_of_getElem? (l := wsX0_measureCoupon_r2) (i := 13) rfl)))))), List.forall_mem_cons.mpr ⟨(List.mem_cons_of_mem _ (List.mem_append_left _ (List.mem_append_left _ (List.mem_append_right _ (List.mem_append_left _ (List.mem_of_getElem? (l := wsX0_measureCoupon_r2) (i := 14) rfl)))))), List.forall_mem_cons.mpr ⟨(List.mem_cons_of_mem _ (List.mem_append_left _ (List.mem_append_left _ (List.mem_append_right _ (List.mem_append_left _ (List.mem_of_getElem? (l := wsX0_measureCoupon_r2) (i := 15) rfl)))))), List.forall_mem_cons.mpr ⟨(List.mem_cons_of_mem _ (List.mem_append_left _ (List.mem_append_left _ (List.mem_append_right _ (List.mem_append_left _ (List.mem_of_getElem? (l := wsX0_measureCoupon_r2) (i := 16) rfl)))))), List.forall_mem_cons.mpr ⟨(List.mem_cons_of_mem _ (List.mem_append_left _ (List.mem_append_left _ (List.mem_append_right _ (List.mem_append_left _ (List.mem_of_getElem? (l := wsX0_measureCoupon_r2) (i := 17) rfl)))))), (fun _ h => absurd h List.not_mem_nil)⟩⟩⟩⟩⟩⟩⟩⟩⟩⟩⟩⟩⟩⟩⟩⟩⟩⟩⟩⟩⟩⟩⟩⟩
set_option maxRecDepth 100000 in
theorem ggX0_measureCoupon_X0_measure_p2 : ∀ w ∈ wsX0_measure_r2, w ∈ wsX0_measureCoupon := List.forall_mem_cons.mpr ⟨(List.mem_cons_of_mem _ (List.mem_append_left _ (List.mem_append_left _ (List.mem_append_right _ (List.mem_append_left _ (List.mem_of_getElem? (l := wsX0_measureCoupon_r2) (i := 18) rfl)))))), List.forall_mem_cons.mpr ⟨(List.mem_cons_of_mem _ (List.mem_append_left _ (List.mem_append_left _ (List.mem_append_right _ (List.mem_append_left _ (List.mem_of_getElem? (l := wsX0_measureCoupon_r2) (i := 19) rfl)))))), List.forall_mem_cons.mpr ⟨(List.mem_cons_of_mem _ (List.mem_append_left _ (List.mem_append_left _ (List.mem_append_right _ (List.mem_append_left _ (List.mem_of_getElem? (l := wsX0_measureCoupon_r2) (i := 20) rfl)))))), List.forall_mem_cons.mpr ⟨(List.mem_cons_of_mem _ (List.mem_append_left _ (List.mem_append_left _ (List.mem_append_right _ (List.mem_append_left _ (List.mem_of_getElem? (l := wsX0_measureCoupon_r2) (i := 21) rfl)))))), List.forall_mem_cons.mpr ⟨(List.mem_cons_of_mem _ (List.mem_append_left _ (List.mem_append_left _ (List.mem_append_right _ (List.mem_append_left _ (List.mem_of_getElem? (l := wsX0_measureCoupon_r2) (i := 22) rfl)))))), List.forall_mem_cons.mpr ⟨(List.mem_cons_of_mem _ (List.mem_append_left _ (List.mem_append_left _ (List.mem_append_right _ (List.mem_append_left _ (List.mem_of_getElem? (l := wsX0_measureCoupon_r2) (i := 23) rfl)))))), List.forall_mem_cons.mpr ⟨(List.mem_cons_of_mem _ (List.mem_append_left _ (List.mem_append_left _ (List.mem_append_right _ (List.mem_append_right _ (List.mem_of_getElem? (l := wsX0_measureCoupon_r3) (i := 0) rfl)))))), List.forall_mem_cons.mpr ⟨(List.mem_cons_of_mem _ (List.mem_append_left _ (List.mem_append_left _ (List.mem_append_right _ (List.mem_append_right _ (List.mem_of_getElem? (l := wsX0_measureCoupon_r3) (i := 1) rfl)))))), List.forall_mem_cons.mpr ⟨(List.mem_cons_of_mem _ (List.mem_append_left _ (List.mem_append_left _ (List.mem_append_right _ (List.mem_append_right _ (List.mem_of_getElem? (l := wsX0_measureCoupon_r3) (i := 2) rfl)))))), List.forall_mem_cons.mpr ⟨(List.mem_cons_of_mem _ (List.mem_append_left _ (List.mem_append_left _ (List.mem_append_right _ (List.mem_append_right _ (List.mem_of_getElem? (l := wsX0_measureCoupon_r3) (i := 3) rfl)))))), List.forall_mem_cons.mpr ⟨(List.mem_cons_of_mem _ (List.mem_append_left _ (List.mem_append_left _ (List.mem_append_right _ (List.mem_append_right _ (List.mem_of_getElem? (l := wsX0_measureCoupon_r3) (i := 4) rfl)))))), List.forall_mem_cons.mpr ⟨(List.mem_cons_of_mem _ (List.mem_append_left _ (List.mem_append_left _ (List.mem_append_right _ (List.mem_append_right _ (List.mem_of_getElem? (l := wsX0_measureCoupon_r3) (i := 5) rfl)))))), List.forall_mem_cons.mpr ⟨(List.mem_cons_of_mem _ (List.mem_append_left _ (List.mem_append_left _ (List.mem_append_right _ (List.mem_append_right _ (List.mem_of_getElem? (l := wsX0_measureCoupon_r3) (i := 6) rfl)))))), List.forall_mem_cons.mpr ⟨(List.mem_cons_of_mem _ (List.mem_append_left _ (List.mem_append_left _ (List.mem_append_right _ (List.mem_append_right _ (List.mem_of_getElem? (l := wsX0_measureCoupon_r3) (i := 7) rfl)))))), List.forall_mem_cons.mpr ⟨(List.mem_cons_of_mem _ (List.mem_append_left _ (List.mem_append_left _ (List.mem_append_right _ (List.mem_append_right _ (List.mem_of_getElem? (l := wsX0_measureCoupon_r3) (i := 8) rfl)))))), List.forall_mem_cons.mpr ⟨(List.mem_cons_of_mem _ (List.mem_append_left _ (List.mem_append_left _ (List.mem_append_right _ (List.mem_append_right _ (List.mem_of_getElem? (l := wsX0_measureCoupon_r3) (i := 9) rfl)))))), List.forall_mem_cons.mpr ⟨(List.mem_cons_of_mem _ (List.mem_append_left _ (List.mem_append_left _ (List.mem_append_right _ (List.mem_append_right _ (List.mem_of_getElem? (l := wsX0_measureCoupon_r3) (i := 10) rfl)))))), List.forall_mem_cons.mpr ⟨(List.mem_cons_of_mem _ (List.mem_append_left _ (List.mem_append_left _ (List.mem_append_right _ (List.mem_append_right _ (List.mem_of_getElem? (l := wsX0_measureCoupon_r3) (i := 11) rfl)))))), List.forall_mem_cons.mpr ⟨(List.mem_cons_of_mem _ (List.mem_append_left _ (List.mem_append_left _ (List.mem_append_right _ (List.mem_append_right _ (List.mem_of_getElem? (l := wsX0_measureCoupon_r3) (i := 12) rfl)))))), (fun _ h => absurd h List.not_mem_nil)⟩⟩⟩⟩⟩⟩⟩⟩⟩⟩⟩⟩⟩⟩⟩⟩⟩⟩⟩
set_option maxRecDepth 100000 in
theorem ggX0_measureCoupon_X0_measure : GoodIn wsX0_measureCoupon wsX0_measure := goodIn_sub (fun w h => (List.mem_cons.mp h).elim (fun e => e ▸ ((List.mem_cons_of_mem _ (List.mem_append_left _ (List.mem_append_left _ (List.mem_append_left _ (List.mem_of_getElem? (l := wsX0_measureCoupon_r1) (i := 17) rfl))))) : Cond.code yX0_measure cX0_measure 6 none ∈ wsX0_measureCoupon)) (fun h => (List.mem_append.mp h).elim (fun h => (List.mem_append.mp h).elim (fun h => (List.mem_append.mp h).elim (fun h => ggX0_measureCoupon_X0_measure_p1 w h) (fun h => ggX0_measureCoupon_X0_measure_p2 w h)) (fun h => (List.mem_cons_of_mem _ (List.mem_append_left _ (List.mem_append_right _ h))))) (fun h => (List.mem_cons_of_mem _ (List.mem_append_right _ h))))) (by decide +kernel)
set_option maxRecDepth 20000 in
theorem gX0_measureCoupon_X0_measure : GoodIn wsX0_measureCoupon (wsV RX0 134 RX0 yX0_measure wsX0_measure) := goodIn_app (goodIn_of _ (by decide +kernel)) ggX0_measureCoupon_X0_measure
set_option maxRecDepth 20000 in
theorem ggX0_measureCoupon_X6_multiply : GoodIn wsX0_measureCoupon wsX6_multiply := goodIn_r _ [65, 40, 41, 36, 37, 38, 32, 39, 42, 43, 44, 82, 83] (by decide +kernel) (by decide +kernel)
set_option maxRecDepth 20000 in
theorem gX0_measureCoupon_X6_multiply : GoodIn wsX0_measureCoupon (wsV RX0 105 RX6 yX6_multiply wsX6_multiply) := goodIn_app (goodIn_of _ (by decide +kernel)) ggX0_measureCoupon_X6_multiply
theorem dX0_measureCoupon_0 : decode cX0_measureCoupon 0 = .ok (.aload_n 0, 1) := by decide +kernel
theorem dX0_measureCoupon_1 : decode cX0_measureCoupon 1 = .ok (.iload_n 1, 1) := by decide +kernel
theorem dX0_measureCoupon_2 : decode cX0_measureCoupon 2 = .ok (.invokevirtual 112, 3) := by decide +kernel
theorem dX0_measureCoupon_5 : decode cX0_measureCoupon 5 = .ok (.ifCond .eq 31, 3) := by decide +kernel
theorem dX0_measureCoupon_8 : decode cX0_measureCoupon 8 = .ok (.aload_n 0, 1) := by decide +kernel
theorem dX0_measureCoupon_9 : decode cX0_measureCoupon 9 = .ok (.aload_n 0, 1) := by decide +kernel
theorem dX0_measureCoupon_10 : decode cX0_measureCoupon 10 = .ok (.iload_n 1, 1) := by decide +kernel
theorem dX0_measureCoupon_11 : decode cX0_measureCoupon 11 = .ok (.invokevirtual 109, 3) := by decide +kernel
theorem dX0_measureCoupon_14 : decode cX0_measureCoupon 14 = .ok (.aload_n 0, 1) := by decide +kernel
theorem dX0_measureCoupon_15 : decode cX0_measureCoupon 15 = .ok (.getfield 47, 3) := by decide +kernel
theorem dX0_measureCoupon_18 : decode cX0_measureCoupon 18 = .ok (.iload_n 1, 1) := by decide +kernel
theorem dX0_measureCoupon_19 : decode cX0_measureCoupon 19 = .ok (.iaload, 1) := by decide +kernel
theorem dX0_measureCoupon_20 : decode cX0_measureCoupon 20 = .ok (.aload_n 2, 1) := by decide +kernel
theorem dX0_measureCoupon_21 : decode cX0_measureCoupon 21 = .ok (.invokevirtual 134, 3) := by decide +kernel
theorem dX0_measureCoupon_24 : decode cX0_measureCoupon 24 = .ok (.aload_n 2, 1) := by decide +kernel
theorem dX0_measureCoupon_25 : decode cX0_measureCoupon 25 = .ok (.aload_n 0, 1) := by decide +kernel
theorem dX0_measureCoupon_26 : decode cX0_measureCoupon 26 = .ok (.getfield 11, 3) := by decide +kernel
theorem dX0_measureCoupon_29 : decode cX0_measureCoupon 29 = .ok (.i2l, 1) := by decide +kernel
theorem dX0_measureCoupon_30 : decode cX0_measureCoupon 30 = .ok (.ldc2_w 103, 3) := by decide +kernel
theorem dX0_measureCoupon_33 : decode cX0_measureCoupon 33 = .ok (.invokevirtual 105, 3) := by decide +kernel
theorem dX0_measureCoupon_36 : decode cX0_measureCoupon 36 = .ok (.return_, 1) := by decide +kernel
