theorem dX12_feed_0 : decode cX12_feed 0 = .ok (.aload_n 0, 1) := by decide +kernel
theorem dX12_feed_1 : decode cX12_feed 1 = .ok (.iconst 0, 1) := by decide +kernel
theorem dX12_feed_2 : decode cX12_feed 2 = .ok (.putfield 107, 3) := by decide +kernel
theorem dX12_feed_5 : decode cX12_feed 5 = .ok (.aload_n 0, 1) := by decide +kernel
theorem dX12_feed_6 : decode cX12_feed 6 = .ok (.getfield 349, 3) := by decide +kernel
theorem dX12_feed_9 : decode cX12_feed 9 = .ok (.bipush 20, 2) := by decide +kernel
theorem dX12_feed_11 : decode cX12_feed 11 = .ok (.iadd, 1) := by decide +kernel
theorem dX12_feed_12 : decode cX12_feed 12 = .ok (.sipush 900, 3) := by decide +kernel
theorem dX12_feed_15 : decode cX12_feed 15 = .ok (.if_icmp .le 5, 3) := by decide +kernel
theorem dX12_feed_18 : decode cX12_feed 18 = .ok (.iconst (-1), 1) := by decide +kernel
theorem dX12_feed_19 : decode cX12_feed 19 = .ok (.ireturn, 1) := by decide +kernel
theorem dX12_feed_20 : decode cX12_feed 20 = .ok (.iconst 0, 1) := by decide +kernel
theorem dX12_feed_21 : decode cX12_feed 21 = .ok (.istore 6, 2) := by decide +kernel
theorem dX12_feed_23 : decode cX12_feed 23 = .ok (.iload 6, 2) := by decide +kernel
theorem dX12_feed_25 : decode cX12_feed 25 = .ok (.bipush 20, 2) := by decide +kernel
theorem dX12_feed_27 : decode cX12_feed 27 = .ok (.if_icmp .ge 90, 3) := by decide +kernel
theorem dX12_feed_30 : decode cX12_feed 30 = .ok (.iload 6, 2) := by decide +kernel
theorem dX12_feed_32 : decode cX12_feed 32 = .ok (.iconst 4, 1) := by decide +kernel
theorem dX12_feed_33 : decode cX12_feed 33 = .ok (.if_icmp .ge 7, 3) := by decide +kernel
theorem dX12_feed_36 : decode cX12_feed 36 = .ok (.iload_n 1, 1) := by decide +kernel
theorem dX12_feed_37 : decode cX12_feed 37 = .ok (.goto 39, 3) := by decide +kernel
theorem dX12_feed_40 : decode cX12_feed 40 = .ok (.iload 6, 2) := by decide +kernel
theorem dX12_feed_42 : decode cX12_feed 42 = .ok (.bipush 8, 2) := by decide +kernel
theorem dX12_feed_44 : decode cX12_feed 44 = .ok (.if_icmp .ge 7, 3) := by decide +kernel
theorem dX12_feed_47 : decode cX12_feed 47 = .ok (.iload_n 2, 1) := by decide +kernel
theorem dX12_feed_48 : decode cX12_feed 48 = .ok (.goto 28, 3) := by decide +kernel
theorem dX12_feed_51 : decode cX12_feed 51 = .ok (.iload 6, 2) := by decide +kernel
theorem dX12_feed_53 : decode cX12_feed 53 = .ok (.bipush 12, 2) := by decide +kernel
theorem dX12_feed_55 : decode cX12_feed 55 = .ok (.if_icmp .ge 7, 3) := by decide +kernel
theorem dX12_feed_58 : decode cX12_feed 58 = .ok (.iload_n 3, 1) := by decide +kernel
theorem dX12_feed_59 : decode cX12_feed 59 = .ok (.goto 17, 3) := by decide +kernel
theorem dX12_feed_62 : decode cX12_feed 62 = .ok (.iload 6, 2) := by decide +kernel
theorem dX12_feed_64 : decode cX12_feed 64 = .ok (.bipush 16, 2) := by decide +kernel
theorem dX12_feed_66 : decode cX12_feed 66 = .ok (.if_icmp .ge 8, 3) := by decide +kernel
theorem dX12_feed_69 : decode cX12_feed 69 = .ok (.iload 4, 2) := by decide +kernel
theorem dX12_feed_71 : decode cX12_feed 71 = .ok (.goto 5, 3) := by decide +kernel
theorem dX12_feed_74 : decode cX12_feed 74 = .ok (.iload 5, 2) := by decide +kernel
theorem dX12_feed_76 : decode cX12_feed 76 = .ok (.istore 7, 2) := by decide +kernel
theorem dX12_feed_78 : decode cX12_feed 78 = .ok (.aload_n 0, 1) := by decide +kernel
theorem dX12_feed_79 : decode cX12_feed 79 = .ok (.getfield 60, 3) := by decide +kernel
theorem dX12_feed_82 : decode cX12_feed 82 = .ok (.aload_n 0, 1) := by decide +kernel
theorem dX12_feed_83 : decode cX12_feed 83 = .ok (.getfield 349, 3) := by decide +kernel
theorem dX12_feed_86 : decode cX12_feed 86 = .ok (.iload 7, 2) := by decide +kernel
theorem dX12_feed_88 : decode cX12_feed 88 = .ok (.bipush 24, 2) := by decide +kernel
theorem dX12_feed_90 : decode cX12_feed 90 = .ok (.bipush 8, 2) := by decide +kernel
theorem dX12_feed_92 : decode cX12_feed 92 = .ok (.iload 6, 2) := by decide +kernel
theorem dX12_feed_94 : decode cX12_feed 94 = .ok (.iconst 4, 1) := by decide +kernel
theorem dX12_feed_95 : decode cX12_feed 95 = .ok (.irem, 1) := by decide +kernel
theorem dX12_feed_96 : decode cX12_feed 96 = .ok (.imul, 1) := by decide +kernel
theorem dX12_feed_97 : decode cX12_feed 97 = .ok (.isub, 1) := by decide +kernel
theorem dX12_feed_98 : decode cX12_feed 98 = .ok (.ishr, 1) := by decide +kernel
theorem dX12_feed_99 : decode cX12_feed 99 = .ok (.i2b, 1) := by decide +kernel
theorem dX12_feed_100 : decode cX12_feed 100 = .ok (.bastore, 1) := by decide +kernel
theorem dX12_feed_101 : decode cX12_feed 101 = .ok (.aload_n 0, 1) := by decide +kernel
theorem dX12_feed_102 : decode cX12_feed 102 = .ok (.dup, 1) := by decide +kernel
theorem dX12_feed_103 : decode cX12_feed 103 = .ok (.getfield 349, 3) := by decide +kernel
theorem dX12_feed_106 : decode cX12_feed 106 = .ok (.iconst 1, 1) := by decide +kernel
theorem dX12_feed_107 : decode cX12_feed 107 = .ok (.iadd, 1) := by decide +kernel
theorem dX12_feed_108 : decode cX12_feed 108 = .ok (.putfield 349, 3) := by decide +kernel
theorem dX12_feed_111 : decode cX12_feed 111 = .ok (.iinc 6 1, 3) := by decide +kernel
theorem dX12_feed_114 : decode cX12_feed 114 = .ok (.goto (-91), 3) := by decide +kernel
theorem dX12_feed_117 : decode cX12_feed 117 = .ok (.aload_n 0, 1) := by decide +kernel
theorem dX12_feed_118 : decode cX12_feed 118 = .ok (.getfield 349, 3) := by decide +kernel
theorem dX12_feed_121 : decode cX12_feed 121 = .ok (.ireturn, 1) := by decide +kernel
theorem dX12_fault_0 : decode cX12_fault 0 = .ok (.aload_n 0, 1) := by decide +kernel
theorem dX12_fault_1 : decode cX12_fault 1 = .ok (.iconst 0, 1) := by decide +kernel
theorem dX12_fault_2 : decode cX12_fault 2 = .ok (.putfield 107, 3) := by decide +kernel
theorem dX12_fault_5 : decode cX12_fault 5 = .ok (.aload_n 0, 1) := by decide +kernel
theorem dX12_fault_6 : decode cX12_fault 6 = .ok (.getfield 192, 3) := by decide +kernel
theorem dX12_fault_9 : decode cX12_fault 9 = .ok (.ireturn, 1) := by decide +kernel
theorem dX12_where_0 : decode cX12_where 0 = .ok (.aload_n 0, 1) := by decide +kernel
theorem dX12_where_1 : decode cX12_where 1 = .ok (.iconst 0, 1) := by decide +kernel
theorem dX12_where_2 : decode cX12_where 2 = .ok (.putfield 107, 3) := by decide +kernel
theorem dX12_where_5 : decode cX12_where 5 = .ok (.aload_n 0, 1) := by decide +kernel
theorem dX12_where_6 : decode cX12_where 6 = .ok (.getfield 9, 3) := by decide +kernel
theorem dX12_where_9 : decode cX12_where 9 = .ok (.ireturn, 1) := by decide +kernel
set_option maxRecDepth 20000 in
theorem ggX12_days_X12_isDate : GoodIn wsX12_days wsX12_isDate := goodIn_r _ [6, 7, 8, 9, 10, 5, 11, 12, 13, 14] (by decide +kernel) (by decide +kernel)
set_option maxRecDepth 20000 in
theorem gX12_days_X12_isDate : GoodIn wsX12_days (va_wsS RX12 246 yX12_isDate wsX12_isDate) := goodIn_app (goodIn_of _ (by decide +kernel)) ggX12_days_X12_isDate
set_option maxRecDepth 100000 in
theorem ggX12_days_X12_refused_p1 : ∀ w ∈ ([.fieldLink RX12 110 "BondCalendarsModel" "trouble" "I", .fieldLink RX12 9 "BondCalendarsModel" "wrongAt" "I"] : List Cond), w ∈ wsX12_days := List.forall_mem_cons.mpr ⟨(List.mem_cons_of_mem _ (List.mem_append_left _ (List.mem_append_left _ (List.mem_of_getElem? (l := wsX12_days_r1) (i := 18) rfl)))), List.forall_mem_cons.mpr ⟨(List.mem_cons_of_mem _ (List.mem_append_left _ (List.mem_append_left _ (List.mem_of_getElem? (l := wsX12_days_r1) (i := 19) rfl)))), (fun _ h => absurd h List.not_mem_nil)⟩⟩
set_option maxRecDepth 100000 in
theorem ggX12_days_X12_refused : GoodIn wsX12_days wsX12_refused := goodIn_sub (fun w h => (List.mem_cons.mp h).elim (fun e => e ▸ ((List.mem_cons_of_mem _ (List.mem_append_left _ (List.mem_append_left _ (List.mem_of_getElem? (l := wsX12_days_r1) (i := 17) rfl)))) : Cond.code yX12_refused cX12_refused 2 (some .int) ∈ wsX12_days)) (fun h => (List.mem_append.mp h).elim (fun h => ggX12_days_X12_refused_p1 w h) (fun h => (List.mem_cons_of_mem _ (List.mem_append_right _ h))))) (by decide +kernel)
set_option maxRecDepth 20000 in
theorem gX12_days_X12_refused : GoodIn wsX12_days (wsV RX12 113 RX12 yX12_refused wsX12_refused) := goodIn_app (goodIn_of _ (by decide +kernel)) ggX12_days_X12_refused
set_option maxRecDepth 20000 in
theorem ggX12_days_X12_dayOf : GoodIn wsX12_days wsX12_dayOf := goodIn_r _ [23, 24, 25, 5, 26] (by decide +kernel) (by decide +kernel)
set_option maxRecDepth 20000 in
theorem gX12_days_X12_dayOf : GoodIn wsX12_days (va_wsS RX12 143 yX12_dayOf wsX12_dayOf) := goodIn_app (goodIn_of _ (by decide +kernel)) ggX12_days_X12_dayOf
set_option maxRecDepth 100000 in
theorem ggX12_days_X12_good_p1 : ∀ w ∈ ([.fieldLink RX12 110 "BondCalendarsModel" "trouble" "I", .fieldLink RX12 9 "BondCalendarsModel" "wrongAt" "I"] : List Cond), w ∈ wsX12_days := List.forall_mem_cons.mpr ⟨(List.mem_cons_of_mem _ (List.mem_append_left _ (List.mem_append_left _ (List.mem_of_getElem? (l := wsX12_days_r1) (i := 18) rfl)))), List.forall_mem_cons.mpr ⟨(List.mem_cons_of_mem _ (List.mem_append_left _ (List.mem_append_left _ (List.mem_of_getElem? (l := wsX12_days_r1) (i := 19) rfl)))), (fun _ h => absurd h List.not_mem_nil)⟩⟩
set_option maxRecDepth 100000 in
theorem ggX12_days_X12_good : GoodIn wsX12_days wsX12_good := goodIn_sub (fun w h => (List.mem_cons.mp h).elim (fun e => e ▸ ((List.mem_cons_of_mem _ (List.mem_append_left _ (List.mem_append_right _ (List.mem_of_getElem? (l := wsX12_days_r2) (i := 5) rfl)))) : Cond.code yX12_good cX12_good 2 (some .int) ∈ wsX12_days)) (fun h => (List.mem_append.mp h).elim (fun h => ggX12_days_X12_good_p1 w h) (fun h => (List.mem_cons_of_mem _ (List.mem_append_right _ h))))) (by decide +kernel)
set_option maxRecDepth 20000 in
theorem gX12_days_X12_good : GoodIn wsX12_days (wsV RX12 117 RX12 yX12_good wsX12_good) := goodIn_app (goodIn_of _ (by decide +kernel)) ggX12_days_X12_good
theorem dX12_days_0 : decode cX12_days 0 = .ok (.aload_n 0, 1) := by decide +kernel
theorem dX12_days_1 : decode cX12_days 1 = .ok (.iconst 0, 1) := by decide +kernel
theorem dX12_days_2 : decode cX12_days 2 = .ok (.putfield 107, 3) := by decide +kernel
theorem dX12_days_5 : decode cX12_days 5 = .ok (.iload_n 1, 1) := by decide +kernel
theorem dX12_days_6 : decode cX12_days 6 = .ok (.invokestatic 246, 3) := by decide +kernel
theorem dX12_days_9 : decode cX12_days 9 = .ok (.ifCond .eq 10, 3) := by decide +kernel
theorem dX12_days_12 : decode cX12_days 12 = .ok (.iload_n 2, 1) := by decide +kernel
theorem dX12_days_13 : decode cX12_days 13 = .ok (.invokestatic 246, 3) := by decide +kernel
theorem dX12_days_16 : decode cX12_days 16 = .ok (.ifCond .ne 13, 3) := by decide +kernel
theorem dX12_days_19 : decode cX12_days 19 = .ok (.aload_n 0, 1) := by decide +kernel
theorem dX12_days_20 : decode cX12_days 20 = .ok (.iconst 2, 1) := by decide +kernel
theorem dX12_days_21 : decode cX12_days 21 = .ok (.invokevirtual 113, 3) := by decide +kernel
theorem dX12_days_24 : decode cX12_days 24 = .ok (.pop, 1) := by decide +kernel
theorem dX12_days_25 : decode cX12_days 25 = .ok (.ldc_w 424, 3) := by decide +kernel
theorem dX12_days_28 : decode cX12_days 28 = .ok (.ireturn, 1) := by decide +kernel
theorem dX12_days_29 : decode cX12_days 29 = .ok (.aload_n 0, 1) := by decide +kernel
theorem dX12_days_30 : decode cX12_days 30 = .ok (.iload_n 2, 1) := by decide +kernel
theorem dX12_days_31 : decode cX12_days 31 = .ok (.invokestatic 143, 3) := by decide +kernel
theorem dX12_days_34 : decode cX12_days 34 = .ok (.iload_n 1, 1) := by decide +kernel
theorem dX12_days_35 : decode cX12_days 35 = .ok (.invokestatic 143, 3) := by decide +kernel
theorem dX12_days_38 : decode cX12_days 38 = .ok (.isub, 1) := by decide +kernel
theorem dX12_days_39 : decode cX12_days 39 = .ok (.invokevirtual 117, 3) := by decide +kernel
theorem dX12_days_42 : decode cX12_days 42 = .ok (.ireturn, 1) := by decide +kernel
set_option maxRecDepth 20000 in
theorem ggX12_weekday_X12_isDate : GoodIn wsX12_weekday wsX12_isDate := goodIn_r _ [5, 6, 7, 8, 9, 4, 10, 11, 12, 13] (by decide +kernel) (by decide +kernel)
set_option maxRecDepth 20000 in
theorem gX12_weekday_X12_isDate : GoodIn wsX12_weekday (va_wsS RX12 246 yX12_isDate wsX12_isDate) := goodIn_app (goodIn_of _ (by decide +kernel)) ggX12_weekday_X12_isDate
set_option maxRecDepth 100000 in
theorem ggX12_weekday_X12_refused_p1 : ∀ w ∈ ([.fieldLink RX12 110 "BondCalendarsModel" "trouble" "I", .fieldLink RX12 9 "BondCalendarsModel" "wrongAt" "I"] : List Cond), w ∈ wsX12_weekday := List.forall_mem_cons.mpr ⟨(List.mem_cons_of_mem _ (List.mem_append_left _ (List.mem_append_left _ (List.mem_of_getElem? (l := wsX12_weekday_r1) (i := 17) rfl)))), List.forall_mem_cons.mpr ⟨(List.mem_cons_of_mem _ (List.mem_append_left _ (List.mem_append_left _ (List.mem_of_getElem? (l := wsX12_weekday_r1) (i := 18) rfl)))), (fun _ h => absurd h List.not_mem_nil)⟩⟩
set_option maxRecDepth 100000 in
theorem ggX12_weekday_X12_refused : GoodIn wsX12_weekday wsX12_refused := goodIn_sub (fun w h => (List.mem_cons.mp h).elim (fun e => e ▸ ((List.mem_cons_of_mem _ (List.mem_append_left _ (List.mem_append_left _ (List.mem_of_getElem? (l := wsX12_weekday_r1) (i := 16) rfl)))) : Cond.code yX12_refused cX12_refused 2 (some .int) ∈ wsX12_weekday)) (fun h => (List.mem_append.mp h).elim (fun h => ggX12_weekday_X12_refused_p1 w h) (fun h => (List.mem_cons_of_mem _ (List.mem_append_right _ h))))) (by decide +kernel)
set_option maxRecDepth 20000 in
theorem gX12_weekday_X12_refused : GoodIn wsX12_weekday (wsV RX12 113 RX12 yX12_refused wsX12_refused) := goodIn_app (goodIn_of _ (by decide +kernel)) ggX12_weekday_X12_refused
set_option maxRecDepth 20000 in
theorem ggX12_weekday_X12_dayOf : GoodIn wsX12_weekday wsX12_dayOf := goodIn_r _ [22, 23, 24, 4, 25] (by decide +kernel) (by decide +kernel)
set_option maxRecDepth 20000 in
theorem gX12_weekday_X12_dayOf : GoodIn wsX12_weekday (va_wsS RX12 143 yX12_dayOf wsX12_dayOf) := goodIn_app (goodIn_of _ (by decide +kernel)) ggX12_weekday_X12_dayOf
set_option maxRecDepth 20000 in
theorem ggX12_weekday_X12_weekdayOf : GoodIn wsX12_weekday wsX12_weekdayOf := goodIn_r _ [28, 6, 29, 20, 21, 4, 22, 23, 24, 25] (by decide +kernel) (by decide +kernel)
set_option maxRecDepth 20000 in
theorem gX12_weekday_X12_weekdayOf : GoodIn wsX12_weekday (va_wsS RX12 147 yX12_weekdayOf wsX12_weekdayOf) := goodIn_app (goodIn_of _ (by decide +kernel)) ggX12_weekday_X12_weekdayOf
set_option maxRecDepth 100000 in
theorem ggX12_weekday_X12_good_p1 : ∀ w ∈ ([.fieldLink RX12 110 "BondCalendarsModel" "trouble" "I", .fieldLink RX12 9 "BondCalendarsModel" "wrongAt" "I"] : List Cond), w ∈ wsX12_weekday := List.forall_mem_cons.mpr ⟨(List.mem_cons_of_mem _ (List.mem_append_left _ (List.mem_append_left _ (List.mem_of_getElem? (l := wsX12_weekday_r1) (i := 17) rfl)))), List.forall_mem_cons.mpr ⟨(List.mem_cons_of_mem _ (List.mem_append_left _ (List.mem_append_left _ (List.mem_of_getElem? (l := wsX12_weekday_r1) (i := 18) rfl)))), (fun _ h => absurd h List.not_mem_nil)⟩⟩
set_option maxRecDepth 100000 in
theorem ggX12_weekday_X12_good : GoodIn wsX12_weekday wsX12_good := goodIn_sub (fun w h => (List.mem_cons.mp h).elim (fun e => e ▸ ((List.mem_cons_of_mem _ (List.mem_append_left _ (List.mem_append_right _ (List.mem_of_getElem? (l := wsX12_weekday_r2) (i := 8) rfl)))) : Cond.code yX12_good cX12_good 2 (some .int) ∈ wsX12_weekday)) (fun h => (List.mem_append.mp h).elim (fun h => ggX12_weekday_X12_good_p1 w h) (fun h => (List.mem_cons_of_mem _ (List.mem_append_right _ h))))) (by decide +kernel)
set_option maxRecDepth 20000 in
theorem gX12_weekday_X12_good : GoodIn wsX12_weekday (wsV RX12 117 RX12 yX12_good wsX12_good) := goodIn_app (goodIn_of _ (by decide +kernel)) ggX12_weekday_X12_good
theorem dX12_weekday_0 : decode cX12_weekday 0 = .ok (.aload_n 0, 1) := by decide +kernel
theorem dX12_weekday_1 : decode cX12_weekday 1 = .ok (.iconst 0, 1) := by decide +kernel
theorem dX12_weekday_2 : decode cX12_weekday 2 = .ok (.putfield 107, 3) := by decide +kernel
theorem dX12_weekday_5 : decode cX12_weekday 5 = .ok (.iload_n 1, 1) := by decide +kernel
theorem dX12_weekday_6 : decode cX12_weekday 6 = .ok (.invokestatic 246, 3) := by decide +kernel
theorem dX12_weekday_9 : decode cX12_weekday 9 = .ok (.ifCond .ne 9, 3) := by decide +kernel
theorem dX12_weekday_12 : decode cX12_weekday 12 = .ok (.aload_n 0, 1) := by decide +kernel
theorem dX12_weekday_13 : decode cX12_weekday 13 = .ok (.iconst 2, 1) := by decide +kernel
theorem dX12_weekday_14 : decode cX12_weekday 14 = .ok (.invokevirtual 113, 3) := by decide +kernel
theorem dX12_weekday_17 : decode cX12_weekday 17 = .ok (.ireturn, 1) := by decide +kernel
theorem dX12_weekday_18 : decode cX12_weekday 18 = .ok (.aload_n 0, 1) := by decide +kernel
theorem dX12_weekday_19 : decode cX12_weekday 19 = .ok (.iload_n 1, 1) := by decide +kernel
theorem dX12_weekday_20 : decode cX12_weekday 20 = .ok (.invokestatic 143, 3) := by decide +kernel
theorem dX12_weekday_23 : decode cX12_weekday 23 = .ok (.invokestatic 147, 3) := by decide +kernel
theorem dX12_weekday_26 : decode cX12_weekday 26 = .ok (.invokevirtual 117, 3) := by decide +kernel
theorem dX12_weekday_29 : decode cX12_weekday 29 = .ok (.ireturn, 1) := by decide +kernel
set_option maxRecDepth 20000 in
theorem ggX12_months_X12_isDate : GoodIn wsX12_months wsX12_isDate := goodIn_r _ [5, 6, 7, 8, 9, 4, 10, 11, 12, 13] (by decide +kernel) (by decide +kernel)
set_option maxRecDepth 20000 in
theorem gX12_months_X12_isDate : GoodIn wsX12_months (va_wsS RX12 246 yX12_isDate wsX12_isDate) := goodIn_app (goodIn_of _ (by decide +kernel)) ggX12_months_X12_isDate
set_option maxRecDepth 20000 in
theorem ggX12_months_X12_in : GoodIn wsX12_months wsX12_in := goodIn_r _ [10] (by decide +kernel) (by decide +kernel)
set_option maxRecDepth 20000 in
theorem gX12_months_X12_in : GoodIn wsX12_months (va_wsS RX12 132 yX12_in wsX12_in) := goodIn_app (goodIn_of _ (by decide +kernel)) ggX12_months_X12_in
set_option maxRecDepth 100000 in
theorem ggX12_months_X12_refused_p1 : ∀ w ∈ ([.fieldLink RX12 110 "BondCalendarsModel" "trouble" "I", .fieldLink RX12 9 "BondCalendarsModel" "wrongAt" "I"] : List Cond), w ∈ wsX12_months := List.forall_mem_cons.mpr ⟨(List.mem_cons_of_mem _ (List.mem_append_left _ (List.mem_append_left _ (List.mem_of_getElem? (l := wsX12_months_r1) (i := 17) rfl)))), List.forall_mem_cons.mpr ⟨(List.mem_cons_of_mem _ (List.mem_append_left _ (List.mem_append_left _ (List.mem_of_getElem? (l := wsX12_months_r1) (i := 18) rfl)))), (fun _ h => absurd h List.not_mem_nil)⟩⟩
set_option maxRecDepth 100000 in
theorem ggX12_months_X12_refused : GoodIn wsX12_months wsX12_refused := goodIn_sub (fun w h => (List.mem_cons.mp h).elim (fun e => e ▸ ((List.mem_cons_of_mem _ (List.mem_append_left _ (List.mem_append_left _ (List.mem_of_getElem? (l := wsX12_months_r1) (i := 16) rfl)))) : Cond.code yX12_refused cX12_refused 2 (some .int) ∈ wsX12_months)) (fun h => (List.mem_append.mp h).elim (fun h => ggX12_months_X12_refused_p1 w h) (fun h => (List.mem_cons_of_mem _ (List.mem_append_right _ h))))) (by decide +kernel)
set_option maxRecDepth 20000 in
theorem gX12_months_X12_refused : GoodIn wsX12_months (wsV RX12 113 RX12 yX12_refused wsX12_refused) := goodIn_app (goodIn_of _ (by decide +kernel)) ggX12_months_X12_refused
set_option maxRecDepth 20000 in
theorem ggX12_months_X12_isMonthEnd : GoodIn wsX12_months wsX12_isMonthEnd := goodIn_r _ [22, 11, 12, 4, 13] (by decide +kernel) (by decide +kernel)
set_option maxRecDepth 20000 in
theorem gX12_months_X12_isMonthEnd : GoodIn wsX12_months (va_wsS RX12 180 yX12_isMonthEnd wsX12_isMonthEnd) := goodIn_app (goodIn_of _ (by decide +kernel)) ggX12_months_X12_isMonthEnd
set_option maxRecDepth 20000 in
theorem ggX12_months_X12_monthsFrom : GoodIn wsX12_months wsX12_monthsFrom := goodIn_r _ [25, 11, 12, 4, 13] (by decide +kernel) (by decide +kernel)
set_option maxRecDepth 20000 in
theorem gX12_months_X12_monthsFrom : GoodIn wsX12_months (va_wsS RX12 183 yX12_monthsFrom wsX12_monthsFrom) := goodIn_app (goodIn_of _ (by decide +kernel)) ggX12_months_X12_monthsFrom
set_option maxRecDepth 100000 in
theorem ggX12_months_X12_good_p1 : ∀ w ∈ ([.fieldLink RX12 110 "BondCalendarsModel" "trouble" "I", .fieldLink RX12 9 "BondCalendarsModel" "wrongAt" "I"] : List Cond), w ∈ wsX12_months := List.forall_mem_cons.mpr ⟨(List.mem_cons_of_mem _ (List.mem_append_left _ (List.mem_append_left _ (List.mem_of_getElem? (l := wsX12_months_r1) (i := 17) rfl)))), List.forall_mem_cons.mpr ⟨(List.mem_cons_of_mem _ (List.mem_append_left _ (List.mem_append_left _ (List.mem_of_getElem? (l := wsX12_months_r1) (i := 18) rfl)))), (fun _ h => absurd h List.not_mem_nil)⟩⟩
set_option maxRecDepth 100000 in
theorem ggX12_months_X12_good : GoodIn wsX12_months wsX12_good := goodIn_sub (fun w h => (List.mem_cons.mp h).elim (fun e => e ▸ ((List.mem_cons_of_mem _ (List.mem_append_left _ (List.mem_append_right _ (List.mem_of_getElem? (l := wsX12_months_r2) (i := 4) rfl)))) : Cond.code yX12_good cX12_good 2 (some .int) ∈ wsX12_months)) (fun h => (List.mem_append.mp h).elim (fun h => ggX12_months_X12_good_p1 w h) (fun h => (List.mem_cons_of_mem _ (List.mem_append_right _ h))))) (by decide +kernel)
set_option maxRecDepth 20000 in
theorem gX12_months_X12_good : GoodIn wsX12_months (wsV RX12 117 RX12 yX12_good wsX12_good) := goodIn_app (goodIn_of _ (by decide +kernel)) ggX12_months_X12_good
theorem dX12_months_0 : decode cX12_months 0 = .ok (.aload_n 0, 1) := by decide +kernel
theorem dX12_months_1 : decode cX12_months 1 = .ok (.iconst 0, 1) := by decide +kernel
theorem dX12_months_2 : decode cX12_months 2 = .ok (.putfield 107, 3) := by decide +kernel
theorem dX12_months_5 : decode cX12_months 5 = .ok (.iload_n 1, 1) := by decide +kernel
theorem dX12_months_6 : decode cX12_months 6 = .ok (.invokestatic 246, 3) := by decide +kernel
theorem dX12_months_9 : decode cX12_months 9 = .ok (.ifCond .eq 14, 3) := by decide +kernel
theorem dX12_months_12 : decode cX12_months 12 = .ok (.iload_n 2, 1) := by decide +kernel
theorem dX12_months_13 : decode cX12_months 13 = .ok (.bipush (-120), 2) := by decide +kernel
theorem dX12_months_15 : decode cX12_months 15 = .ok (.bipush 120, 2) := by decide +kernel
theorem dX12_months_17 : decode cX12_months 17 = .ok (.invokestatic 132, 3) := by decide +kernel
theorem dX12_months_20 : decode cX12_months 20 = .ok (.ifCond .ne 9, 3) := by decide +kernel
theorem dX12_months_23 : decode cX12_months 23 = .ok (.aload_n 0, 1) := by decide +kernel
theorem dX12_months_24 : decode cX12_months 24 = .ok (.iconst 2, 1) := by decide +kernel
theorem dX12_months_25 : decode cX12_months 25 = .ok (.invokevirtual 113, 3) := by decide +kernel
theorem dX12_months_28 : decode cX12_months 28 = .ok (.ireturn, 1) := by decide +kernel
theorem dX12_months_29 : decode cX12_months 29 = .ok (.aload_n 0, 1) := by decide +kernel
theorem dX12_months_30 : decode cX12_months 30 = .ok (.iload_n 1, 1) := by decide +kernel
theorem dX12_months_31 : decode cX12_months 31 = .ok (.iload_n 2, 1) := by decide +kernel
theorem dX12_months_32 : decode cX12_months 32 = .ok (.iload_n 3, 1) := by decide +kernel
theorem dX12_months_33 : decode cX12_months 33 = .ok (.ifCond .eq 14, 3) := by decide +kernel
theorem dX12_months_36 : decode cX12_months 36 = .ok (.iload_n 1, 1) := by decide +kernel
theorem dX12_months_37 : decode cX12_months 37 = .ok (.invokestatic 180, 3) := by decide +kernel
theorem dX12_months_40 : decode cX12_months 40 = .ok (.ifCond .eq 7, 3) := by decide +kernel
theorem dX12_months_43 : decode cX12_months 43 = .ok (.iconst 1, 1) := by decide +kernel
theorem dX12_months_44 : decode cX12_months 44 = .ok (.goto 4, 3) := by decide +kernel
theorem dX12_months_47 : decode cX12_months 47 = .ok (.iconst 0, 1) := by decide +kernel
theorem dX12_months_48 : decode cX12_months 48 = .ok (.invokestatic 183, 3) := by decide +kernel
theorem dX12_months_51 : decode cX12_months 51 = .ok (.invokevirtual 117, 3) := by decide +kernel
theorem dX12_months_54 : decode cX12_months 54 = .ok (.ireturn, 1) := by decide +kernel
theorem dX12_isBond_0 : decode cX12_isBond 0 = .ok (.iload_n 1, 1) := by decide +kernel
theorem dX12_isBond_1 : decode cX12_isBond 1 = .ok (.ifCond .lt 15, 3) := by decide +kernel
theorem dX12_isBond_4 : decode cX12_isBond 4 = .ok (.iload_n 1, 1) := by decide +kernel
theorem dX12_isBond_5 : decode cX12_isBond 5 = .ok (.aload_n 0, 1) := by decide +kernel
theorem dX12_isBond_6 : decode cX12_isBond 6 = .ok (.getfield 358, 3) := by decide +kernel
theorem dX12_isBond_9 : decode cX12_isBond 9 = .ok (.if_icmp .ge 7, 3) := by decide +kernel
theorem dX12_isBond_12 : decode cX12_isBond 12 = .ok (.iconst 1, 1) := by decide +kernel
theorem dX12_isBond_13 : decode cX12_isBond 13 = .ok (.goto 4, 3) := by decide +kernel
theorem dX12_isBond_16 : decode cX12_isBond 16 = .ok (.iconst 0, 1) := by decide +kernel
theorem dX12_isBond_17 : decode cX12_isBond 17 = .ok (.ireturn, 1) := by decide +kernel
set_option maxRecDepth 100000 in
theorem ggX12_now_X12_refused_p1 : ∀ w ∈ ([.fieldLink RX12 110 "BondCalendarsModel" "trouble" "I", .fieldLink RX12 9 "BondCalendarsModel" "wrongAt" "I"] : List Cond), w ∈ wsX12_now := List.forall_mem_cons.mpr ⟨(List.mem_cons_of_mem _ (List.mem_append_left _ (List.mem_of_getElem? (i := 8) rfl))), List.forall_mem_cons.mpr ⟨(List.mem_cons_of_mem _ (List.mem_append_left _ (List.mem_of_getElem? (i := 9) rfl))), (fun _ h => absurd h List.not_mem_nil)⟩⟩
set_option maxRecDepth 100000 in
theorem ggX12_now_X12_refused : GoodIn wsX12_now wsX12_refused := goodIn_sub (fun w h => (List.mem_cons.mp h).elim (fun e => e ▸ ((List.mem_cons_of_mem _ (List.mem_append_left _ (List.mem_of_getElem? (i := 7) rfl))) : Cond.code yX12_refused cX12_refused 2 (some .int) ∈ wsX12_now)) (fun h => (List.mem_append.mp h).elim (fun h => ggX12_now_X12_refused_p1 w h) (fun h => (List.mem_cons_of_mem _ (List.mem_append_right _ h))))) (by decide +kernel)
set_option maxRecDepth 20000 in
theorem gX12_now_X12_refused : GoodIn wsX12_now (wsV RX12 113 RX12 yX12_refused wsX12_refused) := goodIn_app (goodIn_of _ (by decide +kernel)) ggX12_now_X12_refused
set_option maxRecDepth 100000 in
theorem ggX12_now_X12_good_p1 : ∀ w ∈ ([.fieldLink RX12 110 "BondCalendarsModel" "trouble" "I", .fieldLink RX12 9 "BondCalendarsModel" "wrongAt" "I"] : List Cond), w ∈ wsX12_now := List.forall_mem_cons.mpr ⟨(List.mem_cons_of_mem _ (List.mem_append_left _ (List.mem_of_getElem? (i := 8) rfl))), List.forall_mem_cons.mpr ⟨(List.mem_cons_of_mem _ (List.mem_append_left _ (List.mem_of_getElem? (i := 9) rfl))), (fun _ h => absurd h List.not_mem_nil)⟩⟩
set_option maxRecDepth 100000 in
theorem ggX12_now_X12_good : GoodIn wsX12_now wsX12_good := goodIn_sub (fun w h => (List.mem_cons.mp h).elim (fun e => e ▸ ((List.mem_cons_of_mem _ (List.mem_append_left _ (List.mem_of_getElem? (i := 13) rfl))) : Cond.code yX12_good cX12_good 2 (some .int) ∈ wsX12_now)) (fun h => (List.mem_append.mp h).elim (fun h => ggX12_now_X12_good_p1 w h) (fun h => (List.mem_cons_of_mem _ (List.mem_append_right _ h))))) (by decide +kernel)
set_option maxRecDepth 20000 in
theorem gX12_now_X12_good : GoodIn wsX12_now (wsV RX12 117 RX12 yX12_good wsX12_good) := goodIn_app (goodIn_of _ (by decide +kernel)) ggX12_now_X12_good
theorem dX12_now_0 : decode cX12_now 0 = .ok (.aload_n 0, 1) := by decide +kernel
theorem dX12_now_1 : decode cX12_now 1 = .ok (.iconst 0, 1) := by decide +kernel
theorem dX12_now_2 : decode cX12_now 2 = .ok (.putfield 107, 3) := by decide +kernel
theorem dX12_now_5 : decode cX12_now 5 = .ok (.aload_n 0, 1) := by decide +kernel
theorem dX12_now_6 : decode cX12_now 6 = .ok (.getfield 361, 3) := by decide +kernel
theorem dX12_now_9 : decode cX12_now 9 = .ok (.ifCond .ne 9, 3) := by decide +kernel
theorem dX12_now_12 : decode cX12_now 12 = .ok (.aload_n 0, 1) := by decide +kernel
theorem dX12_now_13 : decode cX12_now 13 = .ok (.iconst 1, 1) := by decide +kernel
theorem dX12_now_14 : decode cX12_now 14 = .ok (.invokevirtual 113, 3) := by decide +kernel
theorem dX12_now_17 : decode cX12_now 17 = .ok (.ireturn, 1) := by decide +kernel
theorem dX12_now_18 : decode cX12_now 18 = .ok (.aload_n 0, 1) := by decide +kernel
theorem dX12_now_19 : decode cX12_now 19 = .ok (.aload_n 0, 1) := by decide +kernel
theorem dX12_now_20 : decode cX12_now 20 = .ok (.getfield 377, 3) := by decide +kernel
theorem dX12_now_23 : decode cX12_now 23 = .ok (.invokevirtual 117, 3) := by decide +kernel
theorem dX12_now_26 : decode cX12_now 26 = .ok (.ireturn, 1) := by decide +kernel
set_option maxRecDepth 100000 in
theorem ggX12_cash_X12_refusedLong_p1 : ∀ w ∈ ([.methodLink RX12 113 yX12_refused, .instanceMethod yX12_refused, .selects RX12 yX12_refused yX12_refused, .initialized RX12, .code yX12_refused cX12_refused 2 (some .int), .fieldLink RX12 110 "BondCalendarsModel" "trouble" "I", .fieldLink RX12 9 "BondCalendarsModel" "wrongAt" "I"] : List Cond), w ∈ wsX12_cash := List.forall_mem_cons.mpr ⟨(List.mem_cons_of_mem _ (List.mem_append_left _ (List.mem_of_getElem? (i := 9) rfl))), List.forall_mem_cons.mpr ⟨(List.mem_cons_of_mem _ (List.mem_append_left _ (List.mem_of_getElem? (i := 10) rfl))), List.forall_mem_cons.mpr ⟨(List.mem_cons_of_mem _ (List.mem_append_left _ (List.mem_of_getElem? (i := 11) rfl))), List.forall_mem_cons.mpr ⟨(List.mem_cons_of_mem _ (List.mem_append_left _ (List.mem_of_getElem? (i := 7) rfl))), List.forall_mem_cons.mpr ⟨(List.mem_cons_of_mem _ (List.mem_append_left _ (List.mem_of_getElem? (i := 12) rfl))), List.forall_mem_cons.mpr ⟨(List.mem_cons_of_mem _ (List.mem_append_left _ (List.mem_of_getElem? (i := 13) rfl))), List.forall_mem_cons.mpr ⟨(List.mem_cons_of_mem _ (List.mem_append_left _ (List.mem_of_getElem? (i := 14) rfl))), (fun _ h => absurd h List.not_mem_nil)⟩⟩⟩⟩⟩⟩⟩
set_option maxRecDepth 100000 in
theorem ggX12_cash_X12_refusedLong : GoodIn wsX12_cash wsX12_refusedLong := goodIn_sub (fun w h => (List.mem_cons.mp h).elim (fun e => e ▸ ((List.mem_cons_of_mem _ (List.mem_append_left _ (List.mem_of_getElem? (i := 8) rfl))) : Cond.code yX12_refusedLong cX12_refusedLong 4 (some .long) ∈ wsX12_cash)) (fun h => (List.mem_append.mp h).elim (fun h => ggX12_cash_X12_refusedLong_p1 w h) (fun h => (List.mem_cons_of_mem _ (List.mem_append_right _ h))))) (by decide +kernel)
set_option maxRecDepth 20000 in
theorem gX12_cash_X12_refusedLong : GoodIn wsX12_cash (wsV RX12 430 RX12 yX12_refusedLong wsX12_refusedLong) := goodIn_app (goodIn_of _ (by decide +kernel)) ggX12_cash_X12_refusedLong
set_option maxRecDepth 100000 in
theorem ggX12_cash_X12_goodLong_p1 : ∀ w ∈ ([.methodLink RX12 117 yX12_good, .instanceMethod yX12_good, .selects RX12 yX12_good yX12_good, .initialized RX12, .code yX12_good cX12_good 2 (some .int), .fieldLink RX12 110 "BondCalendarsModel" "trouble" "I", .fieldLink RX12 9 "BondCalendarsModel" "wrongAt" "I"] : List Cond), w ∈ wsX12_cash := List.forall_mem_cons.mpr ⟨(List.mem_cons_of_mem _ (List.mem_append_left _ (List.mem_of_getElem? (i := 19) rfl))), List.forall_mem_cons.mpr ⟨(List.mem_cons_of_mem _ (List.mem_append_left _ (List.mem_of_getElem? (i := 20) rfl))), List.forall_mem_cons.mpr ⟨(List.mem_cons_of_mem _ (List.mem_append_left _ (List.mem_of_getElem? (i := 21) rfl))), List.forall_mem_cons.mpr ⟨(List.mem_cons_of_mem _ (List.mem_append_left _ (List.mem_of_getElem? (i := 7) rfl))), List.forall_mem_cons.mpr ⟨(List.mem_cons_of_mem _ (List.mem_append_left _ (List.mem_of_getElem? (i := 22) rfl))), List.forall_mem_cons.mpr ⟨(List.mem_cons_of_mem _ (List.mem_append_left _ (List.mem_of_getElem? (i := 13) rfl))), List.forall_mem_cons.mpr ⟨(List.mem_cons_of_mem _ (List.mem_append_left _ (List.mem_of_getElem? (i := 14) rfl))), (fun _ h => absurd h List.not_mem_nil)⟩⟩⟩⟩⟩⟩⟩
set_option maxRecDepth 100000 in
theorem ggX12_cash_X12_goodLong : GoodIn wsX12_cash wsX12_goodLong := goodIn_sub (fun w h => (List.mem_cons.mp h).elim (fun e => e ▸ ((List.mem_cons_of_mem _ (List.mem_append_left _ (List.mem_of_getElem? (i := 18) rfl))) : Cond.code yX12_goodLong cX12_goodLong 3 (some .long) ∈ wsX12_cash)) (fun h => (List.mem_append.mp h).elim (fun h => ggX12_cash_X12_goodLong_p1 w h) (fun h => (List.mem_cons_of_mem _ (List.mem_append_right _ h))))) (by decide +kernel)
set_option maxRecDepth 20000 in
theorem gX12_cash_X12_goodLong : GoodIn wsX12_cash (wsV RX12 126 RX12 yX12_goodLong wsX12_goodLong) := goodIn_app (goodIn_of _ (by decide +kernel)) ggX12_cash_X12_goodLong
theorem dX12_cash_0 : decode cX12_cash 0 = .ok (.aload_n 0, 1) := by decide +kernel
theorem dX12_cash_1 : decode cX12_cash 1 = .ok (.iconst 0, 1) := by decide +kernel
theorem dX12_cash_2 : decode cX12_cash 2 = .ok (.putfield 107, 3) := by decide +kernel
theorem dX12_cash_5 : decode cX12_cash 5 = .ok (.aload_n 0, 1) := by decide +kernel
theorem dX12_cash_6 : decode cX12_cash 6 = .ok (.getfield 361, 3) := by decide +kernel
theorem dX12_cash_9 : decode cX12_cash 9 = .ok (.ifCond .ne 12, 3) := by decide +kernel
theorem dX12_cash_12 : decode cX12_cash 12 = .ok (.aload_n 0, 1) := by decide +kernel
theorem dX12_cash_13 : decode cX12_cash 13 = .ok (.iconst 1, 1) := by decide +kernel
theorem dX12_cash_14 : decode cX12_cash 14 = .ok (.ldc2_w 482, 3) := by decide +kernel
theorem dX12_cash_17 : decode cX12_cash 17 = .ok (.invokevirtual 430, 3) := by decide +kernel
theorem dX12_cash_20 : decode cX12_cash 20 = .ok (.lreturn, 1) := by decide +kernel
theorem dX12_cash_21 : decode cX12_cash 21 = .ok (.aload_n 0, 1) := by decide +kernel
theorem dX12_cash_22 : decode cX12_cash 22 = .ok (.aload_n 0, 1) := by decide +kernel
theorem dX12_cash_23 : decode cX12_cash 23 = .ok (.getfield 380, 3) := by decide +kernel
theorem dX12_cash_26 : decode cX12_cash 26 = .ok (.invokevirtual 126, 3) := by decide +kernel
theorem dX12_cash_29 : decode cX12_cash 29 = .ok (.lreturn, 1) := by decide +kernel
set_option maxRecDepth 100000 in
theorem ggX12_denied_X12_refused_p1 : ∀ w ∈ ([.fieldLink RX12 110 "BondCalendarsModel" "trouble" "I", .fieldLink RX12 9 "BondCalendarsModel" "wrongAt" "I"] : List Cond), w ∈ wsX12_denied := List.forall_mem_cons.mpr ⟨(List.mem_cons_of_mem _ (List.mem_append_left _ (List.mem_of_getElem? (i := 5) rfl))), List.forall_mem_cons.mpr ⟨(List.mem_cons_of_mem _ (List.mem_append_left _ (List.mem_of_getElem? (i := 6) rfl))), (fun _ h => absurd h List.not_mem_nil)⟩⟩
set_option maxRecDepth 100000 in
theorem ggX12_denied_X12_refused : GoodIn wsX12_denied wsX12_refused := goodIn_sub (fun w h => (List.mem_cons.mp h).elim (fun e => e ▸ ((List.mem_cons_of_mem _ (List.mem_append_left _ (List.mem_of_getElem? (i := 4) rfl))) : Cond.code yX12_refused cX12_refused 2 (some .int) ∈ wsX12_denied)) (fun h => (List.mem_append.mp h).elim (fun h => ggX12_denied_X12_refused_p1 w h) (fun h => (List.mem_cons_of_mem _ (List.mem_append_right _ h))))) (by decide +kernel)
set_option maxRecDepth 20000 in
theorem gX12_denied_X12_refused : GoodIn wsX12_denied (wsV RX12 113 RX12 yX12_refused wsX12_refused) := goodIn_app (goodIn_of _ (by decide +kernel)) ggX12_denied_X12_refused
theorem dX12_denied_0 : decode cX12_denied 0 = .ok (.aload_n 0, 1) := by decide +kernel
theorem dX12_denied_1 : decode cX12_denied 1 = .ok (.iconst 1, 1) := by decide +kernel
theorem dX12_denied_2 : decode cX12_denied 2 = .ok (.invokevirtual 113, 3) := by decide +kernel
theorem dX12_denied_5 : decode cX12_denied 5 = .ok (.pop, 1) := by decide +kernel
theorem dX12_denied_6 : decode cX12_denied 6 = .ok (.iconst 0, 1) := by decide +kernel
theorem dX12_denied_7 : decode cX12_denied 7 = .ok (.ireturn, 1) := by decide +kernel
theorem dX12_size_0 : decode cX12_size 0 = .ok (.aload_n 0, 1) := by decide +kernel
theorem dX12_size_1 : decode cX12_size 1 = .ok (.iconst 0, 1) := by decide +kernel
theorem dX12_size_2 : decode cX12_size 2 = .ok (.putfield 107, 3) := by decide +kernel
theorem dX12_size_5 : decode cX12_size 5 = .ok (.iload_n 1, 1) := by decide +kernel
theorem dX12_size_6 : decode cX12_size 6 = .ok (.tableswitch 67 0 4 #[34, 39, 44, 49, 54], 34) := by decide +kernel
theorem dX12_size_40 : decode cX12_size 40 = .ok (.aload_n 0, 1) := by decide +kernel
theorem dX12_size_41 : decode cX12_size 41 = .ok (.getfield 358, 3) := by decide +kernel
theorem dX12_size_44 : decode cX12_size 44 = .ok (.ireturn, 1) := by decide +kernel
theorem dX12_size_45 : decode cX12_size 45 = .ok (.aload_n 0, 1) := by decide +kernel
theorem dX12_size_46 : decode cX12_size 46 = .ok (.getfield 364, 3) := by decide +kernel
theorem dX12_size_49 : decode cX12_size 49 = .ok (.ireturn, 1) := by decide +kernel
theorem dX12_size_50 : decode cX12_size 50 = .ok (.aload_n 0, 1) := by decide +kernel
theorem dX12_size_51 : decode cX12_size 51 = .ok (.getfield 150, 3) := by decide +kernel
theorem dX12_size_54 : decode cX12_size 54 = .ok (.ireturn, 1) := by decide +kernel
theorem dX12_size_55 : decode cX12_size 55 = .ok (.aload_n 0, 1) := by decide +kernel
theorem dX12_size_56 : decode cX12_size 56 = .ok (.getfield 349, 3) := by decide +kernel
theorem dX12_size_59 : decode cX12_size 59 = .ok (.ireturn, 1) := by decide +kernel
theorem dX12_size_60 : decode cX12_size 60 = .ok (.aload_n 0, 1) := by decide +kernel
theorem dX12_size_61 : decode cX12_size 61 = .ok (.getfield 382, 3) := by decide +kernel
theorem dX12_size_64 : decode cX12_size 64 = .ok (.ifCond .eq 7, 3) := by decide +kernel
theorem dX12_size_67 : decode cX12_size 67 = .ok (.iconst 1, 1) := by decide +kernel
theorem dX12_size_68 : decode cX12_size 68 = .ok (.goto 4, 3) := by decide +kernel
theorem dX12_size_71 : decode cX12_size 71 = .ok (.iconst 0, 1) := by decide +kernel
theorem dX12_size_72 : decode cX12_size 72 = .ok (.ireturn, 1) := by decide +kernel
theorem dX12_size_73 : decode cX12_size 73 = .ok (.iconst (-1), 1) := by decide +kernel
theorem dX12_size_74 : decode cX12_size 74 = .ok (.ireturn, 1) := by decide +kernel
theorem dX12_trouble_0 : decode cX12_trouble 0 = .ok (.aload_n 0, 1) := by decide +kernel
theorem dX12_trouble_1 : decode cX12_trouble 1 = .ok (.iconst 0, 1) := by decide +kernel
theorem dX12_trouble_2 : decode cX12_trouble 2 = .ok (.putfield 107, 3) := by decide +kernel
theorem dX12_trouble_5 : decode cX12_trouble 5 = .ok (.aload_n 0, 1) := by decide +kernel
theorem dX12_trouble_6 : decode cX12_trouble 6 = .ok (.getfield 110, 3) := by decide +kernel
theorem dX12_trouble_9 : decode cX12_trouble 9 = .ok (.ireturn, 1) := by decide +kernel
