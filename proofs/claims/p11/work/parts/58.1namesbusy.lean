set_option maxRecDepth 20000 in
theorem ggX12_dateOf_X12_march : GoodIn wsX12_dateOf wsX12_march := goodIn_r _ [4] (by decide +kernel) (by decide +kernel)
set_option maxRecDepth 20000 in
theorem gX12_dateOf_X12_march : GoodIn wsX12_dateOf (va_wsS RX12 140 yX12_march wsX12_march) := goodIn_app (goodIn_of _ (by decide +kernel)) ggX12_dateOf_X12_march
theorem dX12_dateOf_0 : decode cX12_dateOf 0 = .ok (.iload_n 0, 1) := by decide +kernel
theorem dX12_dateOf_1 : decode cX12_dateOf 1 = .ok (.sipush 365, 3) := by decide +kernel
theorem dX12_dateOf_4 : decode cX12_dateOf 4 = .ok (.idiv, 1) := by decide +kernel
theorem dX12_dateOf_5 : decode cX12_dateOf 5 = .ok (.istore_n 1, 1) := by decide +kernel
theorem dX12_dateOf_6 : decode cX12_dateOf 6 = .ok (.iload_n 1, 1) := by decide +kernel
theorem dX12_dateOf_7 : decode cX12_dateOf 7 = .ok (.invokestatic 140, 3) := by decide +kernel
theorem dX12_dateOf_10 : decode cX12_dateOf 10 = .ok (.iload_n 0, 1) := by decide +kernel
theorem dX12_dateOf_11 : decode cX12_dateOf 11 = .ok (.if_icmp .le 9, 3) := by decide +kernel
theorem dX12_dateOf_14 : decode cX12_dateOf 14 = .ok (.iinc 1 (-1), 3) := by decide +kernel
theorem dX12_dateOf_17 : decode cX12_dateOf 17 = .ok (.goto (-11), 3) := by decide +kernel
theorem dX12_dateOf_20 : decode cX12_dateOf 20 = .ok (.iload_n 0, 1) := by decide +kernel
theorem dX12_dateOf_21 : decode cX12_dateOf 21 = .ok (.iload_n 1, 1) := by decide +kernel
theorem dX12_dateOf_22 : decode cX12_dateOf 22 = .ok (.invokestatic 140, 3) := by decide +kernel
theorem dX12_dateOf_25 : decode cX12_dateOf 25 = .ok (.isub, 1) := by decide +kernel
theorem dX12_dateOf_26 : decode cX12_dateOf 26 = .ok (.istore_n 2, 1) := by decide +kernel
theorem dX12_dateOf_27 : decode cX12_dateOf 27 = .ok (.iconst 5, 1) := by decide +kernel
theorem dX12_dateOf_28 : decode cX12_dateOf 28 = .ok (.iload_n 2, 1) := by decide +kernel
theorem dX12_dateOf_29 : decode cX12_dateOf 29 = .ok (.imul, 1) := by decide +kernel
theorem dX12_dateOf_30 : decode cX12_dateOf 30 = .ok (.iconst 2, 1) := by decide +kernel
theorem dX12_dateOf_31 : decode cX12_dateOf 31 = .ok (.iadd, 1) := by decide +kernel
theorem dX12_dateOf_32 : decode cX12_dateOf 32 = .ok (.sipush 153, 3) := by decide +kernel
theorem dX12_dateOf_35 : decode cX12_dateOf 35 = .ok (.idiv, 1) := by decide +kernel
theorem dX12_dateOf_36 : decode cX12_dateOf 36 = .ok (.istore_n 3, 1) := by decide +kernel
theorem dX12_dateOf_37 : decode cX12_dateOf 37 = .ok (.iload_n 2, 1) := by decide +kernel
theorem dX12_dateOf_38 : decode cX12_dateOf 38 = .ok (.sipush 153, 3) := by decide +kernel
theorem dX12_dateOf_41 : decode cX12_dateOf 41 = .ok (.iload_n 3, 1) := by decide +kernel
theorem dX12_dateOf_42 : decode cX12_dateOf 42 = .ok (.imul, 1) := by decide +kernel
theorem dX12_dateOf_43 : decode cX12_dateOf 43 = .ok (.iconst 2, 1) := by decide +kernel
theorem dX12_dateOf_44 : decode cX12_dateOf 44 = .ok (.iadd, 1) := by decide +kernel
theorem dX12_dateOf_45 : decode cX12_dateOf 45 = .ok (.iconst 5, 1) := by decide +kernel
theorem dX12_dateOf_46 : decode cX12_dateOf 46 = .ok (.idiv, 1) := by decide +kernel
theorem dX12_dateOf_47 : decode cX12_dateOf 47 = .ok (.isub, 1) := by decide +kernel
theorem dX12_dateOf_48 : decode cX12_dateOf 48 = .ok (.iconst 1, 1) := by decide +kernel
theorem dX12_dateOf_49 : decode cX12_dateOf 49 = .ok (.iadd, 1) := by decide +kernel
theorem dX12_dateOf_50 : decode cX12_dateOf 50 = .ok (.istore 4, 2) := by decide +kernel
theorem dX12_dateOf_52 : decode cX12_dateOf 52 = .ok (.iload_n 3, 1) := by decide +kernel
theorem dX12_dateOf_53 : decode cX12_dateOf 53 = .ok (.bipush 10, 2) := by decide +kernel
theorem dX12_dateOf_55 : decode cX12_dateOf 55 = .ok (.if_icmp .ge 21, 3) := by decide +kernel
theorem dX12_dateOf_58 : decode cX12_dateOf 58 = .ok (.sipush 10000, 3) := by decide +kernel
theorem dX12_dateOf_61 : decode cX12_dateOf 61 = .ok (.iload_n 1, 1) := by decide +kernel
theorem dX12_dateOf_62 : decode cX12_dateOf 62 = .ok (.imul, 1) := by decide +kernel
theorem dX12_dateOf_63 : decode cX12_dateOf 63 = .ok (.bipush 100, 2) := by decide +kernel
theorem dX12_dateOf_65 : decode cX12_dateOf 65 = .ok (.iload_n 3, 1) := by decide +kernel
theorem dX12_dateOf_66 : decode cX12_dateOf 66 = .ok (.iconst 3, 1) := by decide +kernel
theorem dX12_dateOf_67 : decode cX12_dateOf 67 = .ok (.iadd, 1) := by decide +kernel
theorem dX12_dateOf_68 : decode cX12_dateOf 68 = .ok (.imul, 1) := by decide +kernel
theorem dX12_dateOf_69 : decode cX12_dateOf 69 = .ok (.iadd, 1) := by decide +kernel
theorem dX12_dateOf_70 : decode cX12_dateOf 70 = .ok (.iload 4, 2) := by decide +kernel
theorem dX12_dateOf_72 : decode cX12_dateOf 72 = .ok (.iadd, 1) := by decide +kernel
theorem dX12_dateOf_73 : decode cX12_dateOf 73 = .ok (.goto 21, 3) := by decide +kernel
theorem dX12_dateOf_76 : decode cX12_dateOf 76 = .ok (.sipush 10000, 3) := by decide +kernel
theorem dX12_dateOf_79 : decode cX12_dateOf 79 = .ok (.iload_n 1, 1) := by decide +kernel
theorem dX12_dateOf_80 : decode cX12_dateOf 80 = .ok (.iconst 1, 1) := by decide +kernel
theorem dX12_dateOf_81 : decode cX12_dateOf 81 = .ok (.iadd, 1) := by decide +kernel
theorem dX12_dateOf_82 : decode cX12_dateOf 82 = .ok (.imul, 1) := by decide +kernel
theorem dX12_dateOf_83 : decode cX12_dateOf 83 = .ok (.bipush 100, 2) := by decide +kernel
theorem dX12_dateOf_85 : decode cX12_dateOf 85 = .ok (.iload_n 3, 1) := by decide +kernel
theorem dX12_dateOf_86 : decode cX12_dateOf 86 = .ok (.bipush 9, 2) := by decide +kernel
theorem dX12_dateOf_88 : decode cX12_dateOf 88 = .ok (.isub, 1) := by decide +kernel
theorem dX12_dateOf_89 : decode cX12_dateOf 89 = .ok (.imul, 1) := by decide +kernel
theorem dX12_dateOf_90 : decode cX12_dateOf 90 = .ok (.iadd, 1) := by decide +kernel
theorem dX12_dateOf_91 : decode cX12_dateOf 91 = .ok (.iload 4, 2) := by decide +kernel
theorem dX12_dateOf_93 : decode cX12_dateOf 93 = .ok (.iadd, 1) := by decide +kernel
theorem dX12_dateOf_94 : decode cX12_dateOf 94 = .ok (.ireturn, 1) := by decide +kernel
set_option maxRecDepth 20000 in
theorem ggX12_isBusiness_X12_weekdayOf : GoodIn wsX12_isBusiness wsX12_weekdayOf := goodIn_r _ [6, 7, 8, 9, 10, 5, 11, 12, 13, 14] (by decide +kernel) (by decide +kernel)
set_option maxRecDepth 20000 in
theorem gX12_isBusiness_X12_weekdayOf : GoodIn wsX12_isBusiness (va_wsS RX12 147 yX12_weekdayOf wsX12_weekdayOf) := goodIn_app (goodIn_of _ (by decide +kernel)) ggX12_isBusiness_X12_weekdayOf
theorem dX12_isBusiness_0 : decode cX12_isBusiness 0 = .ok (.iload_n 1, 1) := by decide +kernel
theorem dX12_isBusiness_1 : decode cX12_isBusiness 1 = .ok (.invokestatic 147, 3) := by decide +kernel
theorem dX12_isBusiness_4 : decode cX12_isBusiness 4 = .ok (.iconst 4, 1) := by decide +kernel
theorem dX12_isBusiness_5 : decode cX12_isBusiness 5 = .ok (.if_icmp .le 5, 3) := by decide +kernel
theorem dX12_isBusiness_8 : decode cX12_isBusiness 8 = .ok (.iconst 0, 1) := by decide +kernel
theorem dX12_isBusiness_9 : decode cX12_isBusiness 9 = .ok (.ireturn, 1) := by decide +kernel
theorem dX12_isBusiness_10 : decode cX12_isBusiness 10 = .ok (.iconst 0, 1) := by decide +kernel
theorem dX12_isBusiness_11 : decode cX12_isBusiness 11 = .ok (.istore_n 2, 1) := by decide +kernel
theorem dX12_isBusiness_12 : decode cX12_isBusiness 12 = .ok (.iload_n 2, 1) := by decide +kernel
theorem dX12_isBusiness_13 : decode cX12_isBusiness 13 = .ok (.aload_n 0, 1) := by decide +kernel
theorem dX12_isBusiness_14 : decode cX12_isBusiness 14 = .ok (.getfield 150, 3) := by decide +kernel
theorem dX12_isBusiness_17 : decode cX12_isBusiness 17 = .ok (.if_icmp .ge 21, 3) := by decide +kernel
theorem dX12_isBusiness_20 : decode cX12_isBusiness 20 = .ok (.aload_n 0, 1) := by decide +kernel
theorem dX12_isBusiness_21 : decode cX12_isBusiness 21 = .ok (.getfield 54, 3) := by decide +kernel
theorem dX12_isBusiness_24 : decode cX12_isBusiness 24 = .ok (.iload_n 2, 1) := by decide +kernel
theorem dX12_isBusiness_25 : decode cX12_isBusiness 25 = .ok (.iaload, 1) := by decide +kernel
theorem dX12_isBusiness_26 : decode cX12_isBusiness 26 = .ok (.iload_n 1, 1) := by decide +kernel
theorem dX12_isBusiness_27 : decode cX12_isBusiness 27 = .ok (.if_icmp .ne 5, 3) := by decide +kernel
theorem dX12_isBusiness_30 : decode cX12_isBusiness 30 = .ok (.iconst 0, 1) := by decide +kernel
theorem dX12_isBusiness_31 : decode cX12_isBusiness 31 = .ok (.ireturn, 1) := by decide +kernel
theorem dX12_isBusiness_32 : decode cX12_isBusiness 32 = .ok (.iinc 2 1, 3) := by decide +kernel
theorem dX12_isBusiness_35 : decode cX12_isBusiness 35 = .ok (.goto (-23), 3) := by decide +kernel
theorem dX12_isBusiness_38 : decode cX12_isBusiness 38 = .ok (.iconst 1, 1) := by decide +kernel
theorem dX12_isBusiness_39 : decode cX12_isBusiness 39 = .ok (.ireturn, 1) := by decide +kernel
set_option maxRecDepth 100000 in
theorem ggX12_businessAfter_X12_isBusiness_p1 : ∀ w ∈ ([.fieldLink RX12 150 "BondCalendarsModel" "freeMany" "I", .fieldLink RX12 54 "BondCalendarsModel" "free" "[I", .methodLink RX12 147 yX12_weekdayOf, .static yX12_weekdayOf, .initialized RX12, .code yX12_weekdayOf cX12_weekdayOf 1 (some .int), .constant RX12 130 (19800101), .constant RX12 146 (7000001), .methodLink RX12 143 yX12_dayOf, .static yX12_dayOf, .code yX12_dayOf cX12_dayOf 4 (some .int), .methodLink RX12 140 yX12_march, .static yX12_march, .code yX12_march cX12_march 1 (some .int)] : List Cond), w ∈ wsX12_businessAfter := List.forall_mem_cons.mpr ⟨(List.mem_cons_of_mem _ (List.mem_append_left _ (List.mem_of_getElem? (i := 5) rfl))), List.forall_mem_cons.mpr ⟨(List.mem_cons_of_mem _ (List.mem_append_left _ (List.mem_of_getElem? (i := 6) rfl))), List.forall_mem_cons.mpr ⟨(List.mem_cons_of_mem _ (List.mem_append_left _ (List.mem_of_getElem? (i := 7) rfl))), List.forall_mem_cons.mpr ⟨(List.mem_cons_of_mem _ (List.mem_append_left _ (List.mem_of_getElem? (i := 8) rfl))), List.forall_mem_cons.mpr ⟨(List.mem_cons_of_mem _ (List.mem_append_left _ (List.mem_of_getElem? (i := 3) rfl))), List.forall_mem_cons.mpr ⟨(List.mem_cons_of_mem _ (List.mem_append_left _ (List.mem_of_getElem? (i := 9) rfl))), List.forall_mem_cons.mpr ⟨(List.mem_cons_of_mem _ (List.mem_append_left _ (List.mem_of_getElem? (i := 10) rfl))), List.forall_mem_cons.mpr ⟨(List.mem_cons_of_mem _ (List.mem_append_left _ (List.mem_of_getElem? (i := 11) rfl))), List.forall_mem_cons.mpr ⟨(List.mem_cons_of_mem _ (List.mem_append_left _ (List.mem_of_getElem? (i := 12) rfl))), List.forall_mem_cons.mpr ⟨(List.mem_cons_of_mem _ (List.mem_append_left _ (List.mem_of_getElem? (i := 13) rfl))), List.forall_mem_cons.mpr ⟨(List.mem_cons_of_mem _ (List.mem_append_left _ (List.mem_of_getElem? (i := 14) rfl))), List.forall_mem_cons.mpr ⟨(List.mem_cons_of_mem _ (List.mem_append_left _ (List.mem_of_getElem? (i := 15) rfl))), List.forall_mem_cons.mpr ⟨(List.mem_cons_of_mem _ (List.mem_append_left _ (List.mem_of_getElem? (i := 16) rfl))), List.forall_mem_cons.mpr ⟨(List.mem_cons_of_mem _ (List.mem_append_left _ (List.mem_of_getElem? (i := 17) rfl))), (fun _ h => absurd h List.not_mem_nil)⟩⟩⟩⟩⟩⟩⟩⟩⟩⟩⟩⟩⟩⟩
set_option maxRecDepth 100000 in
theorem ggX12_businessAfter_X12_isBusiness : GoodIn wsX12_businessAfter wsX12_isBusiness := goodIn_sub (fun w h => (List.mem_cons.mp h).elim (fun e => e ▸ ((List.mem_cons_of_mem _ (List.mem_append_left _ (List.mem_of_getElem? (i := 4) rfl))) : Cond.code yX12_isBusiness cX12_isBusiness 3 (some .boolean) ∈ wsX12_businessAfter)) (fun h => (List.mem_append.mp h).elim (fun h => ggX12_businessAfter_X12_isBusiness_p1 w h) (fun h => (List.mem_cons_of_mem _ (List.mem_append_right _ h))))) (by decide +kernel)
set_option maxRecDepth 20000 in
theorem gX12_businessAfter_X12_isBusiness : GoodIn wsX12_businessAfter (wsV RX12 153 RX12 yX12_isBusiness wsX12_isBusiness) := goodIn_app (goodIn_of _ (by decide +kernel)) ggX12_businessAfter_X12_isBusiness
theorem dX12_businessAfter_0 : decode cX12_businessAfter 0 = .ok (.iload_n 2, 1) := by decide +kernel
theorem dX12_businessAfter_1 : decode cX12_businessAfter 1 = .ok (.ifCond .ge 7, 3) := by decide +kernel
theorem dX12_businessAfter_4 : decode cX12_businessAfter 4 = .ok (.iconst (-1), 1) := by decide +kernel
theorem dX12_businessAfter_5 : decode cX12_businessAfter 5 = .ok (.goto 4, 3) := by decide +kernel
theorem dX12_businessAfter_8 : decode cX12_businessAfter 8 = .ok (.iconst 1, 1) := by decide +kernel
theorem dX12_businessAfter_9 : decode cX12_businessAfter 9 = .ok (.istore_n 3, 1) := by decide +kernel
theorem dX12_businessAfter_10 : decode cX12_businessAfter 10 = .ok (.iload_n 2, 1) := by decide +kernel
theorem dX12_businessAfter_11 : decode cX12_businessAfter 11 = .ok (.ifCond .ge 8, 3) := by decide +kernel
theorem dX12_businessAfter_14 : decode cX12_businessAfter 14 = .ok (.iload_n 2, 1) := by decide +kernel
theorem dX12_businessAfter_15 : decode cX12_businessAfter 15 = .ok (.ineg, 1) := by decide +kernel
theorem dX12_businessAfter_16 : decode cX12_businessAfter 16 = .ok (.goto 4, 3) := by decide +kernel
theorem dX12_businessAfter_19 : decode cX12_businessAfter 19 = .ok (.iload_n 2, 1) := by decide +kernel
theorem dX12_businessAfter_20 : decode cX12_businessAfter 20 = .ok (.istore 4, 2) := by decide +kernel
theorem dX12_businessAfter_22 : decode cX12_businessAfter 22 = .ok (.iload_n 1, 1) := by decide +kernel
theorem dX12_businessAfter_23 : decode cX12_businessAfter 23 = .ok (.istore 5, 2) := by decide +kernel
theorem dX12_businessAfter_25 : decode cX12_businessAfter 25 = .ok (.iload 4, 2) := by decide +kernel
theorem dX12_businessAfter_27 : decode cX12_businessAfter 27 = .ok (.ifCond .le 31, 3) := by decide +kernel
theorem dX12_businessAfter_30 : decode cX12_businessAfter 30 = .ok (.iload 5, 2) := by decide +kernel
theorem dX12_businessAfter_32 : decode cX12_businessAfter 32 = .ok (.iload_n 3, 1) := by decide +kernel
theorem dX12_businessAfter_33 : decode cX12_businessAfter 33 = .ok (.iadd, 1) := by decide +kernel
theorem dX12_businessAfter_34 : decode cX12_businessAfter 34 = .ok (.istore 5, 2) := by decide +kernel
theorem dX12_businessAfter_36 : decode cX12_businessAfter 36 = .ok (.iload 4, 2) := by decide +kernel
theorem dX12_businessAfter_38 : decode cX12_businessAfter 38 = .ok (.aload_n 0, 1) := by decide +kernel
theorem dX12_businessAfter_39 : decode cX12_businessAfter 39 = .ok (.iload 5, 2) := by decide +kernel
theorem dX12_businessAfter_41 : decode cX12_businessAfter 41 = .ok (.invokevirtual 153, 3) := by decide +kernel
theorem dX12_businessAfter_44 : decode cX12_businessAfter 44 = .ok (.ifCond .eq 7, 3) := by decide +kernel
theorem dX12_businessAfter_47 : decode cX12_businessAfter 47 = .ok (.iconst 1, 1) := by decide +kernel
theorem dX12_businessAfter_48 : decode cX12_businessAfter 48 = .ok (.goto 4, 3) := by decide +kernel
theorem dX12_businessAfter_51 : decode cX12_businessAfter 51 = .ok (.iconst 0, 1) := by decide +kernel
theorem dX12_businessAfter_52 : decode cX12_businessAfter 52 = .ok (.isub, 1) := by decide +kernel
theorem dX12_businessAfter_53 : decode cX12_businessAfter 53 = .ok (.istore 4, 2) := by decide +kernel
theorem dX12_businessAfter_55 : decode cX12_businessAfter 55 = .ok (.goto (-30), 3) := by decide +kernel
theorem dX12_businessAfter_58 : decode cX12_businessAfter 58 = .ok (.iload 5, 2) := by decide +kernel
theorem dX12_businessAfter_60 : decode cX12_businessAfter 60 = .ok (.ireturn, 1) := by decide +kernel
set_option maxRecDepth 20000 in
theorem ggX12_business_X12_isDate : GoodIn wsX12_business wsX12_isDate := goodIn_r _ [5, 6, 7, 8, 9, 4, 10, 11, 12, 13] (by decide +kernel) (by decide +kernel)
set_option maxRecDepth 20000 in
theorem gX12_business_X12_isDate : GoodIn wsX12_business (va_wsS RX12 246 yX12_isDate wsX12_isDate) := goodIn_app (goodIn_of _ (by decide +kernel)) ggX12_business_X12_isDate
set_option maxRecDepth 100000 in
theorem ggX12_business_X12_refused_p1 : ∀ w ∈ ([.fieldLink RX12 110 "BondCalendarsModel" "trouble" "I", .fieldLink RX12 9 "BondCalendarsModel" "wrongAt" "I"] : List Cond), w ∈ wsX12_business := List.forall_mem_cons.mpr ⟨(List.mem_cons_of_mem _ (List.mem_append_left _ (List.mem_append_left _ (List.mem_of_getElem? (l := wsX12_business_r1) (i := 17) rfl)))), List.forall_mem_cons.mpr ⟨(List.mem_cons_of_mem _ (List.mem_append_left _ (List.mem_append_left _ (List.mem_of_getElem? (l := wsX12_business_r1) (i := 18) rfl)))), (fun _ h => absurd h List.not_mem_nil)⟩⟩
set_option maxRecDepth 100000 in
theorem ggX12_business_X12_refused : GoodIn wsX12_business wsX12_refused := goodIn_sub (fun w h => (List.mem_cons.mp h).elim (fun e => e ▸ ((List.mem_cons_of_mem _ (List.mem_append_left _ (List.mem_append_left _ (List.mem_of_getElem? (l := wsX12_business_r1) (i := 16) rfl)))) : Cond.code yX12_refused cX12_refused 2 (some .int) ∈ wsX12_business)) (fun h => (List.mem_append.mp h).elim (fun h => ggX12_business_X12_refused_p1 w h) (fun h => (List.mem_cons_of_mem _ (List.mem_append_right _ h))))) (by decide +kernel)
set_option maxRecDepth 20000 in
theorem gX12_business_X12_refused : GoodIn wsX12_business (wsV RX12 113 RX12 yX12_refused wsX12_refused) := goodIn_app (goodIn_of _ (by decide +kernel)) ggX12_business_X12_refused
set_option maxRecDepth 20000 in
theorem ggX12_business_X12_dayOf : GoodIn wsX12_business wsX12_dayOf := goodIn_r _ [22, 23, 24, 4, 25] (by decide +kernel) (by decide +kernel)
set_option maxRecDepth 20000 in
theorem gX12_business_X12_dayOf : GoodIn wsX12_business (va_wsS RX12 143 yX12_dayOf wsX12_dayOf) := goodIn_app (goodIn_of _ (by decide +kernel)) ggX12_business_X12_dayOf
set_option maxRecDepth 100000 in
theorem ggX12_business_X12_isBusiness_p1 : ∀ w ∈ ([.fieldLink RX12 150 "BondCalendarsModel" "freeMany" "I", .fieldLink RX12 54 "BondCalendarsModel" "free" "[I", .methodLink RX12 147 yX12_weekdayOf, .static yX12_weekdayOf, .initialized RX12, .code yX12_weekdayOf cX12_weekdayOf 1 (some .int), .constant RX12 130 (19800101), .constant RX12 146 (7000001), .methodLink RX12 143 yX12_dayOf, .static yX12_dayOf, .code yX12_dayOf cX12_dayOf 4 (some .int), .methodLink RX12 140 yX12_march, .static yX12_march, .code yX12_march cX12_march 1 (some .int)] : List Cond), w ∈ wsX12_business := List.forall_mem_cons.mpr ⟨(List.mem_cons_of_mem _ (List.mem_append_left _ (List.mem_append_right _ (List.mem_of_getElem? (l := wsX12_business_r2) (i := 5) rfl)))), List.forall_mem_cons.mpr ⟨(List.mem_cons_of_mem _ (List.mem_append_left _ (List.mem_append_right _ (List.mem_of_getElem? (l := wsX12_business_r2) (i := 6) rfl)))), List.forall_mem_cons.mpr ⟨(List.mem_cons_of_mem _ (List.mem_append_left _ (List.mem_append_right _ (List.mem_of_getElem? (l := wsX12_business_r2) (i := 7) rfl)))), List.forall_mem_cons.mpr ⟨(List.mem_cons_of_mem _ (List.mem_append_left _ (List.mem_append_right _ (List.mem_of_getElem? (l := wsX12_business_r2) (i := 8) rfl)))), List.forall_mem_cons.mpr ⟨(List.mem_cons_of_mem _ (List.mem_append_left _ (List.mem_append_left _ (List.mem_of_getElem? (l := wsX12_business_r1) (i := 3) rfl)))), List.forall_mem_cons.mpr ⟨(List.mem_cons_of_mem _ (List.mem_append_left _ (List.mem_append_right _ (List.mem_of_getElem? (l := wsX12_business_r2) (i := 9) rfl)))), List.forall_mem_cons.mpr ⟨(List.mem_cons_of_mem _ (List.mem_append_left _ (List.mem_append_left _ (List.mem_of_getElem? (l := wsX12_business_r1) (i := 5) rfl)))), List.forall_mem_cons.mpr ⟨(List.mem_cons_of_mem _ (List.mem_append_left _ (List.mem_append_right _ (List.mem_of_getElem? (l := wsX12_business_r2) (i := 10) rfl)))), List.forall_mem_cons.mpr ⟨(List.mem_cons_of_mem _ (List.mem_append_left _ (List.mem_append_left _ (List.mem_of_getElem? (l := wsX12_business_r1) (i := 19) rfl)))), List.forall_mem_cons.mpr ⟨(List.mem_cons_of_mem _ (List.mem_append_left _ (List.mem_append_left _ (List.mem_of_getElem? (l := wsX12_business_r1) (i := 20) rfl)))), List.forall_mem_cons.mpr ⟨(List.mem_cons_of_mem _ (List.mem_append_left _ (List.mem_append_left _ (List.mem_of_getElem? (l := wsX12_business_r1) (i := 21) rfl)))), List.forall_mem_cons.mpr ⟨(List.mem_cons_of_mem _ (List.mem_append_left _ (List.mem_append_left _ (List.mem_of_getElem? (l := wsX12_business_r1) (i := 22) rfl)))), List.forall_mem_cons.mpr ⟨(List.mem_cons_of_mem _ (List.mem_append_left _ (List.mem_append_left _ (List.mem_of_getElem? (l := wsX12_business_r1) (i := 23) rfl)))), List.forall_mem_cons.mpr ⟨(List.mem_cons_of_mem _ (List.mem_append_left _ (List.mem_append_right _ (List.mem_of_getElem? (l := wsX12_business_r2) (i := 0) rfl)))), (fun _ h => absurd h List.not_mem_nil)⟩⟩⟩⟩⟩⟩⟩⟩⟩⟩⟩⟩⟩⟩
set_option maxRecDepth 100000 in
theorem ggX12_business_X12_isBusiness : GoodIn wsX12_business wsX12_isBusiness := goodIn_sub (fun w h => (List.mem_cons.mp h).elim (fun e => e ▸ ((List.mem_cons_of_mem _ (List.mem_append_left _ (List.mem_append_right _ (List.mem_of_getElem? (l := wsX12_business_r2) (i := 4) rfl)))) : Cond.code yX12_isBusiness cX12_isBusiness 3 (some .boolean) ∈ wsX12_business)) (fun h => (List.mem_append.mp h).elim (fun h => ggX12_business_X12_isBusiness_p1 w h) (fun h => (List.mem_cons_of_mem _ (List.mem_append_right _ h))))) (by decide +kernel)
set_option maxRecDepth 20000 in
theorem gX12_business_X12_isBusiness : GoodIn wsX12_business (wsV RX12 153 RX12 yX12_isBusiness wsX12_isBusiness) := goodIn_app (goodIn_of _ (by decide +kernel)) ggX12_business_X12_isBusiness
set_option maxRecDepth 100000 in
theorem ggX12_business_X12_good_p1 : ∀ w ∈ ([.fieldLink RX12 110 "BondCalendarsModel" "trouble" "I", .fieldLink RX12 9 "BondCalendarsModel" "wrongAt" "I"] : List Cond), w ∈ wsX12_business := List.forall_mem_cons.mpr ⟨(List.mem_cons_of_mem _ (List.mem_append_left _ (List.mem_append_left _ (List.mem_of_getElem? (l := wsX12_business_r1) (i := 17) rfl)))), List.forall_mem_cons.mpr ⟨(List.mem_cons_of_mem _ (List.mem_append_left _ (List.mem_append_left _ (List.mem_of_getElem? (l := wsX12_business_r1) (i := 18) rfl)))), (fun _ h => absurd h List.not_mem_nil)⟩⟩
set_option maxRecDepth 100000 in
theorem ggX12_business_X12_good : GoodIn wsX12_business wsX12_good := goodIn_sub (fun w h => (List.mem_cons.mp h).elim (fun e => e ▸ ((List.mem_cons_of_mem _ (List.mem_append_left _ (List.mem_append_right _ (List.mem_of_getElem? (l := wsX12_business_r2) (i := 14) rfl)))) : Cond.code yX12_good cX12_good 2 (some .int) ∈ wsX12_business)) (fun h => (List.mem_append.mp h).elim (fun h => ggX12_business_X12_good_p1 w h) (fun h => (List.mem_cons_of_mem _ (List.mem_append_right _ h))))) (by decide +kernel)
set_option maxRecDepth 20000 in
theorem gX12_business_X12_good : GoodIn wsX12_business (wsV RX12 117 RX12 yX12_good wsX12_good) := goodIn_app (goodIn_of _ (by decide +kernel)) ggX12_business_X12_good
theorem dX12_business_0 : decode cX12_business 0 = .ok (.aload_n 0, 1) := by decide +kernel
theorem dX12_business_1 : decode cX12_business 1 = .ok (.iconst 0, 1) := by decide +kernel
theorem dX12_business_2 : decode cX12_business 2 = .ok (.putfield 107, 3) := by decide +kernel
theorem dX12_business_5 : decode cX12_business 5 = .ok (.iload_n 1, 1) := by decide +kernel
theorem dX12_business_6 : decode cX12_business 6 = .ok (.invokestatic 246, 3) := by decide +kernel
theorem dX12_business_9 : decode cX12_business 9 = .ok (.ifCond .ne 9, 3) := by decide +kernel
theorem dX12_business_12 : decode cX12_business 12 = .ok (.aload_n 0, 1) := by decide +kernel
theorem dX12_business_13 : decode cX12_business 13 = .ok (.iconst 2, 1) := by decide +kernel
theorem dX12_business_14 : decode cX12_business 14 = .ok (.invokevirtual 113, 3) := by decide +kernel
theorem dX12_business_17 : decode cX12_business 17 = .ok (.ireturn, 1) := by decide +kernel
theorem dX12_business_18 : decode cX12_business 18 = .ok (.aload_n 0, 1) := by decide +kernel
theorem dX12_business_19 : decode cX12_business 19 = .ok (.aload_n 0, 1) := by decide +kernel
theorem dX12_business_20 : decode cX12_business 20 = .ok (.iload_n 1, 1) := by decide +kernel
theorem dX12_business_21 : decode cX12_business 21 = .ok (.invokestatic 143, 3) := by decide +kernel
theorem dX12_business_24 : decode cX12_business 24 = .ok (.invokevirtual 153, 3) := by decide +kernel
theorem dX12_business_27 : decode cX12_business 27 = .ok (.ifCond .eq 7, 3) := by decide +kernel
theorem dX12_business_30 : decode cX12_business 30 = .ok (.iconst 1, 1) := by decide +kernel
theorem dX12_business_31 : decode cX12_business 31 = .ok (.goto 4, 3) := by decide +kernel
theorem dX12_business_34 : decode cX12_business 34 = .ok (.iconst 0, 1) := by decide +kernel
theorem dX12_business_35 : decode cX12_business 35 = .ok (.invokevirtual 117, 3) := by decide +kernel
theorem dX12_business_38 : decode cX12_business 38 = .ok (.ireturn, 1) := by decide +kernel
