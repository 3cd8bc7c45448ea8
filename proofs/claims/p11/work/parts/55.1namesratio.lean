set_option maxRecDepth 20000 in
theorem ggX12_sets_X12_common : GoodIn wsX12_sets wsX12_common := goodIn_r _ [6] (by decide +kernel) (by decide +kernel)
set_option maxRecDepth 20000 in
theorem gX12_sets_X12_common : GoodIn wsX12_sets (va_wsS RX12 157 yX12_common wsX12_common) := goodIn_app (goodIn_of _ (by decide +kernel)) ggX12_sets_X12_common
theorem dX12_sets_0 : decode cX12_sets 0 = .ok (.lload_n 1, 1) := by decide +kernel
theorem dX12_sets_1 : decode cX12_sets 1 = .ok (.lload_n 3, 1) := by decide +kernel
theorem dX12_sets_2 : decode cX12_sets 2 = .ok (.invokestatic 157, 3) := by decide +kernel
theorem dX12_sets_5 : decode cX12_sets 5 = .ok (.lstore 5, 2) := by decide +kernel
theorem dX12_sets_7 : decode cX12_sets 7 = .ok (.aload_n 0, 1) := by decide +kernel
theorem dX12_sets_8 : decode cX12_sets 8 = .ok (.lload_n 1, 1) := by decide +kernel
theorem dX12_sets_9 : decode cX12_sets 9 = .ok (.lload 5, 2) := by decide +kernel
theorem dX12_sets_11 : decode cX12_sets 11 = .ok (.ldiv, 1) := by decide +kernel
theorem dX12_sets_12 : decode cX12_sets 12 = .ok (.putfield 161, 3) := by decide +kernel
theorem dX12_sets_15 : decode cX12_sets 15 = .ok (.aload_n 0, 1) := by decide +kernel
theorem dX12_sets_16 : decode cX12_sets 16 = .ok (.lload_n 3, 1) := by decide +kernel
theorem dX12_sets_17 : decode cX12_sets 17 = .ok (.lload 5, 2) := by decide +kernel
theorem dX12_sets_19 : decode cX12_sets 19 = .ok (.ldiv, 1) := by decide +kernel
theorem dX12_sets_20 : decode cX12_sets 20 = .ok (.putfield 165, 3) := by decide +kernel
theorem dX12_sets_23 : decode cX12_sets 23 = .ok (.return_, 1) := by decide +kernel
set_option maxRecDepth 20000 in
theorem ggX12_adds_X12_common : GoodIn wsX12_adds wsX12_common := goodIn_r _ [6] (by decide +kernel) (by decide +kernel)
set_option maxRecDepth 20000 in
theorem gX12_adds_X12_common : GoodIn wsX12_adds (va_wsS RX12 157 yX12_common wsX12_common) := goodIn_app (goodIn_of _ (by decide +kernel)) ggX12_adds_X12_common
set_option maxRecDepth 100000 in
theorem ggX12_adds_X12_sets_p1 : ∀ w ∈ ([.fieldLink RX12 161 "BondCalendarsModel" "up" "J", .fieldLink RX12 165 "BondCalendarsModel" "lo" "J", .methodLink RX12 157 yX12_common, .static yX12_common, .initialized RX12, .code yX12_common cX12_common 10 (some .long)] : List Cond), w ∈ wsX12_adds := List.forall_mem_cons.mpr ⟨(List.mem_cons_of_mem _ (List.mem_append_left _ (List.mem_of_getElem? (i := 1) rfl))), List.forall_mem_cons.mpr ⟨(List.mem_cons_of_mem _ (List.mem_append_left _ (List.mem_of_getElem? (i := 0) rfl))), List.forall_mem_cons.mpr ⟨(List.mem_cons_of_mem _ (List.mem_append_left _ (List.mem_of_getElem? (i := 2) rfl))), List.forall_mem_cons.mpr ⟨(List.mem_cons_of_mem _ (List.mem_append_left _ (List.mem_of_getElem? (i := 3) rfl))), List.forall_mem_cons.mpr ⟨(List.mem_cons_of_mem _ (List.mem_append_left _ (List.mem_of_getElem? (i := 4) rfl))), List.forall_mem_cons.mpr ⟨(List.mem_cons_of_mem _ (List.mem_append_left _ (List.mem_of_getElem? (i := 5) rfl))), (fun _ h => absurd h List.not_mem_nil)⟩⟩⟩⟩⟩⟩
set_option maxRecDepth 100000 in
theorem ggX12_adds_X12_sets : GoodIn wsX12_adds wsX12_sets := goodIn_sub (fun w h => (List.mem_cons.mp h).elim (fun e => e ▸ ((List.mem_cons_of_mem _ (List.mem_append_left _ (List.mem_of_getElem? (i := 9) rfl))) : Cond.code yX12_sets cX12_sets 7 none ∈ wsX12_adds)) (fun h => (List.mem_append.mp h).elim (fun h => ggX12_adds_X12_sets_p1 w h) (fun h => (List.mem_cons_of_mem _ (List.mem_append_right _ h))))) (by decide +kernel)
set_option maxRecDepth 20000 in
theorem gX12_adds_X12_sets : GoodIn wsX12_adds (wsV RX12 168 RX12 yX12_sets wsX12_sets) := goodIn_app (goodIn_of _ (by decide +kernel)) ggX12_adds_X12_sets
theorem dX12_adds_0 : decode cX12_adds 0 = .ok (.aload_n 0, 1) := by decide +kernel
theorem dX12_adds_1 : decode cX12_adds 1 = .ok (.getfield 165, 3) := by decide +kernel
theorem dX12_adds_4 : decode cX12_adds 4 = .ok (.aload_n 0, 1) := by decide +kernel
theorem dX12_adds_5 : decode cX12_adds 5 = .ok (.getfield 165, 3) := by decide +kernel
theorem dX12_adds_8 : decode cX12_adds 8 = .ok (.lload_n 3, 1) := by decide +kernel
theorem dX12_adds_9 : decode cX12_adds 9 = .ok (.invokestatic 157, 3) := by decide +kernel
theorem dX12_adds_12 : decode cX12_adds 12 = .ok (.ldiv, 1) := by decide +kernel
theorem dX12_adds_13 : decode cX12_adds 13 = .ok (.lload_n 3, 1) := by decide +kernel
theorem dX12_adds_14 : decode cX12_adds 14 = .ok (.lmul, 1) := by decide +kernel
theorem dX12_adds_15 : decode cX12_adds 15 = .ok (.lstore 5, 2) := by decide +kernel
theorem dX12_adds_17 : decode cX12_adds 17 = .ok (.aload_n 0, 1) := by decide +kernel
theorem dX12_adds_18 : decode cX12_adds 18 = .ok (.aload_n 0, 1) := by decide +kernel
theorem dX12_adds_19 : decode cX12_adds 19 = .ok (.getfield 161, 3) := by decide +kernel
theorem dX12_adds_22 : decode cX12_adds 22 = .ok (.lload 5, 2) := by decide +kernel
theorem dX12_adds_24 : decode cX12_adds 24 = .ok (.aload_n 0, 1) := by decide +kernel
theorem dX12_adds_25 : decode cX12_adds 25 = .ok (.getfield 165, 3) := by decide +kernel
theorem dX12_adds_28 : decode cX12_adds 28 = .ok (.ldiv, 1) := by decide +kernel
theorem dX12_adds_29 : decode cX12_adds 29 = .ok (.lmul, 1) := by decide +kernel
theorem dX12_adds_30 : decode cX12_adds 30 = .ok (.lload_n 1, 1) := by decide +kernel
theorem dX12_adds_31 : decode cX12_adds 31 = .ok (.lload 5, 2) := by decide +kernel
theorem dX12_adds_33 : decode cX12_adds 33 = .ok (.lload_n 3, 1) := by decide +kernel
theorem dX12_adds_34 : decode cX12_adds 34 = .ok (.ldiv, 1) := by decide +kernel
theorem dX12_adds_35 : decode cX12_adds 35 = .ok (.lmul, 1) := by decide +kernel
theorem dX12_adds_36 : decode cX12_adds 36 = .ok (.ladd, 1) := by decide +kernel
theorem dX12_adds_37 : decode cX12_adds 37 = .ok (.lload 5, 2) := by decide +kernel
theorem dX12_adds_39 : decode cX12_adds 39 = .ok (.invokevirtual 168, 3) := by decide +kernel
theorem dX12_adds_42 : decode cX12_adds 42 = .ok (.return_, 1) := by decide +kernel
set_option maxRecDepth 20000 in
theorem ggX12_times_X12_common : GoodIn wsX12_times wsX12_common := goodIn_r _ [6] (by decide +kernel) (by decide +kernel)
set_option maxRecDepth 20000 in
theorem gX12_times_X12_common : GoodIn wsX12_times (va_wsS RX12 157 yX12_common wsX12_common) := goodIn_app (goodIn_of _ (by decide +kernel)) ggX12_times_X12_common
set_option maxRecDepth 100000 in
theorem ggX12_times_X12_sets_p1 : ∀ w ∈ ([.fieldLink RX12 161 "BondCalendarsModel" "up" "J", .fieldLink RX12 165 "BondCalendarsModel" "lo" "J", .methodLink RX12 157 yX12_common, .static yX12_common, .initialized RX12, .code yX12_common cX12_common 10 (some .long)] : List Cond), w ∈ wsX12_times := List.forall_mem_cons.mpr ⟨(List.mem_cons_of_mem _ (List.mem_append_left _ (List.mem_of_getElem? (i := 0) rfl))), List.forall_mem_cons.mpr ⟨(List.mem_cons_of_mem _ (List.mem_append_left _ (List.mem_of_getElem? (i := 1) rfl))), List.forall_mem_cons.mpr ⟨(List.mem_cons_of_mem _ (List.mem_append_left _ (List.mem_of_getElem? (i := 2) rfl))), List.forall_mem_cons.mpr ⟨(List.mem_cons_of_mem _ (List.mem_append_left _ (List.mem_of_getElem? (i := 3) rfl))), List.forall_mem_cons.mpr ⟨(List.mem_cons_of_mem _ (List.mem_append_left _ (List.mem_of_getElem? (i := 4) rfl))), List.forall_mem_cons.mpr ⟨(List.mem_cons_of_mem _ (List.mem_append_left _ (List.mem_of_getElem? (i := 5) rfl))), (fun _ h => absurd h List.not_mem_nil)⟩⟩⟩⟩⟩⟩
set_option maxRecDepth 100000 in
theorem ggX12_times_X12_sets : GoodIn wsX12_times wsX12_sets := goodIn_sub (fun w h => (List.mem_cons.mp h).elim (fun e => e ▸ ((List.mem_cons_of_mem _ (List.mem_append_left _ (List.mem_of_getElem? (i := 9) rfl))) : Cond.code yX12_sets cX12_sets 7 none ∈ wsX12_times)) (fun h => (List.mem_append.mp h).elim (fun h => ggX12_times_X12_sets_p1 w h) (fun h => (List.mem_cons_of_mem _ (List.mem_append_right _ h))))) (by decide +kernel)
set_option maxRecDepth 20000 in
theorem gX12_times_X12_sets : GoodIn wsX12_times (wsV RX12 168 RX12 yX12_sets wsX12_sets) := goodIn_app (goodIn_of _ (by decide +kernel)) ggX12_times_X12_sets
theorem dX12_times_0 : decode cX12_times 0 = .ok (.aload_n 0, 1) := by decide +kernel
theorem dX12_times_1 : decode cX12_times 1 = .ok (.getfield 161, 3) := by decide +kernel
theorem dX12_times_4 : decode cX12_times 4 = .ok (.lload_n 3, 1) := by decide +kernel
theorem dX12_times_5 : decode cX12_times 5 = .ok (.invokestatic 157, 3) := by decide +kernel
theorem dX12_times_8 : decode cX12_times 8 = .ok (.lstore 5, 2) := by decide +kernel
theorem dX12_times_10 : decode cX12_times 10 = .ok (.lload_n 1, 1) := by decide +kernel
theorem dX12_times_11 : decode cX12_times 11 = .ok (.aload_n 0, 1) := by decide +kernel
theorem dX12_times_12 : decode cX12_times 12 = .ok (.getfield 165, 3) := by decide +kernel
theorem dX12_times_15 : decode cX12_times 15 = .ok (.invokestatic 157, 3) := by decide +kernel
theorem dX12_times_18 : decode cX12_times 18 = .ok (.lstore 7, 2) := by decide +kernel
theorem dX12_times_20 : decode cX12_times 20 = .ok (.lload 7, 2) := by decide +kernel
theorem dX12_times_22 : decode cX12_times 22 = .ok (.lconst 0, 1) := by decide +kernel
theorem dX12_times_23 : decode cX12_times 23 = .ok (.lcmp, 1) := by decide +kernel
theorem dX12_times_24 : decode cX12_times 24 = .ok (.ifCond .ne 6, 3) := by decide +kernel
theorem dX12_times_30 : decode cX12_times 30 = .ok (.aload_n 0, 1) := by decide +kernel
theorem dX12_times_31 : decode cX12_times 31 = .ok (.aload_n 0, 1) := by decide +kernel
theorem dX12_times_32 : decode cX12_times 32 = .ok (.getfield 161, 3) := by decide +kernel
theorem dX12_times_35 : decode cX12_times 35 = .ok (.lload 5, 2) := by decide +kernel
theorem dX12_times_37 : decode cX12_times 37 = .ok (.ldiv, 1) := by decide +kernel
theorem dX12_times_38 : decode cX12_times 38 = .ok (.lload_n 1, 1) := by decide +kernel
theorem dX12_times_39 : decode cX12_times 39 = .ok (.lload 7, 2) := by decide +kernel
theorem dX12_times_41 : decode cX12_times 41 = .ok (.ldiv, 1) := by decide +kernel
theorem dX12_times_42 : decode cX12_times 42 = .ok (.lmul, 1) := by decide +kernel
theorem dX12_times_43 : decode cX12_times 43 = .ok (.aload_n 0, 1) := by decide +kernel
theorem dX12_times_44 : decode cX12_times 44 = .ok (.getfield 165, 3) := by decide +kernel
theorem dX12_times_47 : decode cX12_times 47 = .ok (.lload 7, 2) := by decide +kernel
theorem dX12_times_49 : decode cX12_times 49 = .ok (.ldiv, 1) := by decide +kernel
theorem dX12_times_50 : decode cX12_times 50 = .ok (.lload_n 3, 1) := by decide +kernel
theorem dX12_times_51 : decode cX12_times 51 = .ok (.lload 5, 2) := by decide +kernel
theorem dX12_times_53 : decode cX12_times 53 = .ok (.ldiv, 1) := by decide +kernel
theorem dX12_times_54 : decode cX12_times 54 = .ok (.lmul, 1) := by decide +kernel
theorem dX12_times_55 : decode cX12_times 55 = .ok (.invokevirtual 168, 3) := by decide +kernel
theorem dX12_times_58 : decode cX12_times 58 = .ok (.return_, 1) := by decide +kernel
set_option maxRecDepth 20000 in
theorem ggX12_countsPlain_X12_dayOf : GoodIn wsX12_countsPlain wsX12_dayOf := goodIn_r _ [6, 7, 8, 5, 9] (by decide +kernel) (by decide +kernel)
set_option maxRecDepth 20000 in
theorem gX12_countsPlain_X12_dayOf : GoodIn wsX12_countsPlain (va_wsS RX12 143 yX12_dayOf wsX12_dayOf) := goodIn_app (goodIn_of _ (by decide +kernel)) ggX12_countsPlain_X12_dayOf
set_option maxRecDepth 100000 in
theorem ggX12_countsPlain_X12_sets_p1 : ∀ w ∈ ([.fieldLink RX12 161 "BondCalendarsModel" "up" "J", .fieldLink RX12 165 "BondCalendarsModel" "lo" "J", .methodLink RX12 157 yX12_common, .static yX12_common, .initialized RX12, .code yX12_common cX12_common 10 (some .long)] : List Cond), w ∈ wsX12_countsPlain := List.forall_mem_cons.mpr ⟨(List.mem_cons_of_mem _ (List.mem_append_left _ (List.mem_of_getElem? (i := 13) rfl))), List.forall_mem_cons.mpr ⟨(List.mem_cons_of_mem _ (List.mem_append_left _ (List.mem_of_getElem? (i := 14) rfl))), List.forall_mem_cons.mpr ⟨(List.mem_cons_of_mem _ (List.mem_append_left _ (List.mem_of_getElem? (i := 15) rfl))), List.forall_mem_cons.mpr ⟨(List.mem_cons_of_mem _ (List.mem_append_left _ (List.mem_of_getElem? (i := 16) rfl))), List.forall_mem_cons.mpr ⟨(List.mem_cons_of_mem _ (List.mem_append_left _ (List.mem_of_getElem? (i := 4) rfl))), List.forall_mem_cons.mpr ⟨(List.mem_cons_of_mem _ (List.mem_append_left _ (List.mem_of_getElem? (i := 17) rfl))), (fun _ h => absurd h List.not_mem_nil)⟩⟩⟩⟩⟩⟩
set_option maxRecDepth 100000 in
theorem ggX12_countsPlain_X12_sets : GoodIn wsX12_countsPlain wsX12_sets := goodIn_sub (fun w h => (List.mem_cons.mp h).elim (fun e => e ▸ ((List.mem_cons_of_mem _ (List.mem_append_left _ (List.mem_of_getElem? (i := 12) rfl))) : Cond.code yX12_sets cX12_sets 7 none ∈ wsX12_countsPlain)) (fun h => (List.mem_append.mp h).elim (fun h => ggX12_countsPlain_X12_sets_p1 w h) (fun h => (List.mem_cons_of_mem _ (List.mem_append_right _ h))))) (by decide +kernel)
set_option maxRecDepth 20000 in
theorem gX12_countsPlain_X12_sets : GoodIn wsX12_countsPlain (wsV RX12 168 RX12 yX12_sets wsX12_sets) := goodIn_app (goodIn_of _ (by decide +kernel)) ggX12_countsPlain_X12_sets
set_option maxRecDepth 20000 in
theorem ggX12_countsPlain_X12_thirties : GoodIn wsX12_countsPlain wsX12_thirties := goodIn_r _ [21] (by decide +kernel) (by decide +kernel)
set_option maxRecDepth 20000 in
theorem gX12_countsPlain_X12_thirties : GoodIn wsX12_countsPlain (va_wsS RX12 176 yX12_thirties wsX12_thirties) := goodIn_app (goodIn_of _ (by decide +kernel)) ggX12_countsPlain_X12_thirties
theorem dX12_countsPlain_0 : decode cX12_countsPlain 0 = .ok (.iload_n 3, 1) := by decide +kernel
theorem dX12_countsPlain_1 : decode cX12_countsPlain 1 = .ok (.invokestatic 143, 3) := by decide +kernel
theorem dX12_countsPlain_4 : decode cX12_countsPlain 4 = .ok (.iload_n 2, 1) := by decide +kernel
theorem dX12_countsPlain_5 : decode cX12_countsPlain 5 = .ok (.invokestatic 143, 3) := by decide +kernel
theorem dX12_countsPlain_8 : decode cX12_countsPlain 8 = .ok (.isub, 1) := by decide +kernel
theorem dX12_countsPlain_9 : decode cX12_countsPlain 9 = .ok (.istore 4, 2) := by decide +kernel
theorem dX12_countsPlain_11 : decode cX12_countsPlain 11 = .ok (.iload_n 1, 1) := by decide +kernel
theorem dX12_countsPlain_12 : decode cX12_countsPlain 12 = .ok (.iconst 2, 1) := by decide +kernel
theorem dX12_countsPlain_13 : decode cX12_countsPlain 13 = .ok (.if_icmp .ne 16, 3) := by decide +kernel
theorem dX12_countsPlain_16 : decode cX12_countsPlain 16 = .ok (.aload_n 0, 1) := by decide +kernel
theorem dX12_countsPlain_17 : decode cX12_countsPlain 17 = .ok (.iload 4, 2) := by decide +kernel
theorem dX12_countsPlain_19 : decode cX12_countsPlain 19 = .ok (.i2l, 1) := by decide +kernel
theorem dX12_countsPlain_20 : decode cX12_countsPlain 20 = .ok (.ldc2_w 172, 3) := by decide +kernel
theorem dX12_countsPlain_23 : decode cX12_countsPlain 23 = .ok (.invokevirtual 168, 3) := by decide +kernel
theorem dX12_countsPlain_26 : decode cX12_countsPlain 26 = .ok (.goto 44, 3) := by decide +kernel
theorem dX12_countsPlain_29 : decode cX12_countsPlain 29 = .ok (.iload_n 1, 1) := by decide +kernel
theorem dX12_countsPlain_30 : decode cX12_countsPlain 30 = .ok (.iconst 3, 1) := by decide +kernel
theorem dX12_countsPlain_31 : decode cX12_countsPlain 31 = .ok (.if_icmp .ne 16, 3) := by decide +kernel
theorem dX12_countsPlain_34 : decode cX12_countsPlain 34 = .ok (.aload_n 0, 1) := by decide +kernel
theorem dX12_countsPlain_35 : decode cX12_countsPlain 35 = .ok (.iload 4, 2) := by decide +kernel
theorem dX12_countsPlain_37 : decode cX12_countsPlain 37 = .ok (.i2l, 1) := by decide +kernel
theorem dX12_countsPlain_38 : decode cX12_countsPlain 38 = .ok (.ldc2_w 174, 3) := by decide +kernel
theorem dX12_countsPlain_41 : decode cX12_countsPlain 41 = .ok (.invokevirtual 168, 3) := by decide +kernel
theorem dX12_countsPlain_44 : decode cX12_countsPlain 44 = .ok (.goto 26, 3) := by decide +kernel
theorem dX12_countsPlain_47 : decode cX12_countsPlain 47 = .ok (.aload_n 0, 1) := by decide +kernel
theorem dX12_countsPlain_48 : decode cX12_countsPlain 48 = .ok (.iload_n 2, 1) := by decide +kernel
theorem dX12_countsPlain_49 : decode cX12_countsPlain 49 = .ok (.iload_n 3, 1) := by decide +kernel
theorem dX12_countsPlain_50 : decode cX12_countsPlain 50 = .ok (.iload_n 1, 1) := by decide +kernel
theorem dX12_countsPlain_51 : decode cX12_countsPlain 51 = .ok (.iconst 1, 1) := by decide +kernel
theorem dX12_countsPlain_52 : decode cX12_countsPlain 52 = .ok (.if_icmp .ne 7, 3) := by decide +kernel
theorem dX12_countsPlain_55 : decode cX12_countsPlain 55 = .ok (.iconst 1, 1) := by decide +kernel
theorem dX12_countsPlain_56 : decode cX12_countsPlain 56 = .ok (.goto 4, 3) := by decide +kernel
theorem dX12_countsPlain_59 : decode cX12_countsPlain 59 = .ok (.iconst 0, 1) := by decide +kernel
theorem dX12_countsPlain_60 : decode cX12_countsPlain 60 = .ok (.invokestatic 176, 3) := by decide +kernel
theorem dX12_countsPlain_63 : decode cX12_countsPlain 63 = .ok (.i2l, 1) := by decide +kernel
theorem dX12_countsPlain_64 : decode cX12_countsPlain 64 = .ok (.ldc2_w 172, 3) := by decide +kernel
theorem dX12_countsPlain_67 : decode cX12_countsPlain 67 = .ok (.invokevirtual 168, 3) := by decide +kernel
theorem dX12_countsPlain_70 : decode cX12_countsPlain 70 = .ok (.return_, 1) := by decide +kernel
