set_option maxRecDepth 100000 in
theorem ggX12_hundreds_X12_times_p1 : ∀ w ∈ ([.fieldLink RX12 161 "BondCalendarsModel" "up" "J", .fieldLink RX12 165 "BondCalendarsModel" "lo" "J", .methodLink RX12 157 yX12_common, .static yX12_common, .initialized RX12, .code yX12_common cX12_common 10 (some .long), .methodLink RX12 168 yX12_sets, .instanceMethod yX12_sets, .selects RX12 yX12_sets yX12_sets, .code yX12_sets cX12_sets 7 none] : List Cond), w ∈ wsX12_hundreds := List.forall_mem_cons.mpr ⟨(List.mem_cons_of_mem _ (List.mem_append_left _ (List.mem_of_getElem? (i := 1) rfl))), List.forall_mem_cons.mpr ⟨(List.mem_cons_of_mem _ (List.mem_append_left _ (List.mem_of_getElem? (i := 2) rfl))), List.forall_mem_cons.mpr ⟨(List.mem_cons_of_mem _ (List.mem_append_left _ (List.mem_of_getElem? (i := 8) rfl))), List.forall_mem_cons.mpr ⟨(List.mem_cons_of_mem _ (List.mem_append_left _ (List.mem_of_getElem? (i := 9) rfl))), List.forall_mem_cons.mpr ⟨(List.mem_cons_of_mem _ (List.mem_append_left _ (List.mem_of_getElem? (i := 6) rfl))), List.forall_mem_cons.mpr ⟨(List.mem_cons_of_mem _ (List.mem_append_left _ (List.mem_of_getElem? (i := 10) rfl))), List.forall_mem_cons.mpr ⟨(List.mem_cons_of_mem _ (List.mem_append_left _ (List.mem_of_getElem? (i := 11) rfl))), List.forall_mem_cons.mpr ⟨(List.mem_cons_of_mem _ (List.mem_append_left _ (List.mem_of_getElem? (i := 12) rfl))), List.forall_mem_cons.mpr ⟨(List.mem_cons_of_mem _ (List.mem_append_left _ (List.mem_of_getElem? (i := 13) rfl))), List.forall_mem_cons.mpr ⟨(List.mem_cons_of_mem _ (List.mem_append_left _ (List.mem_of_getElem? (i := 14) rfl))), (fun _ h => absurd h List.not_mem_nil)⟩⟩⟩⟩⟩⟩⟩⟩⟩⟩
set_option maxRecDepth 100000 in
theorem ggX12_hundreds_X12_times : GoodIn wsX12_hundreds wsX12_times := goodIn_sub (fun w h => (List.mem_cons.mp h).elim (fun e => e ▸ ((List.mem_cons_of_mem _ (List.mem_append_left _ (List.mem_of_getElem? (i := 7) rfl))) : Cond.code yX12_times cX12_times 9 none ∈ wsX12_hundreds)) (fun h => (List.mem_append.mp h).elim (fun h => ggX12_hundreds_X12_times_p1 w h) (fun h => (List.mem_cons_of_mem _ (List.mem_append_right _ h))))) (by decide +kernel)
set_option maxRecDepth 20000 in
theorem gX12_hundreds_X12_times : GoodIn wsX12_hundreds (wsV RX12 410 RX12 yX12_times wsX12_times) := goodIn_app (goodIn_of _ (by decide +kernel)) ggX12_hundreds_X12_times
theorem dX12_hundreds_0 : decode cX12_hundreds 0 = .ok (.aload_n 0, 1) := by decide +kernel
theorem dX12_hundreds_1 : decode cX12_hundreds 1 = .ok (.iload_n 1, 1) := by decide +kernel
theorem dX12_hundreds_2 : decode cX12_hundreds 2 = .ok (.i2l, 1) := by decide +kernel
theorem dX12_hundreds_3 : decode cX12_hundreds 3 = .ok (.lconst 1, 1) := by decide +kernel
theorem dX12_hundreds_4 : decode cX12_hundreds 4 = .ok (.invokevirtual 410, 3) := by decide +kernel
theorem dX12_hundreds_7 : decode cX12_hundreds 7 = .ok (.aload_n 0, 1) := by decide +kernel
theorem dX12_hundreds_8 : decode cX12_hundreds 8 = .ok (.ldc2_w 408, 3) := by decide +kernel
theorem dX12_hundreds_11 : decode cX12_hundreds 11 = .ok (.lconst 1, 1) := by decide +kernel
theorem dX12_hundreds_12 : decode cX12_hundreds 12 = .ok (.invokevirtual 410, 3) := by decide +kernel
theorem dX12_hundreds_15 : decode cX12_hundreds 15 = .ok (.aload_n 0, 1) := by decide +kernel
theorem dX12_hundreds_16 : decode cX12_hundreds 16 = .ok (.getfield 161, 3) := by decide +kernel
theorem dX12_hundreds_19 : decode cX12_hundreds 19 = .ok (.aload_n 0, 1) := by decide +kernel
theorem dX12_hundreds_20 : decode cX12_hundreds 20 = .ok (.getfield 165, 3) := by decide +kernel
theorem dX12_hundreds_23 : decode cX12_hundreds 23 = .ok (.ldiv, 1) := by decide +kernel
theorem dX12_hundreds_24 : decode cX12_hundreds 24 = .ok (.lstore_n 2, 1) := by decide +kernel
theorem dX12_hundreds_25 : decode cX12_hundreds 25 = .ok (.lload_n 2, 1) := by decide +kernel
theorem dX12_hundreds_26 : decode cX12_hundreds 26 = .ok (.aload_n 0, 1) := by decide +kernel
theorem dX12_hundreds_27 : decode cX12_hundreds 27 = .ok (.getfield 165, 3) := by decide +kernel
theorem dX12_hundreds_30 : decode cX12_hundreds 30 = .ok (.lmul, 1) := by decide +kernel
theorem dX12_hundreds_31 : decode cX12_hundreds 31 = .ok (.aload_n 0, 1) := by decide +kernel
theorem dX12_hundreds_32 : decode cX12_hundreds 32 = .ok (.getfield 161, 3) := by decide +kernel
theorem dX12_hundreds_35 : decode cX12_hundreds 35 = .ok (.lcmp, 1) := by decide +kernel
theorem dX12_hundreds_36 : decode cX12_hundreds 36 = .ok (.ifCond .le 9, 3) := by decide +kernel
theorem dX12_hundreds_39 : decode cX12_hundreds 39 = .ok (.lload_n 2, 1) := by decide +kernel
theorem dX12_hundreds_40 : decode cX12_hundreds 40 = .ok (.lconst 1, 1) := by decide +kernel
theorem dX12_hundreds_41 : decode cX12_hundreds 41 = .ok (.lsub, 1) := by decide +kernel
theorem dX12_hundreds_42 : decode cX12_hundreds 42 = .ok (.goto 4, 3) := by decide +kernel
theorem dX12_hundreds_45 : decode cX12_hundreds 45 = .ok (.lload_n 2, 1) := by decide +kernel
theorem dX12_hundreds_46 : decode cX12_hundreds 46 = .ok (.lreturn, 1) := by decide +kernel
theorem dX12_copies_0 : decode cX12_copies 0 = .ok (.iconst 0, 1) := by decide +kernel
theorem dX12_copies_1 : decode cX12_copies 1 = .ok (.istore_n 3, 1) := by decide +kernel
theorem dX12_copies_2 : decode cX12_copies 2 = .ok (.iload_n 3, 1) := by decide +kernel
theorem dX12_copies_3 : decode cX12_copies 3 = .ok (.aload_n 1, 1) := by decide +kernel
theorem dX12_copies_4 : decode cX12_copies 4 = .ok (.arraylength, 1) := by decide +kernel
theorem dX12_copies_5 : decode cX12_copies 5 = .ok (.if_icmp .ge 15, 3) := by decide +kernel
theorem dX12_copies_8 : decode cX12_copies 8 = .ok (.aload_n 2, 1) := by decide +kernel
theorem dX12_copies_9 : decode cX12_copies 9 = .ok (.iload_n 3, 1) := by decide +kernel
theorem dX12_copies_10 : decode cX12_copies 10 = .ok (.aload_n 1, 1) := by decide +kernel
theorem dX12_copies_11 : decode cX12_copies 11 = .ok (.iload_n 3, 1) := by decide +kernel
theorem dX12_copies_12 : decode cX12_copies 12 = .ok (.iaload, 1) := by decide +kernel
theorem dX12_copies_13 : decode cX12_copies 13 = .ok (.iastore, 1) := by decide +kernel
theorem dX12_copies_14 : decode cX12_copies 14 = .ok (.iinc 3 1, 3) := by decide +kernel
theorem dX12_copies_17 : decode cX12_copies 17 = .ok (.goto (-15), 3) := by decide +kernel
theorem dX12_copies_20 : decode cX12_copies 20 = .ok (.return_, 1) := by decide +kernel
set_option maxRecDepth 100000 in
theorem ggX12_keep_X12_denied_p1 : ∀ w ∈ ([.methodLink RX12 113 yX12_refused, .instanceMethod yX12_refused, .selects RX12 yX12_refused yX12_refused, .initialized RX12, .code yX12_refused cX12_refused 2 (some .int), .fieldLink RX12 110 "BondCalendarsModel" "trouble" "I", .fieldLink RX12 9 "BondCalendarsModel" "wrongAt" "I"] : List Cond), w ∈ wsX12_keep := List.forall_mem_cons.mpr ⟨(List.mem_cons_of_mem _ (List.mem_append_left _ (List.mem_append_left _ (List.mem_of_getElem? (l := wsX12_keep_r1) (i := 16) rfl)))), List.forall_mem_cons.mpr ⟨(List.mem_cons_of_mem _ (List.mem_append_left _ (List.mem_append_left _ (List.mem_of_getElem? (l := wsX12_keep_r1) (i := 17) rfl)))), List.forall_mem_cons.mpr ⟨(List.mem_cons_of_mem _ (List.mem_append_left _ (List.mem_append_left _ (List.mem_of_getElem? (l := wsX12_keep_r1) (i := 18) rfl)))), List.forall_mem_cons.mpr ⟨(List.mem_cons_of_mem _ (List.mem_append_left _ (List.mem_append_left _ (List.mem_of_getElem? (l := wsX12_keep_r1) (i := 14) rfl)))), List.forall_mem_cons.mpr ⟨(List.mem_cons_of_mem _ (List.mem_append_left _ (List.mem_append_left _ (List.mem_of_getElem? (l := wsX12_keep_r1) (i := 19) rfl)))), List.forall_mem_cons.mpr ⟨(List.mem_cons_of_mem _ (List.mem_append_left _ (List.mem_append_left _ (List.mem_of_getElem? (l := wsX12_keep_r1) (i := 20) rfl)))), List.forall_mem_cons.mpr ⟨(List.mem_cons_of_mem _ (List.mem_append_left _ (List.mem_append_left _ (List.mem_of_getElem? (l := wsX12_keep_r1) (i := 21) rfl)))), (fun _ h => absurd h List.not_mem_nil)⟩⟩⟩⟩⟩⟩⟩
set_option maxRecDepth 100000 in
theorem ggX12_keep_X12_denied : GoodIn wsX12_keep wsX12_denied := goodIn_sub (fun w h => (List.mem_cons.mp h).elim (fun e => e ▸ ((List.mem_cons_of_mem _ (List.mem_append_left _ (List.mem_append_left _ (List.mem_of_getElem? (l := wsX12_keep_r1) (i := 15) rfl)))) : Cond.code yX12_denied cX12_denied 1 (some .boolean) ∈ wsX12_keep)) (fun h => (List.mem_append.mp h).elim (fun h => ggX12_keep_X12_denied_p1 w h) (fun h => (List.mem_cons_of_mem _ (List.mem_append_right _ h))))) (by decide +kernel)
set_option maxRecDepth 20000 in
theorem gX12_keep_X12_denied : GoodIn wsX12_keep (wsV RX12 587 RX12 yX12_denied wsX12_denied) := goodIn_app (goodIn_of _ (by decide +kernel)) ggX12_keep_X12_denied
set_option maxRecDepth 20000 in
theorem ggX12_keep_X12_copies : GoodIn wsX12_keep wsX12_copies := goodIn_r _ [26] (by decide +kernel) (by decide +kernel)
set_option maxRecDepth 20000 in
theorem gX12_keep_X12_copies : GoodIn wsX12_keep (wsV RX12 583 RX12 yX12_copies wsX12_copies) := goodIn_app (goodIn_of _ (by decide +kernel)) ggX12_keep_X12_copies
set_option maxRecDepth 100000 in
theorem ggX12_keep_X12_good_p1 : ∀ w ∈ ([.fieldLink RX12 110 "BondCalendarsModel" "trouble" "I", .fieldLink RX12 9 "BondCalendarsModel" "wrongAt" "I"] : List Cond), w ∈ wsX12_keep := List.forall_mem_cons.mpr ⟨(List.mem_cons_of_mem _ (List.mem_append_left _ (List.mem_append_left _ (List.mem_of_getElem? (l := wsX12_keep_r1) (i := 20) rfl)))), List.forall_mem_cons.mpr ⟨(List.mem_cons_of_mem _ (List.mem_append_left _ (List.mem_append_left _ (List.mem_of_getElem? (l := wsX12_keep_r1) (i := 21) rfl)))), (fun _ h => absurd h List.not_mem_nil)⟩⟩
set_option maxRecDepth 100000 in
theorem ggX12_keep_X12_good : GoodIn wsX12_keep wsX12_good := goodIn_sub (fun w h => (List.mem_cons.mp h).elim (fun e => e ▸ ((List.mem_cons_of_mem _ (List.mem_append_left _ (List.mem_append_right _ (List.mem_of_getElem? (l := wsX12_keep_r2) (i := 5) rfl)))) : Cond.code yX12_good cX12_good 2 (some .int) ∈ wsX12_keep)) (fun h => (List.mem_append.mp h).elim (fun h => ggX12_keep_X12_good_p1 w h) (fun h => (List.mem_cons_of_mem _ (List.mem_append_right _ h))))) (by decide +kernel)
set_option maxRecDepth 20000 in
theorem gX12_keep_X12_good : GoodIn wsX12_keep (wsV RX12 117 RX12 yX12_good wsX12_good) := goodIn_app (goodIn_of _ (by decide +kernel)) ggX12_keep_X12_good
theorem dX12_keep_0 : decode cX12_keep 0 = .ok (.aload_n 0, 1) := by decide +kernel
theorem dX12_keep_1 : decode cX12_keep 1 = .ok (.iconst 0, 1) := by decide +kernel
theorem dX12_keep_2 : decode cX12_keep 2 = .ok (.putfield 107, 3) := by decide +kernel
theorem dX12_keep_5 : decode cX12_keep 5 = .ok (.aload_n 0, 1) := by decide +kernel
theorem dX12_keep_6 : decode cX12_keep 6 = .ok (.getfield 361, 3) := by decide +kernel
theorem dX12_keep_9 : decode cX12_keep 9 = .ok (.ifCond .ne 8, 3) := by decide +kernel
theorem dX12_keep_12 : decode cX12_keep 12 = .ok (.aload_n 0, 1) := by decide +kernel
theorem dX12_keep_13 : decode cX12_keep 13 = .ok (.invokevirtual 587, 3) := by decide +kernel
theorem dX12_keep_16 : decode cX12_keep 16 = .ok (.ireturn, 1) := by decide +kernel
theorem dX12_keep_17 : decode cX12_keep 17 = .ok (.aload_n 0, 1) := by decide +kernel
theorem dX12_keep_18 : decode cX12_keep 18 = .ok (.aload_n 0, 1) := by decide +kernel
theorem dX12_keep_19 : decode cX12_keep 19 = .ok (.getfield 89, 3) := by decide +kernel
theorem dX12_keep_22 : decode cX12_keep 22 = .ok (.aload_n 0, 1) := by decide +kernel
theorem dX12_keep_23 : decode cX12_keep 23 = .ok (.getfield 95, 3) := by decide +kernel
theorem dX12_keep_26 : decode cX12_keep 26 = .ok (.invokevirtual 583, 3) := by decide +kernel
theorem dX12_keep_29 : decode cX12_keep 29 = .ok (.aload_n 0, 1) := by decide +kernel
theorem dX12_keep_30 : decode cX12_keep 30 = .ok (.aload_n 0, 1) := by decide +kernel
theorem dX12_keep_31 : decode cX12_keep 31 = .ok (.getfield 92, 3) := by decide +kernel
theorem dX12_keep_34 : decode cX12_keep 34 = .ok (.aload_n 0, 1) := by decide +kernel
theorem dX12_keep_35 : decode cX12_keep 35 = .ok (.getfield 98, 3) := by decide +kernel
theorem dX12_keep_38 : decode cX12_keep 38 = .ok (.invokevirtual 583, 3) := by decide +kernel
theorem dX12_keep_41 : decode cX12_keep 41 = .ok (.aload_n 0, 1) := by decide +kernel
theorem dX12_keep_42 : decode cX12_keep 42 = .ok (.aload_n 0, 1) := by decide +kernel
theorem dX12_keep_43 : decode cX12_keep 43 = .ok (.getfield 377, 3) := by decide +kernel
theorem dX12_keep_46 : decode cX12_keep 46 = .ok (.putfield 591, 3) := by decide +kernel
theorem dX12_keep_49 : decode cX12_keep 49 = .ok (.aload_n 0, 1) := by decide +kernel
theorem dX12_keep_50 : decode cX12_keep 50 = .ok (.aload_n 0, 1) := by decide +kernel
theorem dX12_keep_51 : decode cX12_keep 51 = .ok (.getfield 380, 3) := by decide +kernel
theorem dX12_keep_54 : decode cX12_keep 54 = .ok (.putfield 594, 3) := by decide +kernel
theorem dX12_keep_57 : decode cX12_keep 57 = .ok (.aload_n 0, 1) := by decide +kernel
theorem dX12_keep_58 : decode cX12_keep 58 = .ok (.iconst 1, 1) := by decide +kernel
theorem dX12_keep_59 : decode cX12_keep 59 = .ok (.putfield 382, 3) := by decide +kernel
theorem dX12_keep_62 : decode cX12_keep 62 = .ok (.aload_n 0, 1) := by decide +kernel
theorem dX12_keep_63 : decode cX12_keep 63 = .ok (.iconst 0, 1) := by decide +kernel
theorem dX12_keep_64 : decode cX12_keep 64 = .ok (.invokevirtual 117, 3) := by decide +kernel
theorem dX12_keep_67 : decode cX12_keep 67 = .ok (.pop, 1) := by decide +kernel
theorem dX12_keep_68 : decode cX12_keep 68 = .ok (.iconst 1, 1) := by decide +kernel
theorem dX12_keep_69 : decode cX12_keep 69 = .ok (.ireturn, 1) := by decide +kernel
set_option maxRecDepth 100000 in
theorem ggX12_back_X12_denied_p1 : ∀ w ∈ ([.methodLink RX12 113 yX12_refused, .instanceMethod yX12_refused, .selects RX12 yX12_refused yX12_refused, .initialized RX12, .code yX12_refused cX12_refused 2 (some .int), .fieldLink RX12 110 "BondCalendarsModel" "trouble" "I", .fieldLink RX12 9 "BondCalendarsModel" "wrongAt" "I"] : List Cond), w ∈ wsX12_back := List.forall_mem_cons.mpr ⟨(List.mem_cons_of_mem _ (List.mem_append_left _ (List.mem_append_left _ (List.mem_of_getElem? (l := wsX12_back_r1) (i := 15) rfl)))), List.forall_mem_cons.mpr ⟨(List.mem_cons_of_mem _ (List.mem_append_left _ (List.mem_append_left _ (List.mem_of_getElem? (l := wsX12_back_r1) (i := 16) rfl)))), List.forall_mem_cons.mpr ⟨(List.mem_cons_of_mem _ (List.mem_append_left _ (List.mem_append_left _ (List.mem_of_getElem? (l := wsX12_back_r1) (i := 17) rfl)))), List.forall_mem_cons.mpr ⟨(List.mem_cons_of_mem _ (List.mem_append_left _ (List.mem_append_left _ (List.mem_of_getElem? (l := wsX12_back_r1) (i := 13) rfl)))), List.forall_mem_cons.mpr ⟨(List.mem_cons_of_mem _ (List.mem_append_left _ (List.mem_append_left _ (List.mem_of_getElem? (l := wsX12_back_r1) (i := 18) rfl)))), List.forall_mem_cons.mpr ⟨(List.mem_cons_of_mem _ (List.mem_append_left _ (List.mem_append_left _ (List.mem_of_getElem? (l := wsX12_back_r1) (i := 19) rfl)))), List.forall_mem_cons.mpr ⟨(List.mem_cons_of_mem _ (List.mem_append_left _ (List.mem_append_left _ (List.mem_of_getElem? (l := wsX12_back_r1) (i := 20) rfl)))), (fun _ h => absurd h List.not_mem_nil)⟩⟩⟩⟩⟩⟩⟩
set_option maxRecDepth 100000 in
theorem ggX12_back_X12_denied : GoodIn wsX12_back wsX12_denied := goodIn_sub (fun w h => (List.mem_cons.mp h).elim (fun e => e ▸ ((List.mem_cons_of_mem _ (List.mem_append_left _ (List.mem_append_left _ (List.mem_of_getElem? (l := wsX12_back_r1) (i := 14) rfl)))) : Cond.code yX12_denied cX12_denied 1 (some .boolean) ∈ wsX12_back)) (fun h => (List.mem_append.mp h).elim (fun h => ggX12_back_X12_denied_p1 w h) (fun h => (List.mem_cons_of_mem _ (List.mem_append_right _ h))))) (by decide +kernel)
set_option maxRecDepth 20000 in
theorem gX12_back_X12_denied : GoodIn wsX12_back (wsV RX12 587 RX12 yX12_denied wsX12_denied) := goodIn_app (goodIn_of _ (by decide +kernel)) ggX12_back_X12_denied
set_option maxRecDepth 20000 in
theorem ggX12_back_X12_copies : GoodIn wsX12_back wsX12_copies := goodIn_r _ [25] (by decide +kernel) (by decide +kernel)
set_option maxRecDepth 20000 in
theorem gX12_back_X12_copies : GoodIn wsX12_back (wsV RX12 583 RX12 yX12_copies wsX12_copies) := goodIn_app (goodIn_of _ (by decide +kernel)) ggX12_back_X12_copies
set_option maxRecDepth 100000 in
theorem ggX12_back_X12_good_p1 : ∀ w ∈ ([.fieldLink RX12 110 "BondCalendarsModel" "trouble" "I", .fieldLink RX12 9 "BondCalendarsModel" "wrongAt" "I"] : List Cond), w ∈ wsX12_back := List.forall_mem_cons.mpr ⟨(List.mem_cons_of_mem _ (List.mem_append_left _ (List.mem_append_left _ (List.mem_of_getElem? (l := wsX12_back_r1) (i := 19) rfl)))), List.forall_mem_cons.mpr ⟨(List.mem_cons_of_mem _ (List.mem_append_left _ (List.mem_append_left _ (List.mem_of_getElem? (l := wsX12_back_r1) (i := 20) rfl)))), (fun _ h => absurd h List.not_mem_nil)⟩⟩
set_option maxRecDepth 100000 in
theorem ggX12_back_X12_good : GoodIn wsX12_back wsX12_good := goodIn_sub (fun w h => (List.mem_cons.mp h).elim (fun e => e ▸ ((List.mem_cons_of_mem _ (List.mem_append_left _ (List.mem_append_right _ (List.mem_of_getElem? (l := wsX12_back_r2) (i := 4) rfl)))) : Cond.code yX12_good cX12_good 2 (some .int) ∈ wsX12_back)) (fun h => (List.mem_append.mp h).elim (fun h => ggX12_back_X12_good_p1 w h) (fun h => (List.mem_cons_of_mem _ (List.mem_append_right _ h))))) (by decide +kernel)
set_option maxRecDepth 20000 in
theorem gX12_back_X12_good : GoodIn wsX12_back (wsV RX12 117 RX12 yX12_good wsX12_good) := goodIn_app (goodIn_of _ (by decide +kernel)) ggX12_back_X12_good
theorem dX12_back_0 : decode cX12_back 0 = .ok (.aload_n 0, 1) := by decide +kernel
theorem dX12_back_1 : decode cX12_back 1 = .ok (.iconst 0, 1) := by decide +kernel
theorem dX12_back_2 : decode cX12_back 2 = .ok (.putfield 107, 3) := by decide +kernel
theorem dX12_back_5 : decode cX12_back 5 = .ok (.aload_n 0, 1) := by decide +kernel
theorem dX12_back_6 : decode cX12_back 6 = .ok (.getfield 382, 3) := by decide +kernel
theorem dX12_back_9 : decode cX12_back 9 = .ok (.ifCond .ne 8, 3) := by decide +kernel
theorem dX12_back_12 : decode cX12_back 12 = .ok (.aload_n 0, 1) := by decide +kernel
theorem dX12_back_13 : decode cX12_back 13 = .ok (.invokevirtual 587, 3) := by decide +kernel
theorem dX12_back_16 : decode cX12_back 16 = .ok (.ireturn, 1) := by decide +kernel
theorem dX12_back_17 : decode cX12_back 17 = .ok (.aload_n 0, 1) := by decide +kernel
theorem dX12_back_18 : decode cX12_back 18 = .ok (.aload_n 0, 1) := by decide +kernel
theorem dX12_back_19 : decode cX12_back 19 = .ok (.getfield 95, 3) := by decide +kernel
theorem dX12_back_22 : decode cX12_back 22 = .ok (.aload_n 0, 1) := by decide +kernel
theorem dX12_back_23 : decode cX12_back 23 = .ok (.getfield 89, 3) := by decide +kernel
theorem dX12_back_26 : decode cX12_back 26 = .ok (.invokevirtual 583, 3) := by decide +kernel
theorem dX12_back_29 : decode cX12_back 29 = .ok (.aload_n 0, 1) := by decide +kernel
theorem dX12_back_30 : decode cX12_back 30 = .ok (.aload_n 0, 1) := by decide +kernel
theorem dX12_back_31 : decode cX12_back 31 = .ok (.getfield 98, 3) := by decide +kernel
theorem dX12_back_34 : decode cX12_back 34 = .ok (.aload_n 0, 1) := by decide +kernel
theorem dX12_back_35 : decode cX12_back 35 = .ok (.getfield 92, 3) := by decide +kernel
theorem dX12_back_38 : decode cX12_back 38 = .ok (.invokevirtual 583, 3) := by decide +kernel
theorem dX12_back_41 : decode cX12_back 41 = .ok (.aload_n 0, 1) := by decide +kernel
theorem dX12_back_42 : decode cX12_back 42 = .ok (.aload_n 0, 1) := by decide +kernel
theorem dX12_back_43 : decode cX12_back 43 = .ok (.getfield 591, 3) := by decide +kernel
theorem dX12_back_46 : decode cX12_back 46 = .ok (.putfield 377, 3) := by decide +kernel
theorem dX12_back_49 : decode cX12_back 49 = .ok (.aload_n 0, 1) := by decide +kernel
theorem dX12_back_50 : decode cX12_back 50 = .ok (.aload_n 0, 1) := by decide +kernel
theorem dX12_back_51 : decode cX12_back 51 = .ok (.getfield 594, 3) := by decide +kernel
theorem dX12_back_54 : decode cX12_back 54 = .ok (.putfield 380, 3) := by decide +kernel
theorem dX12_back_57 : decode cX12_back 57 = .ok (.aload_n 0, 1) := by decide +kernel
theorem dX12_back_58 : decode cX12_back 58 = .ok (.iconst 0, 1) := by decide +kernel
theorem dX12_back_59 : decode cX12_back 59 = .ok (.invokevirtual 117, 3) := by decide +kernel
theorem dX12_back_62 : decode cX12_back 62 = .ok (.pop, 1) := by decide +kernel
theorem dX12_back_63 : decode cX12_back 63 = .ok (.iconst 1, 1) := by decide +kernel
theorem dX12_back_64 : decode cX12_back 64 = .ok (.ireturn, 1) := by decide +kernel
