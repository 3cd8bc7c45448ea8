set_option maxRecDepth 100000 in
theorem ggX12_hundreds_X12_times_p1 : ∀ w ∈ ([.fieldLink RX12 161 "BondCalendarsModel" "up" "J", .fieldLink RX12 165 "BondCalendarsModel" "lo" "J", .methodLink RX12 157 yX12_common, .static yX12_common, .initialized RX12, .code yX12_common cX12_common 10 (some .long), .methodLink RX12 168 yX12_sets, .instanceMethod yX12_sets, .selects RX12 yX12_sets yX12_sets, .code yX12_sets cX12_sets 7 none] : List Cond), w ∈ wsX12_hundreds := List.forall_mem_cons.mpr ⟨(List.mem_cons_of_mem _ (List.mem_append_left _ (List.mem_of_getElem? (i := 1) rfl))), List.forall_mem_cons.mpr ⟨(List.mem_cons_of_mem _ (List.mem_append_left _ (List.mem_of_getElem? (i := 2) rfl))), List.forall_mem_cons.mpr ⟨(List.mem_cons_of_mem _ (List.mem_append_left _ (List.mem_of_getElem? (i := 8) rfl))), List.forall_mem_cons.mpr ⟨(List.mem_cons_of_mem _ (List.mem_append_left _ (List.mem_of_getElem? (i := 9) rfl))), List.forall_mem_cons.mpr ⟨(List.mem_cons_of_mem _ (List.mem_append_left _ (List.mem_of_getElem? (i := 6) rfl))), List.forall_mem_cons.mpr ⟨(List.mem_cons_of_mem _ (List.mem_append_left _ (List.mem_of_getElem? (i := 10) rfl))), List.forall_mem_cons.mpr ⟨(List.mem_cons_of_mem _ (List.mem_append_left _ (List.mem_of_getElem? (i := 11) rfl))), List.forall_mem_cons.mpr ⟨(List.mem_cons_of_mem _ (List.mem_append_left _ (List.mem_of_getElem? (i := 12) rfl))), List.forall_mem_cons.mpr ⟨(List.mem_cons_of_mem _ (List.mem_append_left _ (List.mem_of_getElem? (i := 13) rfl))), List.forall_mem_cons.mpr ⟨(List.mem_cons_of_mem _ (List.mem_append_left _ (List.mem_of_getElem? (i := 14) rfl))), (fun _ h => absurd h List.not_mem_nil)⟩⟩⟩⟩⟩⟩⟩⟩⟩⟩
set_option maxRecDepth 100000 in
theorem ggX12_hundreds_X12_times : GoodIn wsX12_hundreds wsX12_times := goodIn_sub (fun w h => (List.mem_cons.mp h).elim (fun e => e ▸ ((List.mem_cons_of_mem _ (List.mem_append_left _ (List.mem_of_getElem? (i := 7) rfl))) : Cond.code yX12_times cX12_times 9 none ∈ wsX12_hundreds)) (fun h => (List.mem_append.mp h).elim (fun h => ggX12_hundreds_X12_times_p1 w h) (fun h => (List.mem_cons_of_mem _ (List.mem_append_right _ h))))) (by decide +kernel)
set_option maxRecDepth 20000 in
theorem gX12_hundreds_X12_times : GoodIn wsX12_hundreds (wsV RX12 410 RX12 yX12_times wsX12_times) := goodIn_app (goodIn_of _ (by decide +kernel)) ggX12_hundreds_X12_times
theorem dX12_hundreds_0 : decode cX12_hundreds 0 = .ok (.aload_n 0, 1) := by decide +kernel
theorem dX12_hundreds_1 : decode cX12_hundreds 1 = .ok (.iload_n 1, 1) := by decide +kernel
theorem dX12_hundreds_2 : decode cX12_hundreds 2 = .ok (.i2l, 1) := by decide +kernel
theorem dX12_hundreds_3 : decode cX12_hundreds 3 = .ok (.lconst 1, 1) := by decide +kernel
theorem dX12_hundreds_4 : decode cX12_hundreds 4 = .ok (.invokevirtual 410, 3) := by decide +kernel
theorem dX12_hundreds_7 : decode cX12_hundreds 7 = .ok (.aload_n 0, 1) := by decide +kernel
theorem dX12_hundreds_8 : decode cX12_hundreds 8 = .ok (.ldc2_w 408, 3) := by decide +kernel
theorem dX12_hundreds_11 : decode cX12_hundreds 11 = .ok (.lconst 1, 1) := by decide +kernel
theorem dX12_hundreds_12 : decode cX12_hundreds 12 = .ok (.invokevirtual 410, 3) := by decide +kernel
theorem dX12_hundreds_15 : decode cX12_hundreds 15 = .ok (.aload_n 0, 1) := by decide +kernel
theorem dX12_hundreds_16 : decode cX12_hundreds 16 = .ok (.getfield 161, 3) := by decide +kernel
theorem dX12_hundreds_19 : decode cX12_hundreds 19 = .ok (.aload_n 0, 1) := by decide +kernel
theorem dX12_hundreds_20 : decode cX12_hundreds 20 = .ok (.getfield 165, 3) := by decide +kernel
theorem dX12_hundreds_23 : decode cX12_hundreds 23 = .ok (.ldiv, 1) := by decide +kernel
theorem dX12_hundreds_24 : decode cX12_hundreds 24 = .ok (.lstore_n 2, 1) := by decide +kernel
theorem dX12_hundreds_25 : decode cX12_hundreds 25 = .ok (.lload_n 2, 1) := by decide +kernel
theorem dX12_hundreds_26 : decode cX12_hundreds 26 = .ok (.aload_n 0, 1) := by decide +kernel
theorem dX12_hundreds_27 : decode cX12_hundreds 27 = .ok (.getfield 165, 3) := by decide +kernel
theorem dX12_hundreds_30 : decode cX12_hundreds 30 = .ok (.lmul, 1) := by decide +kernel
theorem dX12_hundreds_31 : decode cX12_hundreds 31 = .ok (.aload_n 0, 1) := by decide +kernel
theorem dX12_hundreds_32 : decode cX12_hundreds 32 = .ok (.getfield 161, 3) := by decide +kernel
theorem dX12_hundreds_35 : decode cX12_hundreds 35 = .ok (.lcmp, 1) := by decide +kernel
theorem dX12_hundreds_36 : decode cX12_hundreds 36 = .ok (.ifCond .le 9, 3) := by decide +kernel
theorem dX12_hundreds_39 : decode cX12_hundreds 39 = .ok (.lload_n 2, 1) := by decide +kernel
theorem dX12_hundreds_40 : decode cX12_hundreds 40 = .ok (.lconst 1, 1) := by decide +kernel
theorem dX12_hundreds_41 : decode cX12_hundreds 41 = .ok (.lsub, 1) := by decide +kernel
theorem dX12_hundreds_42 : decode cX12_hundreds 42 = .ok (.goto 4, 3) := by decide +kernel
theorem dX12_hundreds_45 : decode cX12_hundreds 45 = .ok (.lload_n 2, 1) := by decide +kernel
theorem dX12_hundreds_46 : decode cX12_hundreds 46 = .ok (.lreturn, 1) := by decide +kernel
theorem dX12_copies_0 : decode cX12_copies 0 = .ok (.iconst 0, 1) := by decide +kernel
theorem dX12_copies_1 : decode cX12_copies 1 = .ok (.istore_n 3, 1) := by decide +kernel
theorem dX12_copies_2 : decode cX12_copies 2 = .ok (.iload_n 3, 1) := by decide +kernel
theorem dX12_copies_3 : decode cX12_copies 3 = .ok (.aload_n 1, 1) := by decide +kernel
theorem dX12_copies_4 : decode cX12_copies 4 = .ok (.arraylength, 1) := by decide +kernel
theorem dX12_copies_5 : decode cX12_copies 5 = .ok (.if_icmp .ge 15, 3) := by decide +kernel
theorem dX12_copies_8 : decode cX12_copies 8 = .ok (.aload_n 2, 1) := by decide +kernel
theorem dX12_copies_9 : decode cX12_copies 9 = .ok (.iload_n 3, 1) := by decide +kernel
theorem dX12_copies_10 : decode cX12_copies 10 = .ok (.aload_n 1, 1) := by decide +kernel
theorem dX12_copies_11 : decode cX12_copies 11 = .ok (.iload_n 3, 1) := by decide +kernel
theorem dX12_copies_12 : decode cX12_copies 12 = .ok (.iaload, 1) := by decide +kernel
theorem dX12_copies_13 : decode cX12_copies 13 = .ok (.iastore, 1) := by decide +kernel
theorem dX12_copies_14 : decode cX12_copies 14 = .ok (.iinc 3 1, 3) := by decide +kernel
theorem dX12_copies_17 : decode cX12_copies 17 = .ok (.goto (-15), 3) := by decide +kernel
theorem dX12_copies_20 : decode cX12_copies 20 = .ok (.return_, 1) := by decide +kernel
