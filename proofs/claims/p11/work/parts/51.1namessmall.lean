theorem dX12_refused_0 : decode cX12_refused 0 = .ok (.aload_n 0, 1) := by decide +kernel
theorem dX12_refused_1 : decode cX12_refused 1 = .ok (.iload_n 1, 1) := by decide +kernel
theorem dX12_refused_2 : decode cX12_refused 2 = .ok (.putfield 110, 3) := by decide +kernel
theorem dX12_refused_5 : decode cX12_refused 5 = .ok (.aload_n 0, 1) := by decide +kernel
theorem dX12_refused_6 : decode cX12_refused 6 = .ok (.iconst (-1), 1) := by decide +kernel
theorem dX12_refused_7 : decode cX12_refused 7 = .ok (.putfield 9, 3) := by decide +kernel
theorem dX12_refused_10 : decode cX12_refused 10 = .ok (.iconst (-1), 1) := by decide +kernel
theorem dX12_refused_11 : decode cX12_refused 11 = .ok (.ireturn, 1) := by decide +kernel
set_option maxRecDepth 100000 in
theorem ggX12_refusedLong_X12_refused_p1 : ∀ w ∈ ([.fieldLink RX12 110 "BondCalendarsModel" "trouble" "I", .fieldLink RX12 9 "BondCalendarsModel" "wrongAt" "I"] : List Cond), w ∈ wsX12_refusedLong := List.forall_mem_cons.mpr ⟨(List.mem_cons_of_mem _ (List.mem_append_left _ (List.mem_of_getElem? (i := 5) rfl))), List.forall_mem_cons.mpr ⟨(List.mem_cons_of_mem _ (List.mem_append_left _ (List.mem_of_getElem? (i := 6) rfl))), (fun _ h => absurd h List.not_mem_nil)⟩⟩
set_option maxRecDepth 100000 in
theorem ggX12_refusedLong_X12_refused : GoodIn wsX12_refusedLong wsX12_refused := goodIn_sub (fun w h => (List.mem_cons.mp h).elim (fun e => e ▸ ((List.mem_cons_of_mem _ (List.mem_append_left _ (List.mem_of_getElem? (i := 4) rfl))) : Cond.code yX12_refused cX12_refused 2 (some .int) ∈ wsX12_refusedLong)) (fun h => (List.mem_append.mp h).elim (fun h => ggX12_refusedLong_X12_refused_p1 w h) (fun h => (List.mem_cons_of_mem _ (List.mem_append_right _ h))))) (by decide +kernel)
set_option maxRecDepth 20000 in
theorem gX12_refusedLong_X12_refused : GoodIn wsX12_refusedLong (wsV RX12 113 RX12 yX12_refused wsX12_refused) := goodIn_app (goodIn_of _ (by decide +kernel)) ggX12_refusedLong_X12_refused
theorem dX12_refusedLong_0 : decode cX12_refusedLong 0 = .ok (.aload_n 0, 1) := by decide +kernel
theorem dX12_refusedLong_1 : decode cX12_refusedLong 1 = .ok (.iload_n 1, 1) := by decide +kernel
theorem dX12_refusedLong_2 : decode cX12_refusedLong 2 = .ok (.invokevirtual 113, 3) := by decide +kernel
theorem dX12_refusedLong_5 : decode cX12_refusedLong 5 = .ok (.pop, 1) := by decide +kernel
theorem dX12_refusedLong_6 : decode cX12_refusedLong 6 = .ok (.lload_n 2, 1) := by decide +kernel
theorem dX12_refusedLong_7 : decode cX12_refusedLong 7 = .ok (.lreturn, 1) := by decide +kernel
theorem dX12_good_0 : decode cX12_good 0 = .ok (.aload_n 0, 1) := by decide +kernel
theorem dX12_good_1 : decode cX12_good 1 = .ok (.iconst 0, 1) := by decide +kernel
theorem dX12_good_2 : decode cX12_good 2 = .ok (.putfield 110, 3) := by decide +kernel
theorem dX12_good_5 : decode cX12_good 5 = .ok (.aload_n 0, 1) := by decide +kernel
theorem dX12_good_6 : decode cX12_good 6 = .ok (.iconst (-1), 1) := by decide +kernel
theorem dX12_good_7 : decode cX12_good 7 = .ok (.putfield 9, 3) := by decide +kernel
theorem dX12_good_10 : decode cX12_good 10 = .ok (.iload_n 1, 1) := by decide +kernel
theorem dX12_good_11 : decode cX12_good 11 = .ok (.ireturn, 1) := by decide +kernel
set_option maxRecDepth 100000 in
theorem ggX12_goodLong_X12_good_p1 : ∀ w ∈ ([.fieldLink RX12 110 "BondCalendarsModel" "trouble" "I", .fieldLink RX12 9 "BondCalendarsModel" "wrongAt" "I"] : List Cond), w ∈ wsX12_goodLong := List.forall_mem_cons.mpr ⟨(List.mem_cons_of_mem _ (List.mem_append_left _ (List.mem_of_getElem? (i := 5) rfl))), List.forall_mem_cons.mpr ⟨(List.mem_cons_of_mem _ (List.mem_append_left _ (List.mem_of_getElem? (i := 6) rfl))), (fun _ h => absurd h List.not_mem_nil)⟩⟩
set_option maxRecDepth 100000 in
theorem ggX12_goodLong_X12_good : GoodIn wsX12_goodLong wsX12_good := goodIn_sub (fun w h => (List.mem_cons.mp h).elim (fun e => e ▸ ((List.mem_cons_of_mem _ (List.mem_append_left _ (List.mem_of_getElem? (i := 4) rfl))) : Cond.code yX12_good cX12_good 2 (some .int) ∈ wsX12_goodLong)) (fun h => (List.mem_append.mp h).elim (fun h => ggX12_goodLong_X12_good_p1 w h) (fun h => (List.mem_cons_of_mem _ (List.mem_append_right _ h))))) (by decide +kernel)
set_option maxRecDepth 20000 in
theorem gX12_goodLong_X12_good : GoodIn wsX12_goodLong (wsV RX12 117 RX12 yX12_good wsX12_good) := goodIn_app (goodIn_of _ (by decide +kernel)) ggX12_goodLong_X12_good
theorem dX12_goodLong_0 : decode cX12_goodLong 0 = .ok (.aload_n 0, 1) := by decide +kernel
theorem dX12_goodLong_1 : decode cX12_goodLong 1 = .ok (.iconst 0, 1) := by decide +kernel
theorem dX12_goodLong_2 : decode cX12_goodLong 2 = .ok (.invokevirtual 117, 3) := by decide +kernel
theorem dX12_goodLong_5 : decode cX12_goodLong 5 = .ok (.pop, 1) := by decide +kernel
theorem dX12_goodLong_6 : decode cX12_goodLong 6 = .ok (.lload_n 1, 1) := by decide +kernel
theorem dX12_goodLong_7 : decode cX12_goodLong 7 = .ok (.lreturn, 1) := by decide +kernel
theorem dX12_asDouble_0 : decode cX12_asDouble 0 = .ok (.aload_n 0, 1) := by decide +kernel
theorem dX12_asDouble_1 : decode cX12_asDouble 1 = .ok (.getfield 161, 3) := by decide +kernel
theorem dX12_asDouble_4 : decode cX12_asDouble 4 = .ok (.l2d, 1) := by decide +kernel
theorem dX12_asDouble_5 : decode cX12_asDouble 5 = .ok (.aload_n 0, 1) := by decide +kernel
theorem dX12_asDouble_6 : decode cX12_asDouble 6 = .ok (.getfield 165, 3) := by decide +kernel
theorem dX12_asDouble_9 : decode cX12_asDouble 9 = .ok (.l2d, 1) := by decide +kernel
theorem dX12_asDouble_10 : decode cX12_asDouble 10 = .ok (.ddiv, 1) := by decide +kernel
theorem dX12_asDouble_11 : decode cX12_asDouble 11 = .ok (.dreturn, 1) := by decide +kernel
set_option maxRecDepth 100000 in
theorem ggX12_part_X12_goodLong_p1 : ∀ w ∈ ([.methodLink RX12 117 yX12_good, .instanceMethod yX12_good, .selects RX12 yX12_good yX12_good, .initialized RX12, .code yX12_good cX12_good 2 (some .int), .fieldLink RX12 110 "BondCalendarsModel" "trouble" "I", .fieldLink RX12 9 "BondCalendarsModel" "wrongAt" "I"] : List Cond), w ∈ wsX12_part := List.forall_mem_cons.mpr ⟨(List.mem_cons_of_mem _ (List.mem_append_left _ (List.mem_of_getElem? (i := 7) rfl))), List.forall_mem_cons.mpr ⟨(List.mem_cons_of_mem _ (List.mem_append_left _ (List.mem_of_getElem? (i := 8) rfl))), List.forall_mem_cons.mpr ⟨(List.mem_cons_of_mem _ (List.mem_append_left _ (List.mem_of_getElem? (i := 9) rfl))), List.forall_mem_cons.mpr ⟨(List.mem_cons_of_mem _ (List.mem_append_left _ (List.mem_of_getElem? (i := 5) rfl))), List.forall_mem_cons.mpr ⟨(List.mem_cons_of_mem _ (List.mem_append_left _ (List.mem_of_getElem? (i := 10) rfl))), List.forall_mem_cons.mpr ⟨(List.mem_cons_of_mem _ (List.mem_append_left _ (List.mem_of_getElem? (i := 11) rfl))), List.forall_mem_cons.mpr ⟨(List.mem_cons_of_mem _ (List.mem_append_left _ (List.mem_of_getElem? (i := 12) rfl))), (fun _ h => absurd h List.not_mem_nil)⟩⟩⟩⟩⟩⟩⟩
set_option maxRecDepth 100000 in
theorem ggX12_part_X12_goodLong : GoodIn wsX12_part wsX12_goodLong := goodIn_sub (fun w h => (List.mem_cons.mp h).elim (fun e => e ▸ ((List.mem_cons_of_mem _ (List.mem_append_left _ (List.mem_of_getElem? (i := 6) rfl))) : Cond.code yX12_goodLong cX12_goodLong 3 (some .long) ∈ wsX12_part)) (fun h => (List.mem_append.mp h).elim (fun h => ggX12_part_X12_goodLong_p1 w h) (fun h => (List.mem_cons_of_mem _ (List.mem_append_right _ h))))) (by decide +kernel)
set_option maxRecDepth 20000 in
theorem gX12_part_X12_goodLong : GoodIn wsX12_part (wsV RX12 126 RX12 yX12_goodLong wsX12_goodLong) := goodIn_app (goodIn_of _ (by decide +kernel)) ggX12_part_X12_goodLong
theorem dX12_part_0 : decode cX12_part 0 = .ok (.aload_n 0, 1) := by decide +kernel
theorem dX12_part_1 : decode cX12_part 1 = .ok (.iload_n 1, 1) := by decide +kernel
theorem dX12_part_2 : decode cX12_part 2 = .ok (.ifCond .eq 10, 3) := by decide +kernel
theorem dX12_part_5 : decode cX12_part 5 = .ok (.aload_n 0, 1) := by decide +kernel
theorem dX12_part_6 : decode cX12_part 6 = .ok (.getfield 165, 3) := by decide +kernel
theorem dX12_part_9 : decode cX12_part 9 = .ok (.goto 7, 3) := by decide +kernel
theorem dX12_part_12 : decode cX12_part 12 = .ok (.aload_n 0, 1) := by decide +kernel
theorem dX12_part_13 : decode cX12_part 13 = .ok (.getfield 161, 3) := by decide +kernel
theorem dX12_part_16 : decode cX12_part 16 = .ok (.invokevirtual 126, 3) := by decide +kernel
theorem dX12_part_19 : decode cX12_part 19 = .ok (.lreturn, 1) := by decide +kernel
theorem dX12_asYield_0 : decode cX12_asYield 0 = .ok (.iload_n 0, 1) := by decide +kernel
theorem dX12_asYield_1 : decode cX12_asYield 1 = .ok (.i2d, 1) := by decide +kernel
theorem dX12_asYield_2 : decode cX12_asYield 2 = .ok (.ldc2_w 505, 3) := by decide +kernel
theorem dX12_asYield_5 : decode cX12_asYield 5 = .ok (.ddiv, 1) := by decide +kernel
theorem dX12_asYield_6 : decode cX12_asYield 6 = .ok (.dreturn, 1) := by decide +kernel
