theorem dX12_byteAt_0 : decode cX12_byteAt 0 = .ok (.iload_n 1, 1) := by decide +kernel
theorem dX12_byteAt_1 : decode cX12_byteAt 1 = .ok (.aload_n 0, 1) := by decide +kernel
theorem dX12_byteAt_2 : decode cX12_byteAt 2 = .ok (.getfield 189, 3) := by decide +kernel
theorem dX12_byteAt_5 : decode cX12_byteAt 5 = .ok (.if_icmp .ge 16, 3) := by decide +kernel
theorem dX12_byteAt_8 : decode cX12_byteAt 8 = .ok (.aload_n 0, 1) := by decide +kernel
theorem dX12_byteAt_9 : decode cX12_byteAt 9 = .ok (.getfield 60, 3) := by decide +kernel
theorem dX12_byteAt_12 : decode cX12_byteAt 12 = .ok (.iload_n 1, 1) := by decide +kernel
theorem dX12_byteAt_13 : decode cX12_byteAt 13 = .ok (.baload, 1) := by decide +kernel
theorem dX12_byteAt_14 : decode cX12_byteAt 14 = .ok (.sipush 255, 3) := by decide +kernel
theorem dX12_byteAt_17 : decode cX12_byteAt 17 = .ok (.iand, 1) := by decide +kernel
theorem dX12_byteAt_18 : decode cX12_byteAt 18 = .ok (.goto 4, 3) := by decide +kernel
theorem dX12_byteAt_21 : decode cX12_byteAt 21 = .ok (.iconst (-1), 1) := by decide +kernel
theorem dX12_byteAt_22 : decode cX12_byteAt 22 = .ok (.ireturn, 1) := by decide +kernel
set_option maxRecDepth 100000 in
theorem ggX12_next_X12_byteAt_p1 : ∀ w ∈ ([.fieldLink RX12 189 "BondCalendarsModel" "size" "I", .fieldLink RX12 60 "BondCalendarsModel" "tape" "[B"] : List Cond), w ∈ wsX12_next := List.forall_mem_cons.mpr ⟨(List.mem_cons_of_mem _ (List.mem_append_left _ (List.mem_append_left _ (List.mem_of_getElem? (l := wsX12_next_r1) (i := 9) rfl)))), List.forall_mem_cons.mpr ⟨(List.mem_cons_of_mem _ (List.mem_append_left _ (List.mem_append_left _ (List.mem_of_getElem? (l := wsX12_next_r1) (i := 10) rfl)))), (fun _ h => absurd h List.not_mem_nil)⟩⟩
set_option maxRecDepth 100000 in
theorem ggX12_next_X12_byteAt : GoodIn wsX12_next wsX12_byteAt := goodIn_sub (fun w h => (List.mem_cons.mp h).elim (fun e => e ▸ ((List.mem_cons_of_mem _ (List.mem_append_left _ (List.mem_append_left _ (List.mem_of_getElem? (l := wsX12_next_r1) (i := 8) rfl)))) : Cond.code yX12_byteAt cX12_byteAt 2 (some .int) ∈ wsX12_next)) (fun h => (List.mem_append.mp h).elim (fun h => ggX12_next_X12_byteAt_p1 w h) (fun h => (List.mem_cons_of_mem _ (List.mem_append_right _ h))))) (by decide +kernel)
set_option maxRecDepth 20000 in
theorem gX12_next_X12_byteAt : GoodIn wsX12_next (wsV RX12 198 RX12 yX12_byteAt wsX12_byteAt) := goodIn_app (goodIn_of _ (by decide +kernel)) ggX12_next_X12_byteAt
set_option maxRecDepth 20000 in
theorem ggX12_next_X12_in : GoodIn wsX12_next wsX12_in := goodIn_r _ [14] (by decide +kernel) (by decide +kernel)
set_option maxRecDepth 20000 in
theorem gX12_next_X12_in : GoodIn wsX12_next (va_wsS RX12 132 yX12_in wsX12_in) := goodIn_app (goodIn_of _ (by decide +kernel)) ggX12_next_X12_in
set_option maxRecDepth 100000 in
theorem ggX12_next_X12_nextWord_p1 : ∀ w ∈ ([.fieldLink RX12 217 "BondCalendarsModel" "word" "J", .fieldLink RX12 195 "BondCalendarsModel" "spot" "I", .fieldLink RX12 201 "BondCalendarsModel" "at" "I", .fieldLink RX12 204 "BondCalendarsModel" "kind" "I", .methodLink RX12 198 yX12_byteAt, .instanceMethod yX12_byteAt, .selects RX12 yX12_byteAt yX12_byteAt, .initialized RX12, .code yX12_byteAt cX12_byteAt 2 (some .int), .fieldLink RX12 189 "BondCalendarsModel" "size" "I", .fieldLink RX12 60 "BondCalendarsModel" "tape" "[B", .methodLink RX12 132 yX12_in, .static yX12_in, .code yX12_in cX12_in 3 (some .boolean)] : List Cond), w ∈ wsX12_next := List.forall_mem_cons.mpr ⟨(List.mem_cons_of_mem _ (List.mem_append_left _ (List.mem_append_left _ (List.mem_of_getElem? (l := wsX12_next_r1) (i := 18) rfl)))), List.forall_mem_cons.mpr ⟨(List.mem_cons_of_mem _ (List.mem_append_left _ (List.mem_append_left _ (List.mem_of_getElem? (l := wsX12_next_r1) (i := 1) rfl)))), List.forall_mem_cons.mpr ⟨(List.mem_cons_of_mem _ (List.mem_append_left _ (List.mem_append_left _ (List.mem_of_getElem? (l := wsX12_next_r1) (i := 2) rfl)))), List.forall_mem_cons.mpr ⟨(List.mem_cons_of_mem _ (List.mem_append_left _ (List.mem_append_left _ (List.mem_of_getElem? (l := wsX12_next_r1) (i := 3) rfl)))), List.forall_mem_cons.mpr ⟨(List.mem_cons_of_mem _ (List.mem_append_left _ (List.mem_append_left _ (List.mem_of_getElem? (l := wsX12_next_r1) (i := 4) rfl)))), List.forall_mem_cons.mpr ⟨(List.mem_cons_of_mem _ (List.mem_append_left _ (List.mem_append_left _ (List.mem_of_getElem? (l := wsX12_next_r1) (i := 5) rfl)))), List.forall_mem_cons.mpr ⟨(List.mem_cons_of_mem _ (List.mem_append_left _ (List.mem_append_left _ (List.mem_of_getElem? (l := wsX12_next_r1) (i := 6) rfl)))), List.forall_mem_cons.mpr ⟨(List.mem_cons_of_mem _ (List.mem_append_left _ (List.mem_append_left _ (List.mem_of_getElem? (l := wsX12_next_r1) (i := 7) rfl)))), List.forall_mem_cons.mpr ⟨(List.mem_cons_of_mem _ (List.mem_append_left _ (List.mem_append_left _ (List.mem_of_getElem? (l := wsX12_next_r1) (i := 8) rfl)))), List.forall_mem_cons.mpr ⟨(List.mem_cons_of_mem _ (List.mem_append_left _ (List.mem_append_left _ (List.mem_of_getElem? (l := wsX12_next_r1) (i := 9) rfl)))), List.forall_mem_cons.mpr ⟨(List.mem_cons_of_mem _ (List.mem_append_left _ (List.mem_append_left _ (List.mem_of_getElem? (l := wsX12_next_r1) (i := 10) rfl)))), List.forall_mem_cons.mpr ⟨(List.mem_cons_of_mem _ (List.mem_append_left _ (List.mem_append_left _ (List.mem_of_getElem? (l := wsX12_next_r1) (i := 11) rfl)))), List.forall_mem_cons.mpr ⟨(List.mem_cons_of_mem _ (List.mem_append_left _ (List.mem_append_left _ (List.mem_of_getElem? (l := wsX12_next_r1) (i := 12) rfl)))), List.forall_mem_cons.mpr ⟨(List.mem_cons_of_mem _ (List.mem_append_left _ (List.mem_append_left _ (List.mem_of_getElem? (l := wsX12_next_r1) (i := 13) rfl)))), (fun _ h => absurd h List.not_mem_nil)⟩⟩⟩⟩⟩⟩⟩⟩⟩⟩⟩⟩⟩⟩
set_option maxRecDepth 100000 in
theorem ggX12_next_X12_nextWord : GoodIn wsX12_next wsX12_nextWord := goodIn_sub (fun w h => (List.mem_cons.mp h).elim (fun e => e ▸ ((List.mem_cons_of_mem _ (List.mem_append_left _ (List.mem_append_left _ (List.mem_of_getElem? (l := wsX12_next_r1) (i := 17) rfl)))) : Cond.code yX12_nextWord cX12_nextWord 1 none ∈ wsX12_next)) (fun h => (List.mem_append.mp h).elim (fun h => ggX12_next_X12_nextWord_p1 w h) (fun h => (List.mem_cons_of_mem _ (List.mem_append_right _ h))))) (by decide +kernel)
set_option maxRecDepth 20000 in
theorem gX12_next_X12_nextWord : GoodIn wsX12_next (wsV RX12 207 RX12 yX12_nextWord wsX12_nextWord) := goodIn_app (goodIn_of _ (by decide +kernel)) ggX12_next_X12_nextWord
set_option maxRecDepth 100000 in
theorem ggX12_next_X12_nextWhole_p1 : ∀ w ∈ ([.fieldLink RX12 220 "BondCalendarsModel" "number" "I", .fieldLink RX12 195 "BondCalendarsModel" "spot" "I", .fieldLink RX12 201 "BondCalendarsModel" "at" "I", .fieldLink RX12 204 "BondCalendarsModel" "kind" "I", .methodLink RX12 198 yX12_byteAt, .instanceMethod yX12_byteAt, .selects RX12 yX12_byteAt yX12_byteAt, .initialized RX12, .code yX12_byteAt cX12_byteAt 2 (some .int), .fieldLink RX12 189 "BondCalendarsModel" "size" "I", .fieldLink RX12 60 "BondCalendarsModel" "tape" "[B", .methodLink RX12 132 yX12_in, .static yX12_in, .code yX12_in cX12_in 3 (some .boolean)] : List Cond), w ∈ wsX12_next := List.forall_mem_cons.mpr ⟨(List.mem_cons_of_mem _ (List.mem_append_left _ (List.mem_append_left _ (List.mem_of_getElem? (l := wsX12_next_r1) (i := 23) rfl)))), List.forall_mem_cons.mpr ⟨(List.mem_cons_of_mem _ (List.mem_append_left _ (List.mem_append_left _ (List.mem_of_getElem? (l := wsX12_next_r1) (i := 1) rfl)))), List.forall_mem_cons.mpr ⟨(List.mem_cons_of_mem _ (List.mem_append_left _ (List.mem_append_left _ (List.mem_of_getElem? (l := wsX12_next_r1) (i := 2) rfl)))), List.forall_mem_cons.mpr ⟨(List.mem_cons_of_mem _ (List.mem_append_left _ (List.mem_append_left _ (List.mem_of_getElem? (l := wsX12_next_r1) (i := 3) rfl)))), List.forall_mem_cons.mpr ⟨(List.mem_cons_of_mem _ (List.mem_append_left _ (List.mem_append_left _ (List.mem_of_getElem? (l := wsX12_next_r1) (i := 4) rfl)))), List.forall_mem_cons.mpr ⟨(List.mem_cons_of_mem _ (List.mem_append_left _ (List.mem_append_left _ (List.mem_of_getElem? (l := wsX12_next_r1) (i := 5) rfl)))), List.forall_mem_cons.mpr ⟨(List.mem_cons_of_mem _ (List.mem_append_left _ (List.mem_append_left _ (List.mem_of_getElem? (l := wsX12_next_r1) (i := 6) rfl)))), List.forall_mem_cons.mpr ⟨(List.mem_cons_of_mem _ (List.mem_append_left _ (List.mem_append_left _ (List.mem_of_getElem? (l := wsX12_next_r1) (i := 7) rfl)))), List.forall_mem_cons.mpr ⟨(List.mem_cons_of_mem _ (List.mem_append_left _ (List.mem_append_left _ (List.mem_of_getElem? (l := wsX12_next_r1) (i := 8) rfl)))), List.forall_mem_cons.mpr ⟨(List.mem_cons_of_mem _ (List.mem_append_left _ (List.mem_append_left _ (List.mem_of_getElem? (l := wsX12_next_r1) (i := 9) rfl)))), List.forall_mem_cons.mpr ⟨(List.mem_cons_of_mem _ (List.mem_append_left _ (List.mem_append_left _ (List.mem_of_getElem? (l := wsX12_next_r1) (i := 10) rfl)))), List.forall_mem_cons.mpr ⟨(List.mem_cons_of_mem _ (List.mem_append_left _ (List.mem_append_left _ (List.mem_of_getElem? (l := wsX12_next_r1) (i := 11) rfl)))), List.forall_mem_cons.mpr ⟨(List.mem_cons_of_mem _ (List.mem_append_left _ (List.mem_append_left _ (List.mem_of_getElem? (l := wsX12_next_r1) (i := 12) rfl)))), List.forall_mem_cons.mpr ⟨(List.mem_cons_of_mem _ (List.mem_append_left _ (List.mem_append_left _ (List.mem_of_getElem? (l := wsX12_next_r1) (i := 13) rfl)))), (fun _ h => absurd h List.not_mem_nil)⟩⟩⟩⟩⟩⟩⟩⟩⟩⟩⟩⟩⟩⟩
set_option maxRecDepth 100000 in
theorem ggX12_next_X12_nextWhole : GoodIn wsX12_next wsX12_nextWhole := goodIn_sub (fun w h => (List.mem_cons.mp h).elim (fun e => e ▸ ((List.mem_cons_of_mem _ (List.mem_append_left _ (List.mem_append_left _ (List.mem_of_getElem? (l := wsX12_next_r1) (i := 22) rfl)))) : Cond.code yX12_nextWhole cX12_nextWhole 1 none ∈ wsX12_next)) (fun h => (List.mem_append.mp h).elim (fun h => ggX12_next_X12_nextWhole_p1 w h) (fun h => (List.mem_cons_of_mem _ (List.mem_append_right _ h))))) (by decide +kernel)
set_option maxRecDepth 20000 in
theorem gX12_next_X12_nextWhole : GoodIn wsX12_next (wsV RX12 210 RX12 yX12_nextWhole wsX12_nextWhole) := goodIn_app (goodIn_of _ (by decide +kernel)) ggX12_next_X12_nextWhole
set_option maxRecDepth 100000 in
theorem ggX12_next_X12_nextSign_p1 : ∀ w ∈ ([.fieldLink RX12 204 "BondCalendarsModel" "kind" "I", .fieldLink RX12 195 "BondCalendarsModel" "spot" "I"] : List Cond), w ∈ wsX12_next := List.forall_mem_cons.mpr ⟨(List.mem_cons_of_mem _ (List.mem_append_left _ (List.mem_append_left _ (List.mem_of_getElem? (l := wsX12_next_r1) (i := 3) rfl)))), List.forall_mem_cons.mpr ⟨(List.mem_cons_of_mem _ (List.mem_append_left _ (List.mem_append_left _ (List.mem_of_getElem? (l := wsX12_next_r1) (i := 1) rfl)))), (fun _ h => absurd h List.not_mem_nil)⟩⟩
set_option maxRecDepth 100000 in
theorem ggX12_next_X12_nextSign : GoodIn wsX12_next wsX12_nextSign := goodIn_sub (fun w h => (List.mem_cons.mp h).elim (fun e => e ▸ ((List.mem_cons_of_mem _ (List.mem_append_left _ (List.mem_append_right _ (List.mem_of_getElem? (l := wsX12_next_r2) (i := 3) rfl)))) : Cond.code yX12_nextSign cX12_nextSign 2 none ∈ wsX12_next)) (fun h => (List.mem_append.mp h).elim (fun h => ggX12_next_X12_nextSign_p1 w h) (fun h => (List.mem_cons_of_mem _ (List.mem_append_right _ h))))) (by decide +kernel)
set_option maxRecDepth 20000 in
theorem gX12_next_X12_nextSign : GoodIn wsX12_next (wsV RX12 213 RX12 yX12_nextSign wsX12_nextSign) := goodIn_app (goodIn_of _ (by decide +kernel)) ggX12_next_X12_nextSign
theorem dX12_next_0 : decode cX12_next 0 = .ok (.aload_n 0, 1) := by decide +kernel
theorem dX12_next_1 : decode cX12_next 1 = .ok (.getfield 192, 3) := by decide +kernel
theorem dX12_next_4 : decode cX12_next 4 = .ok (.ifCond .le 4, 3) := by decide +kernel
theorem dX12_next_7 : decode cX12_next 7 = .ok (.return_, 1) := by decide +kernel
theorem dX12_next_8 : decode cX12_next 8 = .ok (.aload_n 0, 1) := by decide +kernel
theorem dX12_next_9 : decode cX12_next 9 = .ok (.aload_n 0, 1) := by decide +kernel
theorem dX12_next_10 : decode cX12_next 10 = .ok (.getfield 195, 3) := by decide +kernel
theorem dX12_next_13 : decode cX12_next 13 = .ok (.invokevirtual 198, 3) := by decide +kernel
theorem dX12_next_16 : decode cX12_next 16 = .ok (.bipush 32, 2) := by decide +kernel
theorem dX12_next_18 : decode cX12_next 18 = .ok (.if_icmp .ne 16, 3) := by decide +kernel
theorem dX12_next_21 : decode cX12_next 21 = .ok (.aload_n 0, 1) := by decide +kernel
theorem dX12_next_22 : decode cX12_next 22 = .ok (.dup, 1) := by decide +kernel
theorem dX12_next_23 : decode cX12_next 23 = .ok (.getfield 195, 3) := by decide +kernel
theorem dX12_next_26 : decode cX12_next 26 = .ok (.iconst 1, 1) := by decide +kernel
theorem dX12_next_27 : decode cX12_next 27 = .ok (.iadd, 1) := by decide +kernel
theorem dX12_next_28 : decode cX12_next 28 = .ok (.putfield 195, 3) := by decide +kernel
theorem dX12_next_31 : decode cX12_next 31 = .ok (.goto (-23), 3) := by decide +kernel
theorem dX12_next_34 : decode cX12_next 34 = .ok (.aload_n 0, 1) := by decide +kernel
theorem dX12_next_35 : decode cX12_next 35 = .ok (.aload_n 0, 1) := by decide +kernel
theorem dX12_next_36 : decode cX12_next 36 = .ok (.getfield 195, 3) := by decide +kernel
theorem dX12_next_39 : decode cX12_next 39 = .ok (.putfield 201, 3) := by decide +kernel
theorem dX12_next_42 : decode cX12_next 42 = .ok (.aload_n 0, 1) := by decide +kernel
theorem dX12_next_43 : decode cX12_next 43 = .ok (.aload_n 0, 1) := by decide +kernel
theorem dX12_next_44 : decode cX12_next 44 = .ok (.getfield 195, 3) := by decide +kernel
theorem dX12_next_47 : decode cX12_next 47 = .ok (.invokevirtual 198, 3) := by decide +kernel
theorem dX12_next_50 : decode cX12_next 50 = .ok (.istore_n 1, 1) := by decide +kernel
theorem dX12_next_51 : decode cX12_next 51 = .ok (.iload_n 1, 1) := by decide +kernel
theorem dX12_next_52 : decode cX12_next 52 = .ok (.iconst (-1), 1) := by decide +kernel
theorem dX12_next_53 : decode cX12_next 53 = .ok (.if_icmp .ne 11, 3) := by decide +kernel
theorem dX12_next_56 : decode cX12_next 56 = .ok (.aload_n 0, 1) := by decide +kernel
theorem dX12_next_57 : decode cX12_next 57 = .ok (.iconst 1, 1) := by decide +kernel
theorem dX12_next_58 : decode cX12_next 58 = .ok (.putfield 204, 3) := by decide +kernel
theorem dX12_next_61 : decode cX12_next 61 = .ok (.goto 44, 3) := by decide +kernel
theorem dX12_next_64 : decode cX12_next 64 = .ok (.iload_n 1, 1) := by decide +kernel
theorem dX12_next_65 : decode cX12_next 65 = .ok (.bipush 97, 2) := by decide +kernel
theorem dX12_next_67 : decode cX12_next 67 = .ok (.bipush 122, 2) := by decide +kernel
theorem dX12_next_69 : decode cX12_next 69 = .ok (.invokestatic 132, 3) := by decide +kernel
theorem dX12_next_72 : decode cX12_next 72 = .ok (.ifCond .eq 10, 3) := by decide +kernel
theorem dX12_next_75 : decode cX12_next 75 = .ok (.aload_n 0, 1) := by decide +kernel
theorem dX12_next_76 : decode cX12_next 76 = .ok (.invokevirtual 207, 3) := by decide +kernel
theorem dX12_next_79 : decode cX12_next 79 = .ok (.goto 26, 3) := by decide +kernel
theorem dX12_next_82 : decode cX12_next 82 = .ok (.iload_n 1, 1) := by decide +kernel
theorem dX12_next_83 : decode cX12_next 83 = .ok (.bipush 48, 2) := by decide +kernel
theorem dX12_next_85 : decode cX12_next 85 = .ok (.bipush 57, 2) := by decide +kernel
theorem dX12_next_87 : decode cX12_next 87 = .ok (.invokestatic 132, 3) := by decide +kernel
theorem dX12_next_90 : decode cX12_next 90 = .ok (.ifCond .eq 10, 3) := by decide +kernel
theorem dX12_next_93 : decode cX12_next 93 = .ok (.aload_n 0, 1) := by decide +kernel
theorem dX12_next_94 : decode cX12_next 94 = .ok (.invokevirtual 210, 3) := by decide +kernel
theorem dX12_next_97 : decode cX12_next 97 = .ok (.goto 8, 3) := by decide +kernel
theorem dX12_next_100 : decode cX12_next 100 = .ok (.aload_n 0, 1) := by decide +kernel
theorem dX12_next_101 : decode cX12_next 101 = .ok (.iload_n 1, 1) := by decide +kernel
theorem dX12_next_102 : decode cX12_next 102 = .ok (.invokevirtual 213, 3) := by decide +kernel
theorem dX12_next_105 : decode cX12_next 105 = .ok (.return_, 1) := by decide +kernel
set_option maxRecDepth 100000 in
theorem ggX12_nextWord_X12_byteAt_p1 : ∀ w ∈ ([.fieldLink RX12 189 "BondCalendarsModel" "size" "I", .fieldLink RX12 60 "BondCalendarsModel" "tape" "[B"] : List Cond), w ∈ wsX12_nextWord := List.forall_mem_cons.mpr ⟨(List.mem_cons_of_mem _ (List.mem_append_left _ (List.mem_of_getElem? (i := 9) rfl))), List.forall_mem_cons.mpr ⟨(List.mem_cons_of_mem _ (List.mem_append_left _ (List.mem_of_getElem? (i := 10) rfl))), (fun _ h => absurd h List.not_mem_nil)⟩⟩
set_option maxRecDepth 100000 in
theorem ggX12_nextWord_X12_byteAt : GoodIn wsX12_nextWord wsX12_byteAt := goodIn_sub (fun w h => (List.mem_cons.mp h).elim (fun e => e ▸ ((List.mem_cons_of_mem _ (List.mem_append_left _ (List.mem_of_getElem? (i := 8) rfl))) : Cond.code yX12_byteAt cX12_byteAt 2 (some .int) ∈ wsX12_nextWord)) (fun h => (List.mem_append.mp h).elim (fun h => ggX12_nextWord_X12_byteAt_p1 w h) (fun h => (List.mem_cons_of_mem _ (List.mem_append_right _ h))))) (by decide +kernel)
set_option maxRecDepth 20000 in
theorem gX12_nextWord_X12_byteAt : GoodIn wsX12_nextWord (wsV RX12 198 RX12 yX12_byteAt wsX12_byteAt) := goodIn_app (goodIn_of _ (by decide +kernel)) ggX12_nextWord_X12_byteAt
set_option maxRecDepth 20000 in
theorem ggX12_nextWord_X12_in : GoodIn wsX12_nextWord wsX12_in := goodIn_r _ [14] (by decide +kernel) (by decide +kernel)
set_option maxRecDepth 20000 in
theorem gX12_nextWord_X12_in : GoodIn wsX12_nextWord (va_wsS RX12 132 yX12_in wsX12_in) := goodIn_app (goodIn_of _ (by decide +kernel)) ggX12_nextWord_X12_in
theorem dX12_nextWord_0 : decode cX12_nextWord 0 = .ok (.aload_n 0, 1) := by decide +kernel
theorem dX12_nextWord_1 : decode cX12_nextWord 1 = .ok (.lconst 0, 1) := by decide +kernel
theorem dX12_nextWord_2 : decode cX12_nextWord 2 = .ok (.putfield 217, 3) := by decide +kernel
theorem dX12_nextWord_5 : decode cX12_nextWord 5 = .ok (.aload_n 0, 1) := by decide +kernel
theorem dX12_nextWord_6 : decode cX12_nextWord 6 = .ok (.aload_n 0, 1) := by decide +kernel
theorem dX12_nextWord_7 : decode cX12_nextWord 7 = .ok (.getfield 195, 3) := by decide +kernel
theorem dX12_nextWord_10 : decode cX12_nextWord 10 = .ok (.invokevirtual 198, 3) := by decide +kernel
theorem dX12_nextWord_13 : decode cX12_nextWord 13 = .ok (.bipush 97, 2) := by decide +kernel
theorem dX12_nextWord_15 : decode cX12_nextWord 15 = .ok (.bipush 122, 2) := by decide +kernel
theorem dX12_nextWord_17 : decode cX12_nextWord 17 = .ok (.invokestatic 132, 3) := by decide +kernel
theorem dX12_nextWord_20 : decode cX12_nextWord 20 = .ok (.ifCond .eq 51, 3) := by decide +kernel
theorem dX12_nextWord_23 : decode cX12_nextWord 23 = .ok (.aload_n 0, 1) := by decide +kernel
theorem dX12_nextWord_24 : decode cX12_nextWord 24 = .ok (.getfield 195, 3) := by decide +kernel
theorem dX12_nextWord_27 : decode cX12_nextWord 27 = .ok (.aload_n 0, 1) := by decide +kernel
theorem dX12_nextWord_28 : decode cX12_nextWord 28 = .ok (.getfield 201, 3) := by decide +kernel
theorem dX12_nextWord_31 : decode cX12_nextWord 31 = .ok (.isub, 1) := by decide +kernel
theorem dX12_nextWord_32 : decode cX12_nextWord 32 = .ok (.bipush 7, 2) := by decide +kernel
theorem dX12_nextWord_34 : decode cX12_nextWord 34 = .ok (.if_icmp .ge 24, 3) := by decide +kernel
theorem dX12_nextWord_37 : decode cX12_nextWord 37 = .ok (.aload_n 0, 1) := by decide +kernel
theorem dX12_nextWord_38 : decode cX12_nextWord 38 = .ok (.aload_n 0, 1) := by decide +kernel
theorem dX12_nextWord_39 : decode cX12_nextWord 39 = .ok (.getfield 217, 3) := by decide +kernel
theorem dX12_nextWord_42 : decode cX12_nextWord 42 = .ok (.bipush 8, 2) := by decide +kernel
theorem dX12_nextWord_44 : decode cX12_nextWord 44 = .ok (.lshl, 1) := by decide +kernel
theorem dX12_nextWord_45 : decode cX12_nextWord 45 = .ok (.aload_n 0, 1) := by decide +kernel
theorem dX12_nextWord_46 : decode cX12_nextWord 46 = .ok (.aload_n 0, 1) := by decide +kernel
theorem dX12_nextWord_47 : decode cX12_nextWord 47 = .ok (.getfield 195, 3) := by decide +kernel
theorem dX12_nextWord_50 : decode cX12_nextWord 50 = .ok (.invokevirtual 198, 3) := by decide +kernel
theorem dX12_nextWord_53 : decode cX12_nextWord 53 = .ok (.i2l, 1) := by decide +kernel
theorem dX12_nextWord_54 : decode cX12_nextWord 54 = .ok (.lor, 1) := by decide +kernel
theorem dX12_nextWord_55 : decode cX12_nextWord 55 = .ok (.putfield 217, 3) := by decide +kernel
theorem dX12_nextWord_58 : decode cX12_nextWord 58 = .ok (.aload_n 0, 1) := by decide +kernel
theorem dX12_nextWord_59 : decode cX12_nextWord 59 = .ok (.dup, 1) := by decide +kernel
theorem dX12_nextWord_60 : decode cX12_nextWord 60 = .ok (.getfield 195, 3) := by decide +kernel
theorem dX12_nextWord_63 : decode cX12_nextWord 63 = .ok (.iconst 1, 1) := by decide +kernel
theorem dX12_nextWord_64 : decode cX12_nextWord 64 = .ok (.iadd, 1) := by decide +kernel
theorem dX12_nextWord_65 : decode cX12_nextWord 65 = .ok (.putfield 195, 3) := by decide +kernel
theorem dX12_nextWord_68 : decode cX12_nextWord 68 = .ok (.goto (-63), 3) := by decide +kernel
theorem dX12_nextWord_71 : decode cX12_nextWord 71 = .ok (.aload_n 0, 1) := by decide +kernel
theorem dX12_nextWord_72 : decode cX12_nextWord 72 = .ok (.aload_n 0, 1) := by decide +kernel
theorem dX12_nextWord_73 : decode cX12_nextWord 73 = .ok (.getfield 195, 3) := by decide +kernel
theorem dX12_nextWord_76 : decode cX12_nextWord 76 = .ok (.aload_n 0, 1) := by decide +kernel
theorem dX12_nextWord_77 : decode cX12_nextWord 77 = .ok (.getfield 201, 3) := by decide +kernel
theorem dX12_nextWord_80 : decode cX12_nextWord 80 = .ok (.isub, 1) := by decide +kernel
theorem dX12_nextWord_81 : decode cX12_nextWord 81 = .ok (.bipush 7, 2) := by decide +kernel
theorem dX12_nextWord_83 : decode cX12_nextWord 83 = .ok (.if_icmp .le 7, 3) := by decide +kernel
theorem dX12_nextWord_86 : decode cX12_nextWord 86 = .ok (.iconst 0, 1) := by decide +kernel
theorem dX12_nextWord_87 : decode cX12_nextWord 87 = .ok (.goto 4, 3) := by decide +kernel
theorem dX12_nextWord_90 : decode cX12_nextWord 90 = .ok (.iconst 2, 1) := by decide +kernel
theorem dX12_nextWord_91 : decode cX12_nextWord 91 = .ok (.putfield 204, 3) := by decide +kernel
theorem dX12_nextWord_94 : decode cX12_nextWord 94 = .ok (.return_, 1) := by decide +kernel
set_option maxRecDepth 100000 in
theorem ggX12_nextWhole_X12_byteAt_p1 : ∀ w ∈ ([.fieldLink RX12 189 "BondCalendarsModel" "size" "I", .fieldLink RX12 60 "BondCalendarsModel" "tape" "[B"] : List Cond), w ∈ wsX12_nextWhole := List.forall_mem_cons.mpr ⟨(List.mem_cons_of_mem _ (List.mem_append_left _ (List.mem_of_getElem? (i := 9) rfl))), List.forall_mem_cons.mpr ⟨(List.mem_cons_of_mem _ (List.mem_append_left _ (List.mem_of_getElem? (i := 10) rfl))), (fun _ h => absurd h List.not_mem_nil)⟩⟩
set_option maxRecDepth 100000 in
theorem ggX12_nextWhole_X12_byteAt : GoodIn wsX12_nextWhole wsX12_byteAt := goodIn_sub (fun w h => (List.mem_cons.mp h).elim (fun e => e ▸ ((List.mem_cons_of_mem _ (List.mem_append_left _ (List.mem_of_getElem? (i := 8) rfl))) : Cond.code yX12_byteAt cX12_byteAt 2 (some .int) ∈ wsX12_nextWhole)) (fun h => (List.mem_append.mp h).elim (fun h => ggX12_nextWhole_X12_byteAt_p1 w h) (fun h => (List.mem_cons_of_mem _ (List.mem_append_right _ h))))) (by decide +kernel)
set_option maxRecDepth 20000 in
theorem gX12_nextWhole_X12_byteAt : GoodIn wsX12_nextWhole (wsV RX12 198 RX12 yX12_byteAt wsX12_byteAt) := goodIn_app (goodIn_of _ (by decide +kernel)) ggX12_nextWhole_X12_byteAt
set_option maxRecDepth 20000 in
theorem ggX12_nextWhole_X12_in : GoodIn wsX12_nextWhole wsX12_in := goodIn_r _ [14] (by decide +kernel) (by decide +kernel)
set_option maxRecDepth 20000 in
theorem gX12_nextWhole_X12_in : GoodIn wsX12_nextWhole (va_wsS RX12 132 yX12_in wsX12_in) := goodIn_app (goodIn_of _ (by decide +kernel)) ggX12_nextWhole_X12_in
theorem dX12_nextWhole_0 : decode cX12_nextWhole 0 = .ok (.aload_n 0, 1) := by decide +kernel
theorem dX12_nextWhole_1 : decode cX12_nextWhole 1 = .ok (.iconst 0, 1) := by decide +kernel
theorem dX12_nextWhole_2 : decode cX12_nextWhole 2 = .ok (.putfield 220, 3) := by decide +kernel
theorem dX12_nextWhole_5 : decode cX12_nextWhole 5 = .ok (.aload_n 0, 1) := by decide +kernel
theorem dX12_nextWhole_6 : decode cX12_nextWhole 6 = .ok (.aload_n 0, 1) := by decide +kernel
theorem dX12_nextWhole_7 : decode cX12_nextWhole 7 = .ok (.getfield 195, 3) := by decide +kernel
theorem dX12_nextWhole_10 : decode cX12_nextWhole 10 = .ok (.invokevirtual 198, 3) := by decide +kernel
theorem dX12_nextWhole_13 : decode cX12_nextWhole 13 = .ok (.bipush 48, 2) := by decide +kernel
theorem dX12_nextWhole_15 : decode cX12_nextWhole 15 = .ok (.bipush 57, 2) := by decide +kernel
theorem dX12_nextWhole_17 : decode cX12_nextWhole 17 = .ok (.invokestatic 132, 3) := by decide +kernel
theorem dX12_nextWhole_20 : decode cX12_nextWhole 20 = .ok (.ifCond .eq 53, 3) := by decide +kernel
theorem dX12_nextWhole_23 : decode cX12_nextWhole 23 = .ok (.aload_n 0, 1) := by decide +kernel
theorem dX12_nextWhole_24 : decode cX12_nextWhole 24 = .ok (.getfield 195, 3) := by decide +kernel
theorem dX12_nextWhole_27 : decode cX12_nextWhole 27 = .ok (.aload_n 0, 1) := by decide +kernel
theorem dX12_nextWhole_28 : decode cX12_nextWhole 28 = .ok (.getfield 201, 3) := by decide +kernel
theorem dX12_nextWhole_31 : decode cX12_nextWhole 31 = .ok (.isub, 1) := by decide +kernel
theorem dX12_nextWhole_32 : decode cX12_nextWhole 32 = .ok (.bipush 8, 2) := by decide +kernel
theorem dX12_nextWhole_34 : decode cX12_nextWhole 34 = .ok (.if_icmp .ge 26, 3) := by decide +kernel
theorem dX12_nextWhole_37 : decode cX12_nextWhole 37 = .ok (.aload_n 0, 1) := by decide +kernel
theorem dX12_nextWhole_38 : decode cX12_nextWhole 38 = .ok (.bipush 10, 2) := by decide +kernel
theorem dX12_nextWhole_40 : decode cX12_nextWhole 40 = .ok (.aload_n 0, 1) := by decide +kernel
theorem dX12_nextWhole_41 : decode cX12_nextWhole 41 = .ok (.getfield 220, 3) := by decide +kernel
theorem dX12_nextWhole_44 : decode cX12_nextWhole 44 = .ok (.imul, 1) := by decide +kernel
theorem dX12_nextWhole_45 : decode cX12_nextWhole 45 = .ok (.aload_n 0, 1) := by decide +kernel
theorem dX12_nextWhole_46 : decode cX12_nextWhole 46 = .ok (.aload_n 0, 1) := by decide +kernel
theorem dX12_nextWhole_47 : decode cX12_nextWhole 47 = .ok (.getfield 195, 3) := by decide +kernel
theorem dX12_nextWhole_50 : decode cX12_nextWhole 50 = .ok (.invokevirtual 198, 3) := by decide +kernel
theorem dX12_nextWhole_53 : decode cX12_nextWhole 53 = .ok (.iadd, 1) := by decide +kernel
theorem dX12_nextWhole_54 : decode cX12_nextWhole 54 = .ok (.bipush 48, 2) := by decide +kernel
theorem dX12_nextWhole_56 : decode cX12_nextWhole 56 = .ok (.isub, 1) := by decide +kernel
theorem dX12_nextWhole_57 : decode cX12_nextWhole 57 = .ok (.putfield 220, 3) := by decide +kernel
theorem dX12_nextWhole_60 : decode cX12_nextWhole 60 = .ok (.aload_n 0, 1) := by decide +kernel
theorem dX12_nextWhole_61 : decode cX12_nextWhole 61 = .ok (.dup, 1) := by decide +kernel
theorem dX12_nextWhole_62 : decode cX12_nextWhole 62 = .ok (.getfield 195, 3) := by decide +kernel
theorem dX12_nextWhole_65 : decode cX12_nextWhole 65 = .ok (.iconst 1, 1) := by decide +kernel
theorem dX12_nextWhole_66 : decode cX12_nextWhole 66 = .ok (.iadd, 1) := by decide +kernel
theorem dX12_nextWhole_67 : decode cX12_nextWhole 67 = .ok (.putfield 195, 3) := by decide +kernel
theorem dX12_nextWhole_70 : decode cX12_nextWhole 70 = .ok (.goto (-65), 3) := by decide +kernel
theorem dX12_nextWhole_73 : decode cX12_nextWhole 73 = .ok (.aload_n 0, 1) := by decide +kernel
theorem dX12_nextWhole_74 : decode cX12_nextWhole 74 = .ok (.aload_n 0, 1) := by decide +kernel
theorem dX12_nextWhole_75 : decode cX12_nextWhole 75 = .ok (.getfield 195, 3) := by decide +kernel
theorem dX12_nextWhole_78 : decode cX12_nextWhole 78 = .ok (.aload_n 0, 1) := by decide +kernel
theorem dX12_nextWhole_79 : decode cX12_nextWhole 79 = .ok (.getfield 201, 3) := by decide +kernel
theorem dX12_nextWhole_82 : decode cX12_nextWhole 82 = .ok (.isub, 1) := by decide +kernel
theorem dX12_nextWhole_83 : decode cX12_nextWhole 83 = .ok (.bipush 8, 2) := by decide +kernel
theorem dX12_nextWhole_85 : decode cX12_nextWhole 85 = .ok (.if_icmp .le 7, 3) := by decide +kernel
theorem dX12_nextWhole_88 : decode cX12_nextWhole 88 = .ok (.iconst 0, 1) := by decide +kernel
theorem dX12_nextWhole_89 : decode cX12_nextWhole 89 = .ok (.goto 4, 3) := by decide +kernel
theorem dX12_nextWhole_92 : decode cX12_nextWhole 92 = .ok (.iconst 3, 1) := by decide +kernel
theorem dX12_nextWhole_93 : decode cX12_nextWhole 93 = .ok (.putfield 204, 3) := by decide +kernel
theorem dX12_nextWhole_96 : decode cX12_nextWhole 96 = .ok (.return_, 1) := by decide +kernel
theorem dX12_nextSign_0 : decode cX12_nextSign 0 = .ok (.aload_n 0, 1) := by decide +kernel
theorem dX12_nextSign_1 : decode cX12_nextSign 1 = .ok (.iload_n 1, 1) := by decide +kernel
theorem dX12_nextSign_2 : decode cX12_nextSign 2 = .ok (.bipush 59, 2) := by decide +kernel
theorem dX12_nextSign_4 : decode cX12_nextSign 4 = .ok (.if_icmp .ne 7, 3) := by decide +kernel
theorem dX12_nextSign_7 : decode cX12_nextSign 7 = .ok (.iconst 4, 1) := by decide +kernel
theorem dX12_nextSign_8 : decode cX12_nextSign 8 = .ok (.goto 4, 3) := by decide +kernel
theorem dX12_nextSign_11 : decode cX12_nextSign 11 = .ok (.iconst 0, 1) := by decide +kernel
theorem dX12_nextSign_12 : decode cX12_nextSign 12 = .ok (.putfield 204, 3) := by decide +kernel
theorem dX12_nextSign_15 : decode cX12_nextSign 15 = .ok (.iload_n 1, 1) := by decide +kernel
theorem dX12_nextSign_16 : decode cX12_nextSign 16 = .ok (.bipush 59, 2) := by decide +kernel
theorem dX12_nextSign_18 : decode cX12_nextSign 18 = .ok (.if_icmp .ne 13, 3) := by decide +kernel
theorem dX12_nextSign_21 : decode cX12_nextSign 21 = .ok (.aload_n 0, 1) := by decide +kernel
theorem dX12_nextSign_22 : decode cX12_nextSign 22 = .ok (.dup, 1) := by decide +kernel
theorem dX12_nextSign_23 : decode cX12_nextSign 23 = .ok (.getfield 195, 3) := by decide +kernel
theorem dX12_nextSign_26 : decode cX12_nextSign 26 = .ok (.iconst 1, 1) := by decide +kernel
theorem dX12_nextSign_27 : decode cX12_nextSign 27 = .ok (.iadd, 1) := by decide +kernel
theorem dX12_nextSign_28 : decode cX12_nextSign 28 = .ok (.putfield 195, 3) := by decide +kernel
theorem dX12_nextSign_31 : decode cX12_nextSign 31 = .ok (.return_, 1) := by decide +kernel
theorem dX12_wrong_0 : decode cX12_wrong 0 = .ok (.aload_n 0, 1) := by decide +kernel
theorem dX12_wrong_1 : decode cX12_wrong 1 = .ok (.getfield 192, 3) := by decide +kernel
theorem dX12_wrong_4 : decode cX12_wrong 4 = .ok (.ifCond .ne 8, 3) := by decide +kernel
theorem dX12_wrong_7 : decode cX12_wrong 7 = .ok (.aload_n 0, 1) := by decide +kernel
theorem dX12_wrong_8 : decode cX12_wrong 8 = .ok (.iload_n 1, 1) := by decide +kernel
theorem dX12_wrong_9 : decode cX12_wrong 9 = .ok (.putfield 192, 3) := by decide +kernel
theorem dX12_wrong_12 : decode cX12_wrong 12 = .ok (.aload_n 0, 1) := by decide +kernel
theorem dX12_wrong_13 : decode cX12_wrong 13 = .ok (.iconst 0, 1) := by decide +kernel
theorem dX12_wrong_14 : decode cX12_wrong 14 = .ok (.putfield 204, 3) := by decide +kernel
theorem dX12_wrong_17 : decode cX12_wrong 17 = .ok (.return_, 1) := by decide +kernel
set_option maxRecDepth 100000 in
theorem ggX12_wholeAt_X12_wrong_p1 : ∀ w ∈ ([.fieldLink RX12 192 "BondCalendarsModel" "fault" "I", .fieldLink RX12 204 "BondCalendarsModel" "kind" "I"] : List Cond), w ∈ wsX12_wholeAt := List.forall_mem_cons.mpr ⟨(List.mem_cons_of_mem _ (List.mem_append_left _ (List.mem_of_getElem? (i := 7) rfl))), List.forall_mem_cons.mpr ⟨(List.mem_cons_of_mem _ (List.mem_append_left _ (List.mem_of_getElem? (i := 0) rfl))), (fun _ h => absurd h List.not_mem_nil)⟩⟩
set_option maxRecDepth 100000 in
theorem ggX12_wholeAt_X12_wrong : GoodIn wsX12_wholeAt wsX12_wrong := goodIn_sub (fun w h => (List.mem_cons.mp h).elim (fun e => e ▸ ((List.mem_cons_of_mem _ (List.mem_append_left _ (List.mem_of_getElem? (i := 6) rfl))) : Cond.code yX12_wrong cX12_wrong 2 none ∈ wsX12_wholeAt)) (fun h => (List.mem_append.mp h).elim (fun h => ggX12_wholeAt_X12_wrong_p1 w h) (fun h => (List.mem_cons_of_mem _ (List.mem_append_right _ h))))) (by decide +kernel)
set_option maxRecDepth 20000 in
theorem gX12_wholeAt_X12_wrong : GoodIn wsX12_wholeAt (wsV RX12 237 RX12 yX12_wrong wsX12_wrong) := goodIn_app (goodIn_of _ (by decide +kernel)) ggX12_wholeAt_X12_wrong
set_option maxRecDepth 20000 in
theorem ggX12_wholeAt_X12_in : GoodIn wsX12_wholeAt wsX12_in := goodIn_r _ [11] (by decide +kernel) (by decide +kernel)
set_option maxRecDepth 20000 in
theorem gX12_wholeAt_X12_in : GoodIn wsX12_wholeAt (va_wsS RX12 132 yX12_in wsX12_in) := goodIn_app (goodIn_of _ (by decide +kernel)) ggX12_wholeAt_X12_in
theorem dX12_wholeAt_0 : decode cX12_wholeAt 0 = .ok (.aload_n 0, 1) := by decide +kernel
theorem dX12_wholeAt_1 : decode cX12_wholeAt 1 = .ok (.getfield 204, 3) := by decide +kernel
theorem dX12_wholeAt_4 : decode cX12_wholeAt 4 = .ok (.iconst 3, 1) := by decide +kernel
theorem dX12_wholeAt_5 : decode cX12_wholeAt 5 = .ok (.if_icmp .eq 11, 3) := by decide +kernel
theorem dX12_wholeAt_8 : decode cX12_wholeAt 8 = .ok (.aload_n 0, 1) := by decide +kernel
theorem dX12_wholeAt_9 : decode cX12_wholeAt 9 = .ok (.iconst 1, 1) := by decide +kernel
theorem dX12_wholeAt_10 : decode cX12_wholeAt 10 = .ok (.invokevirtual 237, 3) := by decide +kernel
theorem dX12_wholeAt_13 : decode cX12_wholeAt 13 = .ok (.goto 20, 3) := by decide +kernel
theorem dX12_wholeAt_16 : decode cX12_wholeAt 16 = .ok (.aload_n 0, 1) := by decide +kernel
theorem dX12_wholeAt_17 : decode cX12_wholeAt 17 = .ok (.getfield 220, 3) := by decide +kernel
theorem dX12_wholeAt_20 : decode cX12_wholeAt 20 = .ok (.iload_n 1, 1) := by decide +kernel
theorem dX12_wholeAt_21 : decode cX12_wholeAt 21 = .ok (.iload_n 2, 1) := by decide +kernel
theorem dX12_wholeAt_22 : decode cX12_wholeAt 22 = .ok (.invokestatic 132, 3) := by decide +kernel
theorem dX12_wholeAt_25 : decode cX12_wholeAt 25 = .ok (.ifCond .ne 8, 3) := by decide +kernel
theorem dX12_wholeAt_28 : decode cX12_wholeAt 28 = .ok (.aload_n 0, 1) := by decide +kernel
theorem dX12_wholeAt_29 : decode cX12_wholeAt 29 = .ok (.iconst 2, 1) := by decide +kernel
theorem dX12_wholeAt_30 : decode cX12_wholeAt 30 = .ok (.invokevirtual 237, 3) := by decide +kernel
theorem dX12_wholeAt_33 : decode cX12_wholeAt 33 = .ok (.aload_n 0, 1) := by decide +kernel
theorem dX12_wholeAt_34 : decode cX12_wholeAt 34 = .ok (.getfield 220, 3) := by decide +kernel
theorem dX12_wholeAt_37 : decode cX12_wholeAt 37 = .ok (.ireturn, 1) := by decide +kernel
set_option maxRecDepth 100000 in
theorem ggX12_readWhole_X12_wholeAt_p1 : ∀ w ∈ ([.fieldLink RX12 204 "BondCalendarsModel" "kind" "I", .fieldLink RX12 220 "BondCalendarsModel" "number" "I", .methodLink RX12 237 yX12_wrong, .instanceMethod yX12_wrong, .selects RX12 yX12_wrong yX12_wrong, .initialized RX12, .code yX12_wrong cX12_wrong 2 none, .fieldLink RX12 192 "BondCalendarsModel" "fault" "I", .methodLink RX12 132 yX12_in, .static yX12_in, .code yX12_in cX12_in 3 (some .boolean)] : List Cond), w ∈ wsX12_readWhole := List.forall_mem_cons.mpr ⟨(List.mem_cons_of_mem _ (List.mem_append_left _ (List.mem_append_left _ (List.mem_of_getElem? (l := wsX12_readWhole_r1) (i := 5) rfl)))), List.forall_mem_cons.mpr ⟨(List.mem_cons_of_mem _ (List.mem_append_left _ (List.mem_append_left _ (List.mem_of_getElem? (l := wsX12_readWhole_r1) (i := 6) rfl)))), List.forall_mem_cons.mpr ⟨(List.mem_cons_of_mem _ (List.mem_append_left _ (List.mem_append_left _ (List.mem_of_getElem? (l := wsX12_readWhole_r1) (i := 7) rfl)))), List.forall_mem_cons.mpr ⟨(List.mem_cons_of_mem _ (List.mem_append_left _ (List.mem_append_left _ (List.mem_of_getElem? (l := wsX12_readWhole_r1) (i := 8) rfl)))), List.forall_mem_cons.mpr ⟨(List.mem_cons_of_mem _ (List.mem_append_left _ (List.mem_append_left _ (List.mem_of_getElem? (l := wsX12_readWhole_r1) (i := 9) rfl)))), List.forall_mem_cons.mpr ⟨(List.mem_cons_of_mem _ (List.mem_append_left _ (List.mem_append_left _ (List.mem_of_getElem? (l := wsX12_readWhole_r1) (i := 3) rfl)))), List.forall_mem_cons.mpr ⟨(List.mem_cons_of_mem _ (List.mem_append_left _ (List.mem_append_left _ (List.mem_of_getElem? (l := wsX12_readWhole_r1) (i := 10) rfl)))), List.forall_mem_cons.mpr ⟨(List.mem_cons_of_mem _ (List.mem_append_left _ (List.mem_append_left _ (List.mem_of_getElem? (l := wsX12_readWhole_r1) (i := 11) rfl)))), List.forall_mem_cons.mpr ⟨(List.mem_cons_of_mem _ (List.mem_append_left _ (List.mem_append_left _ (List.mem_of_getElem? (l := wsX12_readWhole_r1) (i := 12) rfl)))), List.forall_mem_cons.mpr ⟨(List.mem_cons_of_mem _ (List.mem_append_left _ (List.mem_append_left _ (List.mem_of_getElem? (l := wsX12_readWhole_r1) (i := 13) rfl)))), List.forall_mem_cons.mpr ⟨(List.mem_cons_of_mem _ (List.mem_append_left _ (List.mem_append_left _ (List.mem_of_getElem? (l := wsX12_readWhole_r1) (i := 14) rfl)))), (fun _ h => absurd h List.not_mem_nil)⟩⟩⟩⟩⟩⟩⟩⟩⟩⟩⟩
set_option maxRecDepth 100000 in
theorem ggX12_readWhole_X12_wholeAt : GoodIn wsX12_readWhole wsX12_wholeAt := goodIn_sub (fun w h => (List.mem_cons.mp h).elim (fun e => e ▸ ((List.mem_cons_of_mem _ (List.mem_append_left _ (List.mem_append_left _ (List.mem_of_getElem? (l := wsX12_readWhole_r1) (i := 4) rfl)))) : Cond.code yX12_wholeAt cX12_wholeAt 3 (some .int) ∈ wsX12_readWhole)) (fun h => (List.mem_append.mp h).elim (fun h => ggX12_readWhole_X12_wholeAt_p1 w h) (fun h => (List.mem_cons_of_mem _ (List.mem_append_right _ h))))) (by decide +kernel)
set_option maxRecDepth 20000 in
theorem gX12_readWhole_X12_wholeAt : GoodIn wsX12_readWhole (wsV RX12 243 RX12 yX12_wholeAt wsX12_wholeAt) := goodIn_app (goodIn_of _ (by decide +kernel)) ggX12_readWhole_X12_wholeAt
set_option maxRecDepth 100000 in
theorem ggX12_readWhole_X12_next_p1 : ∀ w ∈ wsX12_next_r1, w ∈ wsX12_readWhole := List.forall_mem_cons.mpr ⟨(List.mem_cons_of_mem _ (List.mem_append_left _ (List.mem_append_left _ (List.mem_of_getElem? (l := wsX12_readWhole_r1) (i := 11) rfl)))), List.forall_mem_cons.mpr ⟨(List.mem_cons_of_mem _ (List.mem_append_left _ (List.mem_append_left _ (List.mem_of_getElem? (l := wsX12_readWhole_r1) (i := 19) rfl)))), List.forall_mem_cons.mpr ⟨(List.mem_cons_of_mem _ (List.mem_append_left _ (List.mem_append_left _ (List.mem_of_getElem? (l := wsX12_readWhole_r1) (i := 20) rfl)))), List.forall_mem_cons.mpr ⟨(List.mem_cons_of_mem _ (List.mem_append_left _ (List.mem_append_left _ (List.mem_of_getElem? (l := wsX12_readWhole_r1) (i := 5) rfl)))), List.forall_mem_cons.mpr ⟨(List.mem_cons_of_mem _ (List.mem_append_left _ (List.mem_append_left _ (List.mem_of_getElem? (l := wsX12_readWhole_r1) (i := 21) rfl)))), List.forall_mem_cons.mpr ⟨(List.mem_cons_of_mem _ (List.mem_append_left _ (List.mem_append_left _ (List.mem_of_getElem? (l := wsX12_readWhole_r1) (i := 22) rfl)))), List.forall_mem_cons.mpr ⟨(List.mem_cons_of_mem _ (List.mem_append_left _ (List.mem_append_left _ (List.mem_of_getElem? (l := wsX12_readWhole_r1) (i := 23) rfl)))), List.forall_mem_cons.mpr ⟨(List.mem_cons_of_mem _ (List.mem_append_left _ (List.mem_append_left _ (List.mem_of_getElem? (l := wsX12_readWhole_r1) (i := 3) rfl)))), List.forall_mem_cons.mpr ⟨(List.mem_cons_of_mem _ (List.mem_append_left _ (List.mem_append_right _ (List.mem_of_getElem? (l := wsX12_readWhole_r2) (i := 0) rfl)))), List.forall_mem_cons.mpr ⟨(List.mem_cons_of_mem _ (List.mem_append_left _ (List.mem_append_right _ (List.mem_of_getElem? (l := wsX12_readWhole_r2) (i := 1) rfl)))), List.forall_mem_cons.mpr ⟨(List.mem_cons_of_mem _ (List.mem_append_left _ (List.mem_append_right _ (List.mem_of_getElem? (l := wsX12_readWhole_r2) (i := 2) rfl)))), List.forall_mem_cons.mpr ⟨(List.mem_cons_of_mem _ (List.mem_append_left _ (List.mem_append_left _ (List.mem_of_getElem? (l := wsX12_readWhole_r1) (i := 12) rfl)))), List.forall_mem_cons.mpr ⟨(List.mem_cons_of_mem _ (List.mem_append_left _ (List.mem_append_left _ (List.mem_of_getElem? (l := wsX12_readWhole_r1) (i := 13) rfl)))), List.forall_mem_cons.mpr ⟨(List.mem_cons_of_mem _ (List.mem_append_left _ (List.mem_append_left _ (List.mem_of_getElem? (l := wsX12_readWhole_r1) (i := 14) rfl)))), List.forall_mem_cons.mpr ⟨(List.mem_cons_of_mem _ (List.mem_append_left _ (List.mem_append_right _ (List.mem_of_getElem? (l := wsX12_readWhole_r2) (i := 3) rfl)))), List.forall_mem_cons.mpr ⟨(List.mem_cons_of_mem _ (List.mem_append_left _ (List.mem_append_right _ (List.mem_of_getElem? (l := wsX12_readWhole_r2) (i := 4) rfl)))), List.forall_mem_cons.mpr ⟨(List.mem_cons_of_mem _ (List.mem_append_left _ (List.mem_append_right _ (List.mem_of_getElem? (l := wsX12_readWhole_r2) (i := 5) rfl)))), List.forall_mem_cons.mpr ⟨(List.mem_cons_of_mem _ (List.mem_append_left _ (List.mem_append_right _ (List.mem_of_getElem? (l := wsX12_readWhole_r2) (i := 6) rfl)))), List.forall_mem_cons.mpr ⟨(List.mem_cons_of_mem _ (List.mem_append_left _ (List.mem_append_right _ (List.mem_of_getElem? (l := wsX12_readWhole_r2) (i := 7) rfl)))), List.forall_mem_cons.mpr ⟨(List.mem_cons_of_mem _ (List.mem_append_left _ (List.mem_append_right _ (List.mem_of_getElem? (l := wsX12_readWhole_r2) (i := 8) rfl)))), List.forall_mem_cons.mpr ⟨(List.mem_cons_of_mem _ (List.mem_append_left _ (List.mem_append_right _ (List.mem_of_getElem? (l := wsX12_readWhole_r2) (i := 9) rfl)))), List.forall_mem_cons.mpr ⟨(List.mem_cons_of_mem _ (List.mem_append_left _ (List.mem_append_right _ (List.mem_of_getElem? (l := wsX12_readWhole_r2) (i := 10) rfl)))), List.forall_mem_cons.mpr ⟨(List.mem_cons_of_mem _ (List.mem_append_left _ (List.mem_append_right _ (List.mem_of_getElem? (l := wsX12_readWhole_r2) (i := 11) rfl)))), List.forall_mem_cons.mpr ⟨(List.mem_cons_of_mem _ (List.mem_append_left _ (List.mem_append_left _ (List.mem_of_getElem? (l := wsX12_readWhole_r1) (i := 6) rfl)))), (fun _ h => absurd h List.not_mem_nil)⟩⟩⟩⟩⟩⟩⟩⟩⟩⟩⟩⟩⟩⟩⟩⟩⟩⟩⟩⟩⟩⟩⟩⟩
set_option maxRecDepth 100000 in
theorem ggX12_readWhole_X12_next_p2 : ∀ w ∈ wsX12_next_r2, w ∈ wsX12_readWhole := List.forall_mem_cons.mpr ⟨(List.mem_cons_of_mem _ (List.mem_append_left _ (List.mem_append_right _ (List.mem_of_getElem? (l := wsX12_readWhole_r2) (i := 12) rfl)))), List.forall_mem_cons.mpr ⟨(List.mem_cons_of_mem _ (List.mem_append_left _ (List.mem_append_right _ (List.mem_of_getElem? (l := wsX12_readWhole_r2) (i := 13) rfl)))), List.forall_mem_cons.mpr ⟨(List.mem_cons_of_mem _ (List.mem_append_left _ (List.mem_append_right _ (List.mem_of_getElem? (l := wsX12_readWhole_r2) (i := 14) rfl)))), List.forall_mem_cons.mpr ⟨(List.mem_cons_of_mem _ (List.mem_append_left _ (List.mem_append_right _ (List.mem_of_getElem? (l := wsX12_readWhole_r2) (i := 15) rfl)))), (fun _ h => absurd h List.not_mem_nil)⟩⟩⟩⟩
set_option maxRecDepth 100000 in
theorem ggX12_readWhole_X12_next : GoodIn wsX12_readWhole wsX12_next := goodIn_sub (fun w h => (List.mem_cons.mp h).elim (fun e => e ▸ ((List.mem_cons_of_mem _ (List.mem_append_left _ (List.mem_append_left _ (List.mem_of_getElem? (l := wsX12_readWhole_r1) (i := 18) rfl)))) : Cond.code yX12_next cX12_next 2 none ∈ wsX12_readWhole)) (fun h => (List.mem_append.mp h).elim (fun h => (List.mem_append.mp h).elim (fun h => ggX12_readWhole_X12_next_p1 w h) (fun h => ggX12_readWhole_X12_next_p2 w h)) (fun h => (List.mem_cons_of_mem _ (List.mem_append_right _ h))))) (by decide +kernel)
set_option maxRecDepth 20000 in
theorem gX12_readWhole_X12_next : GoodIn wsX12_readWhole (wsV RX12 240 RX12 yX12_next wsX12_next) := goodIn_app (goodIn_of _ (by decide +kernel)) ggX12_readWhole_X12_next
theorem dX12_readWhole_0 : decode cX12_readWhole 0 = .ok (.aload_n 0, 1) := by decide +kernel
theorem dX12_readWhole_1 : decode cX12_readWhole 1 = .ok (.iload_n 1, 1) := by decide +kernel
theorem dX12_readWhole_2 : decode cX12_readWhole 2 = .ok (.iload_n 2, 1) := by decide +kernel
theorem dX12_readWhole_3 : decode cX12_readWhole 3 = .ok (.invokevirtual 243, 3) := by decide +kernel
theorem dX12_readWhole_6 : decode cX12_readWhole 6 = .ok (.istore_n 3, 1) := by decide +kernel
theorem dX12_readWhole_7 : decode cX12_readWhole 7 = .ok (.aload_n 0, 1) := by decide +kernel
theorem dX12_readWhole_8 : decode cX12_readWhole 8 = .ok (.invokevirtual 240, 3) := by decide +kernel
theorem dX12_readWhole_11 : decode cX12_readWhole 11 = .ok (.iload_n 3, 1) := by decide +kernel
theorem dX12_readWhole_12 : decode cX12_readWhole 12 = .ok (.ireturn, 1) := by decide +kernel
set_option maxRecDepth 100000 in
theorem ggX12_dateAt_X12_wrong_p1 : ∀ w ∈ ([.fieldLink RX12 192 "BondCalendarsModel" "fault" "I", .fieldLink RX12 204 "BondCalendarsModel" "kind" "I"] : List Cond), w ∈ wsX12_dateAt := List.forall_mem_cons.mpr ⟨(List.mem_cons_of_mem _ (List.mem_append_left _ (List.mem_of_getElem? (i := 7) rfl))), List.forall_mem_cons.mpr ⟨(List.mem_cons_of_mem _ (List.mem_append_left _ (List.mem_of_getElem? (i := 0) rfl))), (fun _ h => absurd h List.not_mem_nil)⟩⟩
set_option maxRecDepth 100000 in
theorem ggX12_dateAt_X12_wrong : GoodIn wsX12_dateAt wsX12_wrong := goodIn_sub (fun w h => (List.mem_cons.mp h).elim (fun e => e ▸ ((List.mem_cons_of_mem _ (List.mem_append_left _ (List.mem_of_getElem? (i := 6) rfl))) : Cond.code yX12_wrong cX12_wrong 2 none ∈ wsX12_dateAt)) (fun h => (List.mem_append.mp h).elim (fun h => ggX12_dateAt_X12_wrong_p1 w h) (fun h => (List.mem_cons_of_mem _ (List.mem_append_right _ h))))) (by decide +kernel)
set_option maxRecDepth 20000 in
theorem gX12_dateAt_X12_wrong : GoodIn wsX12_dateAt (wsV RX12 237 RX12 yX12_wrong wsX12_wrong) := goodIn_app (goodIn_of _ (by decide +kernel)) ggX12_dateAt_X12_wrong
set_option maxRecDepth 20000 in
theorem ggX12_dateAt_X12_isDate : GoodIn wsX12_dateAt wsX12_isDate := goodIn_r _ [11, 12, 13, 14, 15, 6, 16, 17, 18, 19] (by decide +kernel) (by decide +kernel)
set_option maxRecDepth 20000 in
theorem gX12_dateAt_X12_isDate : GoodIn wsX12_dateAt (va_wsS RX12 246 yX12_isDate wsX12_isDate) := goodIn_app (goodIn_of _ (by decide +kernel)) ggX12_dateAt_X12_isDate
theorem dX12_dateAt_0 : decode cX12_dateAt 0 = .ok (.aload_n 0, 1) := by decide +kernel
theorem dX12_dateAt_1 : decode cX12_dateAt 1 = .ok (.getfield 204, 3) := by decide +kernel
theorem dX12_dateAt_4 : decode cX12_dateAt 4 = .ok (.iconst 3, 1) := by decide +kernel
theorem dX12_dateAt_5 : decode cX12_dateAt 5 = .ok (.if_icmp .eq 11, 3) := by decide +kernel
theorem dX12_dateAt_8 : decode cX12_dateAt 8 = .ok (.aload_n 0, 1) := by decide +kernel
theorem dX12_dateAt_9 : decode cX12_dateAt 9 = .ok (.iconst 1, 1) := by decide +kernel
theorem dX12_dateAt_10 : decode cX12_dateAt 10 = .ok (.invokevirtual 237, 3) := by decide +kernel
theorem dX12_dateAt_13 : decode cX12_dateAt 13 = .ok (.goto 18, 3) := by decide +kernel
theorem dX12_dateAt_16 : decode cX12_dateAt 16 = .ok (.aload_n 0, 1) := by decide +kernel
theorem dX12_dateAt_17 : decode cX12_dateAt 17 = .ok (.getfield 220, 3) := by decide +kernel
theorem dX12_dateAt_20 : decode cX12_dateAt 20 = .ok (.invokestatic 246, 3) := by decide +kernel
theorem dX12_dateAt_23 : decode cX12_dateAt 23 = .ok (.ifCond .ne 8, 3) := by decide +kernel
theorem dX12_dateAt_26 : decode cX12_dateAt 26 = .ok (.aload_n 0, 1) := by decide +kernel
theorem dX12_dateAt_27 : decode cX12_dateAt 27 = .ok (.iconst 2, 1) := by decide +kernel
theorem dX12_dateAt_28 : decode cX12_dateAt 28 = .ok (.invokevirtual 237, 3) := by decide +kernel
theorem dX12_dateAt_31 : decode cX12_dateAt 31 = .ok (.aload_n 0, 1) := by decide +kernel
theorem dX12_dateAt_32 : decode cX12_dateAt 32 = .ok (.getfield 220, 3) := by decide +kernel
theorem dX12_dateAt_35 : decode cX12_dateAt 35 = .ok (.ireturn, 1) := by decide +kernel
