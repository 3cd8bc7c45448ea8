set_option maxRecDepth 100000 in
theorem ggX12_bond_X12_isBond_p1 : ∀ w ∈ ([.fieldLink RX12 358 "BondCalendarsModel" "bonds" "I"] : List Cond), w ∈ wsX12_bond := List.forall_mem_cons.mpr ⟨(List.mem_cons_of_mem _ (List.mem_append_left _ (List.mem_append_left _ (List.mem_of_getElem? (l := wsX12_bond_r1) (i := 15) rfl)))), (fun _ h => absurd h List.not_mem_nil)⟩
set_option maxRecDepth 100000 in
theorem ggX12_bond_X12_isBond : GoodIn wsX12_bond wsX12_isBond := goodIn_sub (fun w h => (List.mem_cons.mp h).elim (fun e => e ▸ ((List.mem_cons_of_mem _ (List.mem_append_left _ (List.mem_append_left _ (List.mem_of_getElem? (l := wsX12_bond_r1) (i := 14) rfl)))) : Cond.code yX12_isBond cX12_isBond 2 (some .boolean) ∈ wsX12_bond)) (fun h => (List.mem_append.mp h).elim (fun h => ggX12_bond_X12_isBond_p1 w h) (fun h => (List.mem_cons_of_mem _ (List.mem_append_right _ h))))) (by decide +kernel)
set_option maxRecDepth 20000 in
theorem gX12_bond_X12_isBond : GoodIn wsX12_bond (wsV RX12 438 RX12 yX12_isBond wsX12_isBond) := goodIn_app (goodIn_of _ (by decide +kernel)) ggX12_bond_X12_isBond
set_option maxRecDepth 100000 in
theorem ggX12_bond_X12_refused_p1 : ∀ w ∈ ([.fieldLink RX12 110 "BondCalendarsModel" "trouble" "I", .fieldLink RX12 9 "BondCalendarsModel" "wrongAt" "I"] : List Cond), w ∈ wsX12_bond := List.forall_mem_cons.mpr ⟨(List.mem_cons_of_mem _ (List.mem_append_left _ (List.mem_append_left _ (List.mem_of_getElem? (l := wsX12_bond_r1) (i := 20) rfl)))), List.forall_mem_cons.mpr ⟨(List.mem_cons_of_mem _ (List.mem_append_left _ (List.mem_append_left _ (List.mem_of_getElem? (l := wsX12_bond_r1) (i := 21) rfl)))), (fun _ h => absurd h List.not_mem_nil)⟩⟩
set_option maxRecDepth 100000 in
theorem ggX12_bond_X12_refused : GoodIn wsX12_bond wsX12_refused := goodIn_sub (fun w h => (List.mem_cons.mp h).elim (fun e => e ▸ ((List.mem_cons_of_mem _ (List.mem_append_left _ (List.mem_append_left _ (List.mem_of_getElem? (l := wsX12_bond_r1) (i := 19) rfl)))) : Cond.code yX12_refused cX12_refused 2 (some .int) ∈ wsX12_bond)) (fun h => (List.mem_append.mp h).elim (fun h => ggX12_bond_X12_refused_p1 w h) (fun h => (List.mem_cons_of_mem _ (List.mem_append_right _ h))))) (by decide +kernel)
set_option maxRecDepth 20000 in
theorem gX12_bond_X12_refused : GoodIn wsX12_bond (wsV RX12 113 RX12 yX12_refused wsX12_refused) := goodIn_app (goodIn_of _ (by decide +kernel)) ggX12_bond_X12_refused
set_option maxRecDepth 100000 in
theorem ggX12_bond_X12_good_p1 : ∀ w ∈ ([.fieldLink RX12 110 "BondCalendarsModel" "trouble" "I", .fieldLink RX12 9 "BondCalendarsModel" "wrongAt" "I"] : List Cond), w ∈ wsX12_bond := List.forall_mem_cons.mpr ⟨(List.mem_cons_of_mem _ (List.mem_append_left _ (List.mem_append_left _ (List.mem_of_getElem? (l := wsX12_bond_r1) (i := 20) rfl)))), List.forall_mem_cons.mpr ⟨(List.mem_cons_of_mem _ (List.mem_append_left _ (List.mem_append_left _ (List.mem_of_getElem? (l := wsX12_bond_r1) (i := 21) rfl)))), (fun _ h => absurd h List.not_mem_nil)⟩⟩
set_option maxRecDepth 100000 in
theorem ggX12_bond_X12_good : GoodIn wsX12_bond wsX12_good := goodIn_sub (fun w h => (List.mem_cons.mp h).elim (fun e => e ▸ ((List.mem_cons_of_mem _ (List.mem_append_left _ (List.mem_append_right _ (List.mem_of_getElem? (l := wsX12_bond_r2) (i := 1) rfl)))) : Cond.code yX12_good cX12_good 2 (some .int) ∈ wsX12_bond)) (fun h => (List.mem_append.mp h).elim (fun h => ggX12_bond_X12_good_p1 w h) (fun h => (List.mem_cons_of_mem _ (List.mem_append_right _ h))))) (by decide +kernel)
set_option maxRecDepth 20000 in
theorem gX12_bond_X12_good : GoodIn wsX12_bond (wsV RX12 117 RX12 yX12_good wsX12_good) := goodIn_app (goodIn_of _ (by decide +kernel)) ggX12_bond_X12_good
theorem dX12_bond_0 : decode cX12_bond 0 = .ok (.aload_n 0, 1) := by decide +kernel
theorem dX12_bond_1 : decode cX12_bond 1 = .ok (.iconst 0, 1) := by decide +kernel
theorem dX12_bond_2 : decode cX12_bond 2 = .ok (.putfield 107, 3) := by decide +kernel
theorem dX12_bond_5 : decode cX12_bond 5 = .ok (.aload_n 0, 1) := by decide +kernel
theorem dX12_bond_6 : decode cX12_bond 6 = .ok (.iload_n 1, 1) := by decide +kernel
theorem dX12_bond_7 : decode cX12_bond 7 = .ok (.invokevirtual 438, 3) := by decide +kernel
theorem dX12_bond_10 : decode cX12_bond 10 = .ok (.ifCond .ne 9, 3) := by decide +kernel
theorem dX12_bond_13 : decode cX12_bond 13 = .ok (.aload_n 0, 1) := by decide +kernel
theorem dX12_bond_14 : decode cX12_bond 14 = .ok (.iconst 1, 1) := by decide +kernel
theorem dX12_bond_15 : decode cX12_bond 15 = .ok (.invokevirtual 113, 3) := by decide +kernel
theorem dX12_bond_18 : decode cX12_bond 18 = .ok (.ireturn, 1) := by decide +kernel
theorem dX12_bond_19 : decode cX12_bond 19 = .ok (.iload_n 2, 1) := by decide +kernel
theorem dX12_bond_20 : decode cX12_bond 20 = .ok (.tableswitch 159 0 8 #[52, 63, 74, 85, 96, 107, 118, 137, 148], 52) := by decide +kernel
theorem dX12_bond_72 : decode cX12_bond 72 = .ok (.aload_n 0, 1) := by decide +kernel
theorem dX12_bond_73 : decode cX12_bond 73 = .ok (.aload_n 0, 1) := by decide +kernel
theorem dX12_bond_74 : decode cX12_bond 74 = .ok (.getfield 13, 3) := by decide +kernel
theorem dX12_bond_77 : decode cX12_bond 77 = .ok (.iload_n 1, 1) := by decide +kernel
theorem dX12_bond_78 : decode cX12_bond 78 = .ok (.iaload, 1) := by decide +kernel
theorem dX12_bond_79 : decode cX12_bond 79 = .ok (.invokevirtual 117, 3) := by decide +kernel
theorem dX12_bond_82 : decode cX12_bond 82 = .ok (.ireturn, 1) := by decide +kernel
theorem dX12_bond_83 : decode cX12_bond 83 = .ok (.aload_n 0, 1) := by decide +kernel
theorem dX12_bond_84 : decode cX12_bond 84 = .ok (.aload_n 0, 1) := by decide +kernel
theorem dX12_bond_85 : decode cX12_bond 85 = .ok (.getfield 17, 3) := by decide +kernel
theorem dX12_bond_88 : decode cX12_bond 88 = .ok (.iload_n 1, 1) := by decide +kernel
theorem dX12_bond_89 : decode cX12_bond 89 = .ok (.iaload, 1) := by decide +kernel
theorem dX12_bond_90 : decode cX12_bond 90 = .ok (.invokevirtual 117, 3) := by decide +kernel
theorem dX12_bond_93 : decode cX12_bond 93 = .ok (.ireturn, 1) := by decide +kernel
theorem dX12_bond_94 : decode cX12_bond 94 = .ok (.aload_n 0, 1) := by decide +kernel
theorem dX12_bond_95 : decode cX12_bond 95 = .ok (.aload_n 0, 1) := by decide +kernel
theorem dX12_bond_96 : decode cX12_bond 96 = .ok (.getfield 20, 3) := by decide +kernel
theorem dX12_bond_99 : decode cX12_bond 99 = .ok (.iload_n 1, 1) := by decide +kernel
theorem dX12_bond_100 : decode cX12_bond 100 = .ok (.iaload, 1) := by decide +kernel
theorem dX12_bond_101 : decode cX12_bond 101 = .ok (.invokevirtual 117, 3) := by decide +kernel
theorem dX12_bond_104 : decode cX12_bond 104 = .ok (.ireturn, 1) := by decide +kernel
theorem dX12_bond_105 : decode cX12_bond 105 = .ok (.aload_n 0, 1) := by decide +kernel
theorem dX12_bond_106 : decode cX12_bond 106 = .ok (.aload_n 0, 1) := by decide +kernel
theorem dX12_bond_107 : decode cX12_bond 107 = .ok (.getfield 23, 3) := by decide +kernel
theorem dX12_bond_110 : decode cX12_bond 110 = .ok (.iload_n 1, 1) := by decide +kernel
theorem dX12_bond_111 : decode cX12_bond 111 = .ok (.iaload, 1) := by decide +kernel
theorem dX12_bond_112 : decode cX12_bond 112 = .ok (.invokevirtual 117, 3) := by decide +kernel
theorem dX12_bond_115 : decode cX12_bond 115 = .ok (.ireturn, 1) := by decide +kernel
theorem dX12_bond_116 : decode cX12_bond 116 = .ok (.aload_n 0, 1) := by decide +kernel
theorem dX12_bond_117 : decode cX12_bond 117 = .ok (.aload_n 0, 1) := by decide +kernel
theorem dX12_bond_118 : decode cX12_bond 118 = .ok (.getfield 26, 3) := by decide +kernel
theorem dX12_bond_121 : decode cX12_bond 121 = .ok (.iload_n 1, 1) := by decide +kernel
theorem dX12_bond_122 : decode cX12_bond 122 = .ok (.iaload, 1) := by decide +kernel
theorem dX12_bond_123 : decode cX12_bond 123 = .ok (.invokevirtual 117, 3) := by decide +kernel
theorem dX12_bond_126 : decode cX12_bond 126 = .ok (.ireturn, 1) := by decide +kernel
theorem dX12_bond_127 : decode cX12_bond 127 = .ok (.aload_n 0, 1) := by decide +kernel
theorem dX12_bond_128 : decode cX12_bond 128 = .ok (.aload_n 0, 1) := by decide +kernel
theorem dX12_bond_129 : decode cX12_bond 129 = .ok (.getfield 29, 3) := by decide +kernel
theorem dX12_bond_132 : decode cX12_bond 132 = .ok (.iload_n 1, 1) := by decide +kernel
theorem dX12_bond_133 : decode cX12_bond 133 = .ok (.iaload, 1) := by decide +kernel
theorem dX12_bond_134 : decode cX12_bond 134 = .ok (.invokevirtual 117, 3) := by decide +kernel
theorem dX12_bond_137 : decode cX12_bond 137 = .ok (.ireturn, 1) := by decide +kernel
theorem dX12_bond_138 : decode cX12_bond 138 = .ok (.aload_n 0, 1) := by decide +kernel
theorem dX12_bond_139 : decode cX12_bond 139 = .ok (.aload_n 0, 1) := by decide +kernel
theorem dX12_bond_140 : decode cX12_bond 140 = .ok (.getfield 41, 3) := by decide +kernel
theorem dX12_bond_143 : decode cX12_bond 143 = .ok (.iload_n 1, 1) := by decide +kernel
theorem dX12_bond_144 : decode cX12_bond 144 = .ok (.baload, 1) := by decide +kernel
theorem dX12_bond_145 : decode cX12_bond 145 = .ok (.ifCond .eq 7, 3) := by decide +kernel
theorem dX12_bond_148 : decode cX12_bond 148 = .ok (.iconst 1, 1) := by decide +kernel
theorem dX12_bond_149 : decode cX12_bond 149 = .ok (.goto 4, 3) := by decide +kernel
theorem dX12_bond_152 : decode cX12_bond 152 = .ok (.iconst 0, 1) := by decide +kernel
theorem dX12_bond_153 : decode cX12_bond 153 = .ok (.invokevirtual 117, 3) := by decide +kernel
theorem dX12_bond_156 : decode cX12_bond 156 = .ok (.ireturn, 1) := by decide +kernel
theorem dX12_bond_157 : decode cX12_bond 157 = .ok (.aload_n 0, 1) := by decide +kernel
theorem dX12_bond_158 : decode cX12_bond 158 = .ok (.aload_n 0, 1) := by decide +kernel
theorem dX12_bond_159 : decode cX12_bond 159 = .ok (.getfield 32, 3) := by decide +kernel
theorem dX12_bond_162 : decode cX12_bond 162 = .ok (.iload_n 1, 1) := by decide +kernel
theorem dX12_bond_163 : decode cX12_bond 163 = .ok (.iaload, 1) := by decide +kernel
theorem dX12_bond_164 : decode cX12_bond 164 = .ok (.invokevirtual 117, 3) := by decide +kernel
theorem dX12_bond_167 : decode cX12_bond 167 = .ok (.ireturn, 1) := by decide +kernel
theorem dX12_bond_168 : decode cX12_bond 168 = .ok (.aload_n 0, 1) := by decide +kernel
theorem dX12_bond_169 : decode cX12_bond 169 = .ok (.aload_n 0, 1) := by decide +kernel
theorem dX12_bond_170 : decode cX12_bond 170 = .ok (.getfield 64, 3) := by decide +kernel
theorem dX12_bond_173 : decode cX12_bond 173 = .ok (.iload_n 1, 1) := by decide +kernel
theorem dX12_bond_174 : decode cX12_bond 174 = .ok (.iaload, 1) := by decide +kernel
theorem dX12_bond_175 : decode cX12_bond 175 = .ok (.invokevirtual 117, 3) := by decide +kernel
theorem dX12_bond_178 : decode cX12_bond 178 = .ok (.ireturn, 1) := by decide +kernel
theorem dX12_bond_179 : decode cX12_bond 179 = .ok (.aload_n 0, 1) := by decide +kernel
theorem dX12_bond_180 : decode cX12_bond 180 = .ok (.iconst 1, 1) := by decide +kernel
theorem dX12_bond_181 : decode cX12_bond 181 = .ok (.invokevirtual 113, 3) := by decide +kernel
theorem dX12_bond_184 : decode cX12_bond 184 = .ok (.ireturn, 1) := by decide +kernel
set_option maxRecDepth 20000 in
theorem ggX12_quote_X12_in : GoodIn wsX12_quote wsX12_in := goodIn_r _ [9] (by decide +kernel) (by decide +kernel)
set_option maxRecDepth 20000 in
theorem gX12_quote_X12_in : GoodIn wsX12_quote (va_wsS RX12 132 yX12_in wsX12_in) := goodIn_app (goodIn_of _ (by decide +kernel)) ggX12_quote_X12_in
set_option maxRecDepth 100000 in
theorem ggX12_quote_X12_refused_p1 : ∀ w ∈ ([.fieldLink RX12 110 "BondCalendarsModel" "trouble" "I", .fieldLink RX12 9 "BondCalendarsModel" "wrongAt" "I"] : List Cond), w ∈ wsX12_quote := List.forall_mem_cons.mpr ⟨(List.mem_cons_of_mem _ (List.mem_append_left _ (List.mem_of_getElem? (i := 13) rfl))), List.forall_mem_cons.mpr ⟨(List.mem_cons_of_mem _ (List.mem_append_left _ (List.mem_of_getElem? (i := 14) rfl))), (fun _ h => absurd h List.not_mem_nil)⟩⟩
set_option maxRecDepth 100000 in
theorem ggX12_quote_X12_refused : GoodIn wsX12_quote wsX12_refused := goodIn_sub (fun w h => (List.mem_cons.mp h).elim (fun e => e ▸ ((List.mem_cons_of_mem _ (List.mem_append_left _ (List.mem_of_getElem? (i := 12) rfl))) : Cond.code yX12_refused cX12_refused 2 (some .int) ∈ wsX12_quote)) (fun h => (List.mem_append.mp h).elim (fun h => ggX12_quote_X12_refused_p1 w h) (fun h => (List.mem_cons_of_mem _ (List.mem_append_right _ h))))) (by decide +kernel)
set_option maxRecDepth 20000 in
theorem gX12_quote_X12_refused : GoodIn wsX12_quote (wsV RX12 113 RX12 yX12_refused wsX12_refused) := goodIn_app (goodIn_of _ (by decide +kernel)) ggX12_quote_X12_refused
set_option maxRecDepth 100000 in
theorem ggX12_quote_X12_good_p1 : ∀ w ∈ ([.fieldLink RX12 110 "BondCalendarsModel" "trouble" "I", .fieldLink RX12 9 "BondCalendarsModel" "wrongAt" "I"] : List Cond), w ∈ wsX12_quote := List.forall_mem_cons.mpr ⟨(List.mem_cons_of_mem _ (List.mem_append_left _ (List.mem_of_getElem? (i := 13) rfl))), List.forall_mem_cons.mpr ⟨(List.mem_cons_of_mem _ (List.mem_append_left _ (List.mem_of_getElem? (i := 14) rfl))), (fun _ h => absurd h List.not_mem_nil)⟩⟩
set_option maxRecDepth 100000 in
theorem ggX12_quote_X12_good : GoodIn wsX12_quote wsX12_good := goodIn_sub (fun w h => (List.mem_cons.mp h).elim (fun e => e ▸ ((List.mem_cons_of_mem _ (List.mem_append_left _ (List.mem_of_getElem? (i := 18) rfl))) : Cond.code yX12_good cX12_good 2 (some .int) ∈ wsX12_quote)) (fun h => (List.mem_append.mp h).elim (fun h => ggX12_quote_X12_good_p1 w h) (fun h => (List.mem_cons_of_mem _ (List.mem_append_right _ h))))) (by decide +kernel)
set_option maxRecDepth 20000 in
theorem gX12_quote_X12_good : GoodIn wsX12_quote (wsV RX12 117 RX12 yX12_good wsX12_good) := goodIn_app (goodIn_of _ (by decide +kernel)) ggX12_quote_X12_good
theorem dX12_quote_0 : decode cX12_quote 0 = .ok (.aload_n 0, 1) := by decide +kernel
theorem dX12_quote_1 : decode cX12_quote 1 = .ok (.iconst 0, 1) := by decide +kernel
theorem dX12_quote_2 : decode cX12_quote 2 = .ok (.putfield 107, 3) := by decide +kernel
theorem dX12_quote_5 : decode cX12_quote 5 = .ok (.iload_n 1, 1) := by decide +kernel
theorem dX12_quote_6 : decode cX12_quote 6 = .ok (.ifCond .lt 20, 3) := by decide +kernel
theorem dX12_quote_9 : decode cX12_quote 9 = .ok (.iload_n 1, 1) := by decide +kernel
theorem dX12_quote_10 : decode cX12_quote 10 = .ok (.aload_n 0, 1) := by decide +kernel
theorem dX12_quote_11 : decode cX12_quote 11 = .ok (.getfield 364, 3) := by decide +kernel
theorem dX12_quote_14 : decode cX12_quote 14 = .ok (.if_icmp .ge 12, 3) := by decide +kernel
theorem dX12_quote_17 : decode cX12_quote 17 = .ok (.iload_n 2, 1) := by decide +kernel
theorem dX12_quote_18 : decode cX12_quote 18 = .ok (.iconst 0, 1) := by decide +kernel
theorem dX12_quote_19 : decode cX12_quote 19 = .ok (.iconst 2, 1) := by decide +kernel
theorem dX12_quote_20 : decode cX12_quote 20 = .ok (.invokestatic 132, 3) := by decide +kernel
theorem dX12_quote_23 : decode cX12_quote 23 = .ok (.ifCond .ne 9, 3) := by decide +kernel
theorem dX12_quote_26 : decode cX12_quote 26 = .ok (.aload_n 0, 1) := by decide +kernel
theorem dX12_quote_27 : decode cX12_quote 27 = .ok (.iconst 1, 1) := by decide +kernel
theorem dX12_quote_28 : decode cX12_quote 28 = .ok (.invokevirtual 113, 3) := by decide +kernel
theorem dX12_quote_31 : decode cX12_quote 31 = .ok (.ireturn, 1) := by decide +kernel
theorem dX12_quote_32 : decode cX12_quote 32 = .ok (.aload_n 0, 1) := by decide +kernel
theorem dX12_quote_33 : decode cX12_quote 33 = .ok (.iload_n 2, 1) := by decide +kernel
theorem dX12_quote_34 : decode cX12_quote 34 = .ok (.ifCond .ne 12, 3) := by decide +kernel
theorem dX12_quote_37 : decode cX12_quote 37 = .ok (.aload_n 0, 1) := by decide +kernel
theorem dX12_quote_38 : decode cX12_quote 38 = .ok (.getfield 45, 3) := by decide +kernel
theorem dX12_quote_41 : decode cX12_quote 41 = .ok (.iload_n 1, 1) := by decide +kernel
theorem dX12_quote_42 : decode cX12_quote 42 = .ok (.iaload, 1) := by decide +kernel
theorem dX12_quote_43 : decode cX12_quote 43 = .ok (.goto 23, 3) := by decide +kernel
theorem dX12_quote_46 : decode cX12_quote 46 = .ok (.iload_n 2, 1) := by decide +kernel
theorem dX12_quote_47 : decode cX12_quote 47 = .ok (.iconst 1, 1) := by decide +kernel
theorem dX12_quote_48 : decode cX12_quote 48 = .ok (.if_icmp .ne 12, 3) := by decide +kernel
theorem dX12_quote_51 : decode cX12_quote 51 = .ok (.aload_n 0, 1) := by decide +kernel
theorem dX12_quote_52 : decode cX12_quote 52 = .ok (.getfield 48, 3) := by decide +kernel
theorem dX12_quote_55 : decode cX12_quote 55 = .ok (.iload_n 1, 1) := by decide +kernel
theorem dX12_quote_56 : decode cX12_quote 56 = .ok (.iaload, 1) := by decide +kernel
theorem dX12_quote_57 : decode cX12_quote 57 = .ok (.goto 9, 3) := by decide +kernel
theorem dX12_quote_60 : decode cX12_quote 60 = .ok (.aload_n 0, 1) := by decide +kernel
theorem dX12_quote_61 : decode cX12_quote 61 = .ok (.getfield 51, 3) := by decide +kernel
theorem dX12_quote_64 : decode cX12_quote 64 = .ok (.iload_n 1, 1) := by decide +kernel
theorem dX12_quote_65 : decode cX12_quote 65 = .ok (.iaload, 1) := by decide +kernel
theorem dX12_quote_66 : decode cX12_quote 66 = .ok (.invokevirtual 117, 3) := by decide +kernel
theorem dX12_quote_69 : decode cX12_quote 69 = .ok (.ireturn, 1) := by decide +kernel
set_option maxRecDepth 100000 in
theorem ggX12_holding_X12_isBond_p1 : ∀ w ∈ ([.fieldLink RX12 358 "BondCalendarsModel" "bonds" "I"] : List Cond), w ∈ wsX12_holding := List.forall_mem_cons.mpr ⟨(List.mem_cons_of_mem _ (List.mem_append_left _ (List.mem_of_getElem? (i := 7) rfl))), (fun _ h => absurd h List.not_mem_nil)⟩
set_option maxRecDepth 100000 in
theorem ggX12_holding_X12_isBond : GoodIn wsX12_holding wsX12_isBond := goodIn_sub (fun w h => (List.mem_cons.mp h).elim (fun e => e ▸ ((List.mem_cons_of_mem _ (List.mem_append_left _ (List.mem_of_getElem? (i := 6) rfl))) : Cond.code yX12_isBond cX12_isBond 2 (some .boolean) ∈ wsX12_holding)) (fun h => (List.mem_append.mp h).elim (fun h => ggX12_holding_X12_isBond_p1 w h) (fun h => (List.mem_cons_of_mem _ (List.mem_append_right _ h))))) (by decide +kernel)
set_option maxRecDepth 20000 in
theorem gX12_holding_X12_isBond : GoodIn wsX12_holding (wsV RX12 438 RX12 yX12_isBond wsX12_isBond) := goodIn_app (goodIn_of _ (by decide +kernel)) ggX12_holding_X12_isBond
set_option maxRecDepth 100000 in
theorem ggX12_holding_X12_refused_p1 : ∀ w ∈ ([.fieldLink RX12 110 "BondCalendarsModel" "trouble" "I", .fieldLink RX12 9 "BondCalendarsModel" "wrongAt" "I"] : List Cond), w ∈ wsX12_holding := List.forall_mem_cons.mpr ⟨(List.mem_cons_of_mem _ (List.mem_append_left _ (List.mem_of_getElem? (i := 12) rfl))), List.forall_mem_cons.mpr ⟨(List.mem_cons_of_mem _ (List.mem_append_left _ (List.mem_of_getElem? (i := 13) rfl))), (fun _ h => absurd h List.not_mem_nil)⟩⟩
set_option maxRecDepth 100000 in
theorem ggX12_holding_X12_refused : GoodIn wsX12_holding wsX12_refused := goodIn_sub (fun w h => (List.mem_cons.mp h).elim (fun e => e ▸ ((List.mem_cons_of_mem _ (List.mem_append_left _ (List.mem_of_getElem? (i := 11) rfl))) : Cond.code yX12_refused cX12_refused 2 (some .int) ∈ wsX12_holding)) (fun h => (List.mem_append.mp h).elim (fun h => ggX12_holding_X12_refused_p1 w h) (fun h => (List.mem_cons_of_mem _ (List.mem_append_right _ h))))) (by decide +kernel)
set_option maxRecDepth 20000 in
theorem gX12_holding_X12_refused : GoodIn wsX12_holding (wsV RX12 113 RX12 yX12_refused wsX12_refused) := goodIn_app (goodIn_of _ (by decide +kernel)) ggX12_holding_X12_refused
set_option maxRecDepth 100000 in
theorem ggX12_holding_X12_good_p1 : ∀ w ∈ ([.fieldLink RX12 110 "BondCalendarsModel" "trouble" "I", .fieldLink RX12 9 "BondCalendarsModel" "wrongAt" "I"] : List Cond), w ∈ wsX12_holding := List.forall_mem_cons.mpr ⟨(List.mem_cons_of_mem _ (List.mem_append_left _ (List.mem_of_getElem? (i := 12) rfl))), List.forall_mem_cons.mpr ⟨(List.mem_cons_of_mem _ (List.mem_append_left _ (List.mem_of_getElem? (i := 13) rfl))), (fun _ h => absurd h List.not_mem_nil)⟩⟩
set_option maxRecDepth 100000 in
theorem ggX12_holding_X12_good : GoodIn wsX12_holding wsX12_good := goodIn_sub (fun w h => (List.mem_cons.mp h).elim (fun e => e ▸ ((List.mem_cons_of_mem _ (List.mem_append_left _ (List.mem_of_getElem? (i := 17) rfl))) : Cond.code yX12_good cX12_good 2 (some .int) ∈ wsX12_holding)) (fun h => (List.mem_append.mp h).elim (fun h => ggX12_holding_X12_good_p1 w h) (fun h => (List.mem_cons_of_mem _ (List.mem_append_right _ h))))) (by decide +kernel)
set_option maxRecDepth 20000 in
theorem gX12_holding_X12_good : GoodIn wsX12_holding (wsV RX12 117 RX12 yX12_good wsX12_good) := goodIn_app (goodIn_of _ (by decide +kernel)) ggX12_holding_X12_good
theorem dX12_holding_0 : decode cX12_holding 0 = .ok (.aload_n 0, 1) := by decide +kernel
theorem dX12_holding_1 : decode cX12_holding 1 = .ok (.iconst 0, 1) := by decide +kernel
theorem dX12_holding_2 : decode cX12_holding 2 = .ok (.putfield 107, 3) := by decide +kernel
theorem dX12_holding_5 : decode cX12_holding 5 = .ok (.aload_n 0, 1) := by decide +kernel
theorem dX12_holding_6 : decode cX12_holding 6 = .ok (.iload_n 1, 1) := by decide +kernel
theorem dX12_holding_7 : decode cX12_holding 7 = .ok (.invokevirtual 438, 3) := by decide +kernel
theorem dX12_holding_10 : decode cX12_holding 10 = .ok (.ifCond .ne 9, 3) := by decide +kernel
theorem dX12_holding_13 : decode cX12_holding 13 = .ok (.aload_n 0, 1) := by decide +kernel
theorem dX12_holding_14 : decode cX12_holding 14 = .ok (.iconst 1, 1) := by decide +kernel
theorem dX12_holding_15 : decode cX12_holding 15 = .ok (.invokevirtual 113, 3) := by decide +kernel
theorem dX12_holding_18 : decode cX12_holding 18 = .ok (.ireturn, 1) := by decide +kernel
theorem dX12_holding_19 : decode cX12_holding 19 = .ok (.aload_n 0, 1) := by decide +kernel
theorem dX12_holding_20 : decode cX12_holding 20 = .ok (.aload_n 0, 1) := by decide +kernel
theorem dX12_holding_21 : decode cX12_holding 21 = .ok (.getfield 89, 3) := by decide +kernel
theorem dX12_holding_24 : decode cX12_holding 24 = .ok (.iload_n 1, 1) := by decide +kernel
theorem dX12_holding_25 : decode cX12_holding 25 = .ok (.iaload, 1) := by decide +kernel
theorem dX12_holding_26 : decode cX12_holding 26 = .ok (.invokevirtual 117, 3) := by decide +kernel
theorem dX12_holding_29 : decode cX12_holding 29 = .ok (.ireturn, 1) := by decide +kernel
