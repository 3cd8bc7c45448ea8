set_option maxHeartbeats 8000000 in
set_option maxRecDepth 100000 in
theorem n_X12_isBond (l : Launch) (dC : Nat → ClassId) (dI : Nat → Nat → Nat) (ad : Nat → Nat) (cA : Nat → ClassId) (adK adV : Nat → Nat) (sz : Nat) (σ : gs) (hI : InvM σ) (p0 : Int32) : MetD lw_cs l yX12_isBond wsX12_isBond ({ frames := 0, cells := 0, slots := 0, locals := 0 }) (va_Pc [.ref (ad 0), .int p0] (gPre adK adV (dC, dI) (wM ad cA σ) (tM cA) sz)) (va_Qi (fun (r : Int32) (τ : gs) => InvM τ ∧ σ = τ ∧ ((r = 0 ∨ r = 1) ∧ (1 ≤ r → 0 ≤ p0) ∧ (1 ≤ r → p0 < (σ 0).1 20))) (fun τ t => gPost (dC, dI) (va_A (wM ad cA σ) sz) (wM ad cA τ) t) (va_A (wM ad cA σ) sz)) 0 0 (va_A (wM ad cA σ) sz) := by
  refine MetD.ofW (cc := cX12_isBond) (maxL := 2) (ret := (some .boolean)) (by decide) rfl ?_
  intro p e s m args below meth c s₁ B hml hv hd0
  obtain ⟨rfl, hsz, hP, hK, hD0, hT⟩ := hv
  have hx := B.exec
  have hb := B.bytes
  have hr := B.returns
  have hts0 := atoms_spec (ws := wsX12_isBond) B.pre
  have hK0 := hK
  have hown0 : s.vm.findClass RX12 = some m.cls := findClass_of_methodNamed B.named
  have hlocks := B.notSynchronized
  have hinX12 : ∀ w ∈ u_ws RX12 TX12 69, w ∈ wsX12_isBond := (fun _ h9 => List.mem_cons_of_mem _ (List.mem_append_right _ h9))
  subst hsz
  have hD := hD0.self (sz := s.heap.size)
  generalize hAe : va_A (wM ad cA σ) s.heap.size = A at hD hT ⊢
  have hA : ∀ q : Nat, s.heap.size ≤ q → A q := fun q h => by rw [← hAe]; exact Or.inr h
  have hS : va_S A s.heap s.heap [] := va_S.rf
  have hl := lv_entry ([.ref (ad 0), .int p0]) (n := 2) (Nat.le_of_ble_eq_true rfl)
  rw [lg_entry_eq]
  generalize (lg_sl ([.ref (ad 0), .int p0]) ++ List.replicate (2 - (lg_sl ([.ref (ad 0), .int p0])).length) Slot.unset).toArray = ls at hl ⊢
  have hl : lv_has ls 2 [(0, .ref (ad 0)), (1, .int p0)] := hl
  have hts := dr_words hts0 (s.drawn)
  have hK := gKd hK0 (s.drawn)
  have hown : (s.setDrawn (s.drawn)).vm.findClass RX12 = some m.cls := hown0
  refine lv_iload_n hx hb dX12_isBond_0 rfl (lv_at hl 1 rfl) ?_
  refine lv_if_lt (tgt := 16) hx hb dX12_isBond_1 (by decide) (fun c_1 => ?_) (fun c_1 => ?_)
  · refine lv_iconst (v := 0) hx hb dX12_isBond_16 (by decide) ?_
    refine W.endD hd0 ?_
    exact W.zret (v := 0) hx hb hr (by decide) (fun t ht hW => ⟨⟨0, σ, rfl, ⟨hI, rfl, ⟨Or.inl rfl, (fun h9 => absurd h9 (Int32.not_le.mpr (show (0 : Int32) < 1 by decide))), (fun h9 => absurd h9 (Int32.not_le.mpr (show (0 : Int32) < 1 by decide)))⟩⟩, ⟨by rw [ht]; exact hP, hD⟩⟩, hS.F ht⟩) hS.2.2 dX12_isBond_17
  · refine lv_iload_n hx hb dX12_isBond_4 rfl (lv_at hl 1 rfl) ?_
    refine lv_aload_n hx hb dX12_isBond_5 rfl (lv_at hl 0 rfl) ?_
    have bd_2 := mrd_11_20 (c := 0) hI rfl
    refine va_get (D := (dC, dI)) (ci := 11) (v := .int ((σ 0).1 20)) (C := RX12) (T := TX12) (N := 69) hx hb hts hinX12 hown hK hP 0 (mat_11 rfl) rfl 20 (by decide) (hts (.fieldLink RX12 358 "BondCalendarsModel" "bonds" "I") (by decide +kernel)) (fun _ h9 => h9) rfl dX12_isBond_6 ?_
    refine lv_icmp_ge (tgt := 16) hx hb dX12_isBond_9 (by decide) (fun c_3 => ?_) (fun c_3 => ?_)
    · refine lv_iconst (v := 0) hx hb dX12_isBond_16 (by decide) ?_
      refine W.endD hd0 ?_
      exact W.zret (v := 0) hx hb hr (by decide) (fun t ht hW => ⟨⟨0, σ, rfl, ⟨hI, rfl, ⟨Or.inl rfl, (fun _ => (Int32.not_lt.mp c_1)), (fun h9 => absurd h9 (Int32.not_le.mpr (show (0 : Int32) < 1 by decide)))⟩⟩, ⟨by rw [ht]; exact hP, hD⟩⟩, hS.F ht⟩) hS.2.2 dX12_isBond_17
    · refine lv_iconst (v := 1) hx hb dX12_isBond_12 (by decide) ?_
      refine lv_goto (tgt := 17) hx hb dX12_isBond_13 (by decide) ?_
      refine W.endD hd0 ?_
      exact W.zret (v := 1) hx hb hr (by decide) (fun t ht hW => ⟨⟨1, σ, rfl, ⟨hI, rfl, ⟨Or.inr rfl, (fun _ => (Int32.not_lt.mp c_1)), (fun _ => (Int32.not_le.mp c_3))⟩⟩, ⟨by rw [ht]; exact hP, hD⟩⟩, hS.F ht⟩) hS.2.2 dX12_isBond_17
set_option maxHeartbeats 8000000 in
set_option maxRecDepth 100000 in
theorem n_X12_denied (l : Launch) (dC : Nat → ClassId) (dI : Nat → Nat → Nat) (ad : Nat → Nat) (cA : Nat → ClassId) (adK adV : Nat → Nat) (sz : Nat) (σ : gs) (hI : InvM σ)  : MetD lw_cs l yX12_denied wsX12_denied ({ frames := 1, cells := 0, slots := 0, locals := 21 }) (va_Pc [.ref (ad 0)] (gPre adK adV (dC, dI) (wM ad cA σ) (tM cA) sz)) (va_Qi (fun (r : Int32) (τ : gs) => InvM τ ∧ mFr [] [1, 2] σ τ ∧ (r = 0 ∨ r = 1)) (fun τ t => gPost (dC, dI) (va_A (wM ad cA σ) sz) (wM ad cA τ) t) (va_A (wM ad cA σ) sz)) 0 0 (va_A (wM ad cA σ) sz) := by
  refine MetD.ofW (cc := cX12_denied) (maxL := 1) (ret := (some .boolean)) (by decide) rfl ?_
  intro p e s m args below meth c s₁ B hml hv hd0
  obtain ⟨rfl, hsz, hP, hK, hD0, hT⟩ := hv
  have hx := B.exec
  have hb := B.bytes
  have hr := B.returns
  have hts0 := atoms_spec (ws := wsX12_denied) B.pre
  have hK0 := hK
  have hown0 : s.vm.findClass RX12 = some m.cls := findClass_of_methodNamed B.named
  have hlocks := B.notSynchronized
  subst hsz
  have hD := hD0.self (sz := s.heap.size)
  generalize hAe : va_A (wM ad cA σ) s.heap.size = A at hD hT ⊢
  have hA : ∀ q : Nat, s.heap.size ≤ q → A q := fun q h => by rw [← hAe]; exact Or.inr h
  have hS : va_S A s.heap s.heap [] := va_S.rf
  have hl := lv_entry ([.ref (ad 0)]) (n := 1) (Nat.le_of_ble_eq_true rfl)
  rw [lg_entry_eq]
  generalize (lg_sl ([.ref (ad 0)]) ++ List.replicate (1 - (lg_sl ([.ref (ad 0)])).length) Slot.unset).toArray = ls at hl ⊢
  have hl : lv_has ls 1 [(0, .ref (ad 0))] := hl
  have hts := dr_words hts0 (s.drawn)
  have hK := gKd hK0 (s.drawn)
  have hown : (s.setDrawn (s.drawn)).vm.findClass RX12 = some m.cls := hown0
  refine lv_aload_n hx hb dX12_denied_0 rfl (lv_at hl 0 rfl) ?_
  refine lv_iconst (v := 1) hx hb dX12_denied_1 (by decide) ?_
  have hF := gFree hD hS hA
  refine va_calliD hd0 (va_runV_D (As := [.int 1]) (rest := []) ⟨hx, hb, hml, hown, hts⟩ (n_X12_refused l dC dI ad cA adK adV s.heap.size σ hI 1) (cwV 1 hts gX12_denied_X12_refused rfl rfl rfl (by decide +kernel) ⟨Nat.le_of_ble_eq_true rfl, Nat.le_of_ble_eq_true rfl⟩) ⟨gBlind, va_recv hK hP (ci := 11) (q0 := 0) rfl (mat_11 rfl), gStart (As := [.ref (ad 0), .int 1]) hP hD hK0 hT hS hF (s.drawn)⟩ rfl rfl hl.1 rfl (lv_room (Nat.le_of_ble_eq_true rfl)) dX12_denied_2 ⟨Nat.le_of_ble_eq_true rfl, Nat.le_of_ble_eq_true rfl⟩) hS (fun q _ h => hF q h) hF (fun r_1 σ1 t H locs ht hvm hw hB hz1 hk1 hS d_2 hd0 => ?_)
  have hts := dr_words hts0 (d_2)
  have hK := gKd hK0 (d_2)
  have hown : (s.setDrawn (d_2)).vm.findClass RX12 = some m.cls := hown0
  obtain ⟨hP, hD⟩ := gBack hF ht hB
  obtain ⟨hIσ1, fcσ1, hp_3⟩ := hw
  refine lv_pop hx hb dX12_denied_5 rfl ?_
  refine lv_iconst (v := 0) hx hb dX12_denied_6 (by decide) ?_
  refine W.endD hd0 ?_
  exact W.zret (v := 0) hx hb hr (by decide) (fun t ht hW => ⟨⟨0, σ1, rfl, ⟨hIσ1, (mFr.tr (mFr.rfl (L := []) (F := [1, 2]) (σ := σ)) fcσ1 (by decide) (by decide)), Or.inl rfl⟩, ⟨by rw [ht]; exact hP, hD⟩⟩, hS.F ht⟩) hS.2.2 dX12_denied_7
set_option maxHeartbeats 8000000 in
set_option maxRecDepth 100000 in
theorem n_X12_fault (l : Launch) (dC : Nat → ClassId) (dI : Nat → Nat → Nat) (ad : Nat → Nat) (cA : Nat → ClassId) (adK adV : Nat → Nat) (sz : Nat) (σ : gs) (hI : InvM σ)  : MetD lw_cs l yX12_fault wsX12_fault ({ frames := 0, cells := 0, slots := 0, locals := 0 }) (va_Pc [.ref (ad 0)] (gPre adK adV (dC, dI) (wM ad cA σ) (tM cA) sz)) (va_Qi (fun (r : Int32) (τ : gs) => InvM τ ∧ mFr [] [0] σ τ ∧ (True)) (fun τ t => gPost (dC, dI) (va_A (wM ad cA σ) sz) (wM ad cA τ) t) (va_A (wM ad cA σ) sz)) 0 0 (va_A (wM ad cA σ) sz) := by
  refine MetD.ofW (cc := cX12_fault) (maxL := 1) (ret := (some .int)) (by decide) rfl ?_
  intro p e s m args below meth c s₁ B hml hv hd0
  obtain ⟨rfl, hsz, hP, hK, hD0, hT⟩ := hv
  have hx := B.exec
  have hb := B.bytes
  have hr := B.returns
  have hts0 := atoms_spec (ws := wsX12_fault) B.pre
  have hK0 := hK
  have hown0 : s.vm.findClass RX12 = some m.cls := findClass_of_methodNamed B.named
  have hlocks := B.notSynchronized
  have hinX12 : ∀ w ∈ u_ws RX12 TX12 69, w ∈ wsX12_fault := (fun _ h9 => List.mem_cons_of_mem _ (List.mem_append_right _ h9))
  subst hsz
  have hD := hD0.self (sz := s.heap.size)
  generalize hAe : va_A (wM ad cA σ) s.heap.size = A at hD hT ⊢
  have hA : ∀ q : Nat, s.heap.size ≤ q → A q := fun q h => by rw [← hAe]; exact Or.inr h
  have hS : va_S A s.heap s.heap [] := va_S.rf
  have hl := lv_entry ([.ref (ad 0)]) (n := 1) (Nat.le_of_ble_eq_true rfl)
  rw [lg_entry_eq]
  generalize (lg_sl ([.ref (ad 0)]) ++ List.replicate (1 - (lg_sl ([.ref (ad 0)])).length) Slot.unset).toArray = ls at hl ⊢
  have hl : lv_has ls 1 [(0, .ref (ad 0))] := hl
  have hts := dr_words hts0 (s.drawn)
  have hK := gKd hK0 (s.drawn)
  have hown : (s.setDrawn (s.drawn)).vm.findClass RX12 = some m.cls := hown0
  refine lv_aload_n hx hb dX12_fault_0 rfl (lv_at hl 0 rfl) ?_
  refine lv_iconst (v := 0) hx hb dX12_fault_1 (by decide) ?_
  refine va_put (D := (dC, dI)) (ci := 11) (v := .int 0) (C := RX12) (T := TX12) (N := 69) hx hb hts hinX12 tyX12 tyX12_ok nmX12 hown hK hP hD hS 0 (mat_11 rfl) rfl 0 (by decide) (hts (.fieldLink RX12 107 "BondCalendarsModel" "thrown" "I") (by decide +kernel)) (fun _ h9 => h9) rfl (ty := .int) (by decide +kernel) rfl rfl (Nat.le_of_ble_eq_true rfl) dX12_fault_2 (fun H locs hP hD hS => ?_)
  obtain ⟨σ1, eσ1, hP, hD⟩ := gPut (mse_11_0 rfl) hP hD
  have hIσ1 : InvM σ1 := by rw [eσ1]; exact minv_I hI (mok_11_0 rfl _)
  have frσ1 : mFr [] [0] σ σ1 := by rw [eσ1]; exact mFr.oI (mFr.rfl (L := []) (F := [0]) (σ := σ)) (by decide)
  refine lv_aload_n hx hb dX12_fault_5 rfl (lv_at hl 0 rfl) ?_
  have bd_1 := mrd_11_37 (c := 0) hI rfl
  refine va_get (D := (dC, dI)) (ci := 11) (v := .int ((σ 0).1 37)) (C := RX12) (T := TX12) (N := 69) hx hb hts hinX12 hown hK hP 0 (mat_11 rfl) rfl 37 (by decide) (hts (.fieldLink RX12 192 "BondCalendarsModel" "fault" "I") (by decide +kernel)) (fun _ h9 => h9) (congrArg (fun z => some (Value.int z)) (show (σ1 0).1 37 = ((σ 0).1 37) from by rw [eσ1, gI_oth _ _ _ (by decide)])) dX12_fault_6 ?_
  refine W.endD hd0 ?_
  exact W.iret (v := ((σ 0).1 37)) hx hb hr (fun t ht hW => ⟨⟨((σ 0).1 37), σ1, rfl, ⟨hIσ1, frσ1, trivial⟩, ⟨by rw [ht]; exact hP, hD⟩⟩, hS.F ht⟩) hS.2.2 dX12_fault_9
set_option maxHeartbeats 8000000 in
set_option maxRecDepth 100000 in
theorem n_X12_where (l : Launch) (dC : Nat → ClassId) (dI : Nat → Nat → Nat) (ad : Nat → Nat) (cA : Nat → ClassId) (adK adV : Nat → Nat) (sz : Nat) (σ : gs) (hI : InvM σ)  : MetD lw_cs l yX12_where wsX12_where ({ frames := 0, cells := 0, slots := 0, locals := 0 }) (va_Pc [.ref (ad 0)] (gPre adK adV (dC, dI) (wM ad cA σ) (tM cA) sz)) (va_Qi (fun (r : Int32) (τ : gs) => InvM τ ∧ mFr [] [0] σ τ ∧ (True)) (fun τ t => gPost (dC, dI) (va_A (wM ad cA σ) sz) (wM ad cA τ) t) (va_A (wM ad cA σ) sz)) 0 0 (va_A (wM ad cA σ) sz) := by
  refine MetD.ofW (cc := cX12_where) (maxL := 1) (ret := (some .int)) (by decide) rfl ?_
  intro p e s m args below meth c s₁ B hml hv hd0
  obtain ⟨rfl, hsz, hP, hK, hD0, hT⟩ := hv
  have hx := B.exec
  have hb := B.bytes
  have hr := B.returns
  have hts0 := atoms_spec (ws := wsX12_where) B.pre
  have hK0 := hK
  have hown0 : s.vm.findClass RX12 = some m.cls := findClass_of_methodNamed B.named
  have hlocks := B.notSynchronized
  have hinX12 : ∀ w ∈ u_ws RX12 TX12 69, w ∈ wsX12_where := (fun _ h9 => List.mem_cons_of_mem _ (List.mem_append_right _ h9))
  subst hsz
  have hD := hD0.self (sz := s.heap.size)
  generalize hAe : va_A (wM ad cA σ) s.heap.size = A at hD hT ⊢
  have hA : ∀ q : Nat, s.heap.size ≤ q → A q := fun q h => by rw [← hAe]; exact Or.inr h
  have hS : va_S A s.heap s.heap [] := va_S.rf
  have hl := lv_entry ([.ref (ad 0)]) (n := 1) (Nat.le_of_ble_eq_true rfl)
  rw [lg_entry_eq]
  generalize (lg_sl ([.ref (ad 0)]) ++ List.replicate (1 - (lg_sl ([.ref (ad 0)])).length) Slot.unset).toArray = ls at hl ⊢
  have hl : lv_has ls 1 [(0, .ref (ad 0))] := hl
  have hts := dr_words hts0 (s.drawn)
  have hK := gKd hK0 (s.drawn)
  have hown : (s.setDrawn (s.drawn)).vm.findClass RX12 = some m.cls := hown0
  refine lv_aload_n hx hb dX12_where_0 rfl (lv_at hl 0 rfl) ?_
  refine lv_iconst (v := 0) hx hb dX12_where_1 (by decide) ?_
  refine va_put (D := (dC, dI)) (ci := 11) (v := .int 0) (C := RX12) (T := TX12) (N := 69) hx hb hts hinX12 tyX12 tyX12_ok nmX12 hown hK hP hD hS 0 (mat_11 rfl) rfl 0 (by decide) (hts (.fieldLink RX12 107 "BondCalendarsModel" "thrown" "I") (by decide +kernel)) (fun _ h9 => h9) rfl (ty := .int) (by decide +kernel) rfl rfl (Nat.le_of_ble_eq_true rfl) dX12_where_2 (fun H locs hP hD hS => ?_)
  obtain ⟨σ1, eσ1, hP, hD⟩ := gPut (mse_11_0 rfl) hP hD
  have hIσ1 : InvM σ1 := by rw [eσ1]; exact minv_I hI (mok_11_0 rfl _)
  have frσ1 : mFr [] [0] σ σ1 := by rw [eσ1]; exact mFr.oI (mFr.rfl (L := []) (F := [0]) (σ := σ)) (by decide)
  refine lv_aload_n hx hb dX12_where_5 rfl (lv_at hl 0 rfl) ?_
  refine va_get (D := (dC, dI)) (ci := 11) (v := .int ((σ 0).1 2)) (C := RX12) (T := TX12) (N := 69) hx hb hts hinX12 hown hK hP 0 (mat_11 rfl) rfl 2 (by decide) (hts (.fieldLink RX12 9 "BondCalendarsModel" "wrongAt" "I") (by decide +kernel)) (fun _ h9 => h9) (congrArg (fun z => some (Value.int z)) (show (σ1 0).1 2 = ((σ 0).1 2) from by rw [eσ1, gI_oth _ _ _ (by decide)])) dX12_where_6 ?_
  refine W.endD hd0 ?_
  exact W.iret (v := ((σ 0).1 2)) hx hb hr (fun t ht hW => ⟨⟨((σ 0).1 2), σ1, rfl, ⟨hIσ1, frσ1, trivial⟩, ⟨by rw [ht]; exact hP, hD⟩⟩, hS.F ht⟩) hS.2.2 dX12_where_9
set_option maxHeartbeats 8000000 in
set_option maxRecDepth 100000 in
theorem n_X12_days (l : Launch) (dC : Nat → ClassId) (dI : Nat → Nat → Nat) (ad : Nat → Nat) (cA : Nat → ClassId) (adK adV : Nat → Nat) (sz : Nat) (σ : gs) (hI : InvM σ) (p0 : Int32) (p1 : Int32) : MetD lw_cs l yX12_days wsX12_days ({ frames := 2, cells := 0, slots := 0, locals := 44 }) (va_Pc [.ref (ad 0), .int p0, .int p1] (gPre adK adV (dC, dI) (wM ad cA σ) (tM cA) sz)) (va_Qi (fun (r : Int32) (τ : gs) => InvM τ ∧ mFr [] [0, 1, 2] σ τ ∧ (True)) (fun τ t => gPost (dC, dI) (va_A (wM ad cA σ) sz) (wM ad cA τ) t) (va_A (wM ad cA σ) sz)) 0 0 (va_A (wM ad cA σ) sz) := by
  refine MetD.ofW (cc := cX12_days) (maxL := 3) (ret := (some .int)) (by decide) rfl ?_
  intro p e s m args below meth c s₁ B hml hv hd0
  obtain ⟨rfl, hsz, hP, hK, hD0, hT⟩ := hv
  have hx := B.exec
  have hb := B.bytes
  have hr := B.returns
  have hts0 := atoms_spec (ws := wsX12_days) B.pre
  have hK0 := hK
  have hown0 : s.vm.findClass RX12 = some m.cls := findClass_of_methodNamed B.named
  have hlocks := B.notSynchronized
  have hinX12 : ∀ w ∈ u_ws RX12 TX12 69, w ∈ wsX12_days := (fun _ h9 => List.mem_cons_of_mem _ (List.mem_append_right _ h9))
  subst hsz
  have hD := hD0.self (sz := s.heap.size)
  generalize hAe : va_A (wM ad cA σ) s.heap.size = A at hD hT ⊢
  have hA : ∀ q : Nat, s.heap.size ≤ q → A q := fun q h => by rw [← hAe]; exact Or.inr h
  have hS : va_S A s.heap s.heap [] := va_S.rf
  have hl := lv_entry ([.ref (ad 0), .int p0, .int p1]) (n := 3) (Nat.le_of_ble_eq_true rfl)
  rw [lg_entry_eq]
  generalize (lg_sl ([.ref (ad 0), .int p0, .int p1]) ++ List.replicate (3 - (lg_sl ([.ref (ad 0), .int p0, .int p1])).length) Slot.unset).toArray = ls at hl ⊢
  have hl : lv_has ls 3 [(0, .ref (ad 0)), (1, .int p0), (2, .int p1)] := hl
  have hts := dr_words hts0 (s.drawn)
  have hK := gKd hK0 (s.drawn)
  have hown : (s.setDrawn (s.drawn)).vm.findClass RX12 = some m.cls := hown0
  refine lv_aload_n hx hb dX12_days_0 rfl (lv_at hl 0 rfl) ?_
  refine lv_iconst (v := 0) hx hb dX12_days_1 (by decide) ?_
  refine va_put (D := (dC, dI)) (ci := 11) (v := .int 0) (C := RX12) (T := TX12) (N := 69) hx hb hts hinX12 tyX12 tyX12_ok nmX12 hown hK hP hD hS 0 (mat_11 rfl) rfl 0 (by decide) (hts (.fieldLink RX12 107 "BondCalendarsModel" "thrown" "I") (by decide +kernel)) (fun _ h9 => h9) rfl (ty := .int) (by decide +kernel) rfl rfl (Nat.le_of_ble_eq_true rfl) dX12_days_2 (fun H locs hP hD hS => ?_)
  obtain ⟨σ1, eσ1, hP, hD⟩ := gPut (mse_11_0 rfl) hP hD
  have hIσ1 : InvM σ1 := by rw [eσ1]; exact minv_I hI (mok_11_0 rfl _)
  have frσ1 : mFr [] [0, 1, 2] σ σ1 := by rw [eσ1]; exact mFr.oI (mFr.rfl (L := []) (F := [0, 1, 2]) (σ := σ)) (by decide)
  refine lv_iload_n hx hb dX12_days_5 rfl (lv_at hl 1 rfl) ?_
  have hF := gFree (w := []) (hx_D0 (A := A)) hS hA
  have hKe := hK.sub (tys' := []) [] rfl
  refine va_calli (va_runS (As := [.int p0]) (rest := []) ⟨hx, hb, hml, hown, hts⟩ (k_X12_isDate l dC dI H.size p0 ) (va_cwS 1 hts gX12_days_X12_isDate rfl rfl rfl (by decide +kernel) ⟨Nat.le_of_ble_eq_true rfl, Nat.le_of_ble_eq_true rfl⟩) ⟨fun a U g mk q => by obtain ⟨q0, q1, qP, qK, qD⟩ := q; exact ⟨q0, q1, qP, va_K.moved (u := U) (U := U.calling g mk a) (Vm.Alike.refl U.vm) qK, qD⟩, fun U hU hW => ⟨rfl, by rw [hU], hx_P0, va_K.moved hW.alike hKe, hx_D0⟩⟩ rfl rfl hl.1 rfl (lv_room (Nat.le_of_ble_eq_true rfl)) dX12_days_6 ⟨Nat.le_of_ble_eq_true rfl, Nat.le_of_ble_eq_true rfl⟩) hS (fun q _ h => hF q h) hF (fun r_1 u t H locs ht hvm hw hB hz1 hk1 hS => ?_)
  have hP := gKeep hP hk1
  have pu_2 : r_1 = f_X12_isDate p0 := hw
  have b0_3 : r_1 = 0 ∨ r_1 = 1 := by rw [pu_2]; exact isDate01 _
  refine lv_if_eq (tgt := 19) hx hb dX12_days_9 (by decide) (fun c_4 => ?_) (fun c_4 => ?_)
  · refine lv_aload_n hx hb dX12_days_19 rfl (lv_at hl 0 rfl) ?_
    refine lv_iconst (v := 2) hx hb dX12_days_20 (by decide) ?_
    have hF := gFree hD hS hA
    refine va_calliD hd0 (va_runV_D (As := [.int 2]) (rest := []) ⟨hx, hb, hml, hown, hts⟩ (n_X12_refused l dC dI ad cA adK adV H.size σ1 hIσ1 2) (cwV 1 hts gX12_days_X12_refused rfl rfl rfl (by decide +kernel) ⟨Nat.le_of_ble_eq_true rfl, Nat.le_of_ble_eq_true rfl⟩) ⟨gBlind, va_recv hK hP (ci := 11) (q0 := 0) rfl (mat_11 rfl), gStart (As := [.ref (ad 0), .int 2]) hP hD hK0 hT hS hF (s.drawn)⟩ rfl rfl hl.1 rfl (lv_room (Nat.le_of_ble_eq_true rfl)) dX12_days_21 ⟨Nat.le_of_ble_eq_true rfl, Nat.le_of_ble_eq_true rfl⟩) hS (fun q _ h => hF q h) hF (fun r_5 σ2 t H locs ht hvm hw hB hz1 hk1 hS d_6 hd0 => ?_)
    have hts := dr_words hts0 (d_6)
    have hK := gKd hK0 (d_6)
    have hown : (s.setDrawn (d_6)).vm.findClass RX12 = some m.cls := hown0
    obtain ⟨hP, hD⟩ := gBack hF ht hB
    obtain ⟨hIσ2, fcσ2, hp_7⟩ := hw
    refine lv_pop hx hb dX12_days_24 rfl ?_
    refine lv_ldcw (v := (-2147483648)) hx hb hown (hts (.constant RX12 424 (-2147483648)) (by decide +kernel)) dX12_days_25 ?_
    refine W.endD hd0 ?_
    exact W.iret (v := (-2147483648)) hx hb hr (fun t ht hW => ⟨⟨(-2147483648), σ2, rfl, ⟨hIσ2, (mFr.tr frσ1 fcσ2 (by decide) (by decide)), trivial⟩, ⟨by rw [ht]; exact hP, hD⟩⟩, hS.F ht⟩) hS.2.2 dX12_days_28
  · refine lv_iload_n hx hb dX12_days_12 rfl (lv_at hl 2 rfl) ?_
    have hF := gFree (w := []) (hx_D0 (A := A)) hS hA
    have hKe := hK.sub (tys' := []) [] rfl
    refine va_calli (va_runS (As := [.int p1]) (rest := []) ⟨hx, hb, hml, hown, hts⟩ (k_X12_isDate l dC dI H.size p1 ) (va_cwS 1 hts gX12_days_X12_isDate rfl rfl rfl (by decide +kernel) ⟨Nat.le_of_ble_eq_true rfl, Nat.le_of_ble_eq_true rfl⟩) ⟨fun a U g mk q => by obtain ⟨q0, q1, qP, qK, qD⟩ := q; exact ⟨q0, q1, qP, va_K.moved (u := U) (U := U.calling g mk a) (Vm.Alike.refl U.vm) qK, qD⟩, fun U hU hW => ⟨rfl, by rw [hU], hx_P0, va_K.moved hW.alike hKe, hx_D0⟩⟩ rfl rfl hl.1 rfl (lv_room (Nat.le_of_ble_eq_true rfl)) dX12_days_13 ⟨Nat.le_of_ble_eq_true rfl, Nat.le_of_ble_eq_true rfl⟩) hS (fun q _ h => hF q h) hF (fun r_8 u t H locs ht hvm hw hB hz1 hk1 hS => ?_)
    have hP := gKeep hP hk1
    have pu_9 : r_8 = f_X12_isDate p1 := hw
    have b0_10 : r_8 = 0 ∨ r_8 = 1 := by rw [pu_9]; exact isDate01 _
    refine lv_if_ne (tgt := 29) hx hb dX12_days_16 (by decide) (fun c_11 => ?_) (fun c_11 => ?_)
    · refine lv_aload_n hx hb dX12_days_29 rfl (lv_at hl 0 rfl) ?_
      refine lv_iload_n hx hb dX12_days_30 rfl (lv_at hl 2 rfl) ?_
      have hF := gFree (w := []) (hx_D0 (A := A)) hS hA
      have hKe := hK.sub (tys' := []) [] rfl
      refine va_calli (va_runS (As := [.int p1]) (rest := [.ref (ad 0)]) ⟨hx, hb, hml, hown, hts⟩ (k_X12_dayOf l dC dI H.size p1 ) (va_cwS 1 hts gX12_days_X12_dayOf rfl rfl rfl (by decide +kernel) ⟨Nat.le_of_ble_eq_true rfl, Nat.le_of_ble_eq_true rfl⟩) ⟨fun a U g mk q => by obtain ⟨q0, q1, qP, qK, qD⟩ := q; exact ⟨q0, q1, qP, va_K.moved (u := U) (U := U.calling g mk a) (Vm.Alike.refl U.vm) qK, qD⟩, fun U hU hW => ⟨rfl, by rw [hU], hx_P0, va_K.moved hW.alike hKe, hx_D0⟩⟩ rfl rfl hl.1 rfl (lv_room (Nat.le_of_ble_eq_true rfl)) dX12_days_31 ⟨Nat.le_of_ble_eq_true rfl, Nat.le_of_ble_eq_true rfl⟩) hS (fun q _ h => hF q h) hF (fun r_12 u t H locs ht hvm hw hB hz1 hk1 hS => ?_)
      have hP := gKeep hP hk1
      have pu_13 : r_12 = f_X12_dayOf p1 := hw
      refine lv_iload_n hx hb dX12_days_34 rfl (lv_at hl 1 rfl) ?_
      have hF := gFree (w := []) (hx_D0 (A := A)) hS hA
      have hKe := hK.sub (tys' := []) [] rfl
      refine va_calli (va_runS (As := [.int p0]) (rest := [.int r_12, .ref (ad 0)]) ⟨hx, hb, hml, hown, hts⟩ (k_X12_dayOf l dC dI H.size p0 ) (va_cwS 1 hts gX12_days_X12_dayOf rfl rfl rfl (by decide +kernel) ⟨Nat.le_of_ble_eq_true rfl, Nat.le_of_ble_eq_true rfl⟩) ⟨fun a U g mk q => by obtain ⟨q0, q1, qP, qK, qD⟩ := q; exact ⟨q0, q1, qP, va_K.moved (u := U) (U := U.calling g mk a) (Vm.Alike.refl U.vm) qK, qD⟩, fun U hU hW => ⟨rfl, by rw [hU], hx_P0, va_K.moved hW.alike hKe, hx_D0⟩⟩ rfl rfl hl.1 rfl (lv_room (Nat.le_of_ble_eq_true rfl)) dX12_days_35 ⟨Nat.le_of_ble_eq_true rfl, Nat.le_of_ble_eq_true rfl⟩) hS (fun q _ h => hF q h) hF (fun r_14 u t H locs ht hvm hw hB hz1 hk1 hS => ?_)
      have hP := gKeep hP hk1
      have pu_15 : r_14 = f_X12_dayOf p0 := hw
      refine lv_isub hx hb dX12_days_38 ?_
      refine lv_topi (fun x_16 ex_16 => ?_)
      have hF := gFree hD hS hA
      refine va_calliD hd0 (va_runV_D (As := [.int x_16]) (rest := []) ⟨hx, hb, hml, hown, hts⟩ (n_X12_good l dC dI ad cA adK adV H.size σ1 hIσ1 x_16) (cwV 1 hts gX12_days_X12_good rfl rfl rfl (by decide +kernel) ⟨Nat.le_of_ble_eq_true rfl, Nat.le_of_ble_eq_true rfl⟩) ⟨gBlind, va_recv hK hP (ci := 11) (q0 := 0) rfl (mat_11 rfl), gStart (As := [.ref (ad 0), .int x_16]) hP hD hK0 hT hS hF (s.drawn)⟩ rfl rfl hl.1 rfl (lv_room (Nat.le_of_ble_eq_true rfl)) dX12_days_39 ⟨Nat.le_of_ble_eq_true rfl, Nat.le_of_ble_eq_true rfl⟩) hS (fun q _ h => hF q h) hF (fun r_17 σ3 t H locs ht hvm hw hB hz1 hk1 hS d_18 hd0 => ?_)
      have hts := dr_words hts0 (d_18)
      have hK := gKd hK0 (d_18)
      have hown : (s.setDrawn (d_18)).vm.findClass RX12 = some m.cls := hown0
      obtain ⟨hP, hD⟩ := gBack hF ht hB
      obtain ⟨hIσ3, fcσ3, hp_19⟩ := hw
      refine W.endD hd0 ?_
      exact W.iret (v := r_17) hx hb hr (fun t ht hW => ⟨⟨r_17, σ3, rfl, ⟨hIσ3, (mFr.tr frσ1 fcσ3 (by decide) (by decide)), trivial⟩, ⟨by rw [ht]; exact hP, hD⟩⟩, hS.F ht⟩) hS.2.2 dX12_days_42
    · refine lv_aload_n hx hb dX12_days_19 rfl (lv_at hl 0 rfl) ?_
      refine lv_iconst (v := 2) hx hb dX12_days_20 (by decide) ?_
      have hF := gFree hD hS hA
      refine va_calliD hd0 (va_runV_D (As := [.int 2]) (rest := []) ⟨hx, hb, hml, hown, hts⟩ (n_X12_refused l dC dI ad cA adK adV H.size σ1 hIσ1 2) (cwV 1 hts gX12_days_X12_refused rfl rfl rfl (by decide +kernel) ⟨Nat.le_of_ble_eq_true rfl, Nat.le_of_ble_eq_true rfl⟩) ⟨gBlind, va_recv hK hP (ci := 11) (q0 := 0) rfl (mat_11 rfl), gStart (As := [.ref (ad 0), .int 2]) hP hD hK0 hT hS hF (s.drawn)⟩ rfl rfl hl.1 rfl (lv_room (Nat.le_of_ble_eq_true rfl)) dX12_days_21 ⟨Nat.le_of_ble_eq_true rfl, Nat.le_of_ble_eq_true rfl⟩) hS (fun q _ h => hF q h) hF (fun r_20 σ4 t H locs ht hvm hw hB hz1 hk1 hS d_21 hd0 => ?_)
      have hts := dr_words hts0 (d_21)
      have hK := gKd hK0 (d_21)
      have hown : (s.setDrawn (d_21)).vm.findClass RX12 = some m.cls := hown0
      obtain ⟨hP, hD⟩ := gBack hF ht hB
      obtain ⟨hIσ4, fcσ4, hp_22⟩ := hw
      refine lv_pop hx hb dX12_days_24 rfl ?_
      refine lv_ldcw (v := (-2147483648)) hx hb hown (hts (.constant RX12 424 (-2147483648)) (by decide +kernel)) dX12_days_25 ?_
      refine W.endD hd0 ?_
      exact W.iret (v := (-2147483648)) hx hb hr (fun t ht hW => ⟨⟨(-2147483648), σ4, rfl, ⟨hIσ4, (mFr.tr frσ1 fcσ4 (by decide) (by decide)), trivial⟩, ⟨by rw [ht]; exact hP, hD⟩⟩, hS.F ht⟩) hS.2.2 dX12_days_28
set_option maxHeartbeats 8000000 in
set_option maxRecDepth 100000 in
theorem n_X12_weekday (l : Launch) (dC : Nat → ClassId) (dI : Nat → Nat → Nat) (ad : Nat → Nat) (cA : Nat → ClassId) (adK adV : Nat → Nat) (sz : Nat) (σ : gs) (hI : InvM σ) (p0 : Int32) : MetD lw_cs l yX12_weekday wsX12_weekday ({ frames := 3, cells := 0, slots := 0, locals := 63 }) (va_Pc [.ref (ad 0), .int p0] (gPre adK adV (dC, dI) (wM ad cA σ) (tM cA) sz)) (va_Qi (fun (r : Int32) (τ : gs) => InvM τ ∧ mFr [] [0, 1, 2] σ τ ∧ (True)) (fun τ t => gPost (dC, dI) (va_A (wM ad cA σ) sz) (wM ad cA τ) t) (va_A (wM ad cA σ) sz)) 0 0 (va_A (wM ad cA σ) sz) := by
  refine MetD.ofW (cc := cX12_weekday) (maxL := 2) (ret := (some .int)) (by decide) rfl ?_
  intro p e s m args below meth c s₁ B hml hv hd0
  obtain ⟨rfl, hsz, hP, hK, hD0, hT⟩ := hv
  have hx := B.exec
  have hb := B.bytes
  have hr := B.returns
  have hts0 := atoms_spec (ws := wsX12_weekday) B.pre
  have hK0 := hK
  have hown0 : s.vm.findClass RX12 = some m.cls := findClass_of_methodNamed B.named
  have hlocks := B.notSynchronized
  have hinX12 : ∀ w ∈ u_ws RX12 TX12 69, w ∈ wsX12_weekday := (fun _ h9 => List.mem_cons_of_mem _ (List.mem_append_right _ h9))
  subst hsz
  have hD := hD0.self (sz := s.heap.size)
  generalize hAe : va_A (wM ad cA σ) s.heap.size = A at hD hT ⊢
  have hA : ∀ q : Nat, s.heap.size ≤ q → A q := fun q h => by rw [← hAe]; exact Or.inr h
  have hS : va_S A s.heap s.heap [] := va_S.rf
  have hl := lv_entry ([.ref (ad 0), .int p0]) (n := 2) (Nat.le_of_ble_eq_true rfl)
  rw [lg_entry_eq]
  generalize (lg_sl ([.ref (ad 0), .int p0]) ++ List.replicate (2 - (lg_sl ([.ref (ad 0), .int p0])).length) Slot.unset).toArray = ls at hl ⊢
  have hl : lv_has ls 2 [(0, .ref (ad 0)), (1, .int p0)] := hl
  have hts := dr_words hts0 (s.drawn)
  have hK := gKd hK0 (s.drawn)
  have hown : (s.setDrawn (s.drawn)).vm.findClass RX12 = some m.cls := hown0
  refine lv_aload_n hx hb dX12_weekday_0 rfl (lv_at hl 0 rfl) ?_
  refine lv_iconst (v := 0) hx hb dX12_weekday_1 (by decide) ?_
  refine va_put (D := (dC, dI)) (ci := 11) (v := .int 0) (C := RX12) (T := TX12) (N := 69) hx hb hts hinX12 tyX12 tyX12_ok nmX12 hown hK hP hD hS 0 (mat_11 rfl) rfl 0 (by decide) (hts (.fieldLink RX12 107 "BondCalendarsModel" "thrown" "I") (by decide +kernel)) (fun _ h9 => h9) rfl (ty := .int) (by decide +kernel) rfl rfl (Nat.le_of_ble_eq_true rfl) dX12_weekday_2 (fun H locs hP hD hS => ?_)
  obtain ⟨σ1, eσ1, hP, hD⟩ := gPut (mse_11_0 rfl) hP hD
  have hIσ1 : InvM σ1 := by rw [eσ1]; exact minv_I hI (mok_11_0 rfl _)
  have frσ1 : mFr [] [0, 1, 2] σ σ1 := by rw [eσ1]; exact mFr.oI (mFr.rfl (L := []) (F := [0, 1, 2]) (σ := σ)) (by decide)
  refine lv_iload_n hx hb dX12_weekday_5 rfl (lv_at hl 1 rfl) ?_
  have hF := gFree (w := []) (hx_D0 (A := A)) hS hA
  have hKe := hK.sub (tys' := []) [] rfl
  refine va_calli (va_runS (As := [.int p0]) (rest := []) ⟨hx, hb, hml, hown, hts⟩ (k_X12_isDate l dC dI H.size p0 ) (va_cwS 1 hts gX12_weekday_X12_isDate rfl rfl rfl (by decide +kernel) ⟨Nat.le_of_ble_eq_true rfl, Nat.le_of_ble_eq_true rfl⟩) ⟨fun a U g mk q => by obtain ⟨q0, q1, qP, qK, qD⟩ := q; exact ⟨q0, q1, qP, va_K.moved (u := U) (U := U.calling g mk a) (Vm.Alike.refl U.vm) qK, qD⟩, fun U hU hW => ⟨rfl, by rw [hU], hx_P0, va_K.moved hW.alike hKe, hx_D0⟩⟩ rfl rfl hl.1 rfl (lv_room (Nat.le_of_ble_eq_true rfl)) dX12_weekday_6 ⟨Nat.le_of_ble_eq_true rfl, Nat.le_of_ble_eq_true rfl⟩) hS (fun q _ h => hF q h) hF (fun r_1 u t H locs ht hvm hw hB hz1 hk1 hS => ?_)
  have hP := gKeep hP hk1
  have pu_2 : r_1 = f_X12_isDate p0 := hw
  have b0_3 : r_1 = 0 ∨ r_1 = 1 := by rw [pu_2]; exact isDate01 _
  refine lv_if_ne (tgt := 18) hx hb dX12_weekday_9 (by decide) (fun c_4 => ?_) (fun c_4 => ?_)
  · refine lv_aload_n hx hb dX12_weekday_18 rfl (lv_at hl 0 rfl) ?_
    refine lv_iload_n hx hb dX12_weekday_19 rfl (lv_at hl 1 rfl) ?_
    have hF := gFree (w := []) (hx_D0 (A := A)) hS hA
    have hKe := hK.sub (tys' := []) [] rfl
    refine va_calli (va_runS (As := [.int p0]) (rest := [.ref (ad 0)]) ⟨hx, hb, hml, hown, hts⟩ (k_X12_dayOf l dC dI H.size p0 ) (va_cwS 1 hts gX12_weekday_X12_dayOf rfl rfl rfl (by decide +kernel) ⟨Nat.le_of_ble_eq_true rfl, Nat.le_of_ble_eq_true rfl⟩) ⟨fun a U g mk q => by obtain ⟨q0, q1, qP, qK, qD⟩ := q; exact ⟨q0, q1, qP, va_K.moved (u := U) (U := U.calling g mk a) (Vm.Alike.refl U.vm) qK, qD⟩, fun U hU hW => ⟨rfl, by rw [hU], hx_P0, va_K.moved hW.alike hKe, hx_D0⟩⟩ rfl rfl hl.1 rfl (lv_room (Nat.le_of_ble_eq_true rfl)) dX12_weekday_20 ⟨Nat.le_of_ble_eq_true rfl, Nat.le_of_ble_eq_true rfl⟩) hS (fun q _ h => hF q h) hF (fun r_5 u t H locs ht hvm hw hB hz1 hk1 hS => ?_)
    have hP := gKeep hP hk1
    have pu_6 : r_5 = f_X12_dayOf p0 := hw
    have hF := gFree (w := []) (hx_D0 (A := A)) hS hA
    have hKe := hK.sub (tys' := []) [] rfl
    refine va_calli (va_runS (As := [.int r_5]) (rest := [.ref (ad 0)]) ⟨hx, hb, hml, hown, hts⟩ (k_X12_weekdayOf l dC dI H.size r_5 ) (va_cwS 1 hts gX12_weekday_X12_weekdayOf rfl rfl rfl (by decide +kernel) ⟨Nat.le_of_ble_eq_true rfl, Nat.le_of_ble_eq_true rfl⟩) ⟨fun a U g mk q => by obtain ⟨q0, q1, qP, qK, qD⟩ := q; exact ⟨q0, q1, qP, va_K.moved (u := U) (U := U.calling g mk a) (Vm.Alike.refl U.vm) qK, qD⟩, fun U hU hW => ⟨rfl, by rw [hU], hx_P0, va_K.moved hW.alike hKe, hx_D0⟩⟩ rfl rfl hl.1 rfl (lv_room (Nat.le_of_ble_eq_true rfl)) dX12_weekday_23 ⟨Nat.le_of_ble_eq_true rfl, Nat.le_of_ble_eq_true rfl⟩) hS (fun q _ h => hF q h) hF (fun r_7 u t H locs ht hvm hw hB hz1 hk1 hS => ?_)
    have hP := gKeep hP hk1
    have pu_8 : r_7 = f_X12_weekdayOf r_5 := hw
    have hF := gFree hD hS hA
    refine va_calliD hd0 (va_runV_D (As := [.int r_7]) (rest := []) ⟨hx, hb, hml, hown, hts⟩ (n_X12_good l dC dI ad cA adK adV H.size σ1 hIσ1 r_7) (cwV 1 hts gX12_weekday_X12_good rfl rfl rfl (by decide +kernel) ⟨Nat.le_of_ble_eq_true rfl, Nat.le_of_ble_eq_true rfl⟩) ⟨gBlind, va_recv hK hP (ci := 11) (q0 := 0) rfl (mat_11 rfl), gStart (As := [.ref (ad 0), .int r_7]) hP hD hK0 hT hS hF (s.drawn)⟩ rfl rfl hl.1 rfl (lv_room (Nat.le_of_ble_eq_true rfl)) dX12_weekday_26 ⟨Nat.le_of_ble_eq_true rfl, Nat.le_of_ble_eq_true rfl⟩) hS (fun q _ h => hF q h) hF (fun r_9 σ2 t H locs ht hvm hw hB hz1 hk1 hS d_10 hd0 => ?_)
    have hts := dr_words hts0 (d_10)
    have hK := gKd hK0 (d_10)
    have hown : (s.setDrawn (d_10)).vm.findClass RX12 = some m.cls := hown0
    obtain ⟨hP, hD⟩ := gBack hF ht hB
    obtain ⟨hIσ2, fcσ2, hp_11⟩ := hw
    refine W.endD hd0 ?_
    exact W.iret (v := r_9) hx hb hr (fun t ht hW => ⟨⟨r_9, σ2, rfl, ⟨hIσ2, (mFr.tr frσ1 fcσ2 (by decide) (by decide)), trivial⟩, ⟨by rw [ht]; exact hP, hD⟩⟩, hS.F ht⟩) hS.2.2 dX12_weekday_29
  · refine lv_aload_n hx hb dX12_weekday_12 rfl (lv_at hl 0 rfl) ?_
    refine lv_iconst (v := 2) hx hb dX12_weekday_13 (by decide) ?_
    have hF := gFree hD hS hA
    refine va_calliD hd0 (va_runV_D (As := [.int 2]) (rest := []) ⟨hx, hb, hml, hown, hts⟩ (n_X12_refused l dC dI ad cA adK adV H.size σ1 hIσ1 2) (cwV 1 hts gX12_weekday_X12_refused rfl rfl rfl (by decide +kernel) ⟨Nat.le_of_ble_eq_true rfl, Nat.le_of_ble_eq_true rfl⟩) ⟨gBlind, va_recv hK hP (ci := 11) (q0 := 0) rfl (mat_11 rfl), gStart (As := [.ref (ad 0), .int 2]) hP hD hK0 hT hS hF (s.drawn)⟩ rfl rfl hl.1 rfl (lv_room (Nat.le_of_ble_eq_true rfl)) dX12_weekday_14 ⟨Nat.le_of_ble_eq_true rfl, Nat.le_of_ble_eq_true rfl⟩) hS (fun q _ h => hF q h) hF (fun r_12 σ3 t H locs ht hvm hw hB hz1 hk1 hS d_13 hd0 => ?_)
    have hts := dr_words hts0 (d_13)
    have hK := gKd hK0 (d_13)
    have hown : (s.setDrawn (d_13)).vm.findClass RX12 = some m.cls := hown0
    obtain ⟨hP, hD⟩ := gBack hF ht hB
    obtain ⟨hIσ3, fcσ3, hp_14⟩ := hw
    refine W.endD hd0 ?_
    exact W.iret (v := r_12) hx hb hr (fun t ht hW => ⟨⟨r_12, σ3, rfl, ⟨hIσ3, (mFr.tr frσ1 fcσ3 (by decide) (by decide)), trivial⟩, ⟨by rw [ht]; exact hP, hD⟩⟩, hS.F ht⟩) hS.2.2 dX12_weekday_17
set_option maxHeartbeats 8000000 in
set_option maxRecDepth 100000 in
theorem n_X12_months (l : Launch) (dC : Nat → ClassId) (dI : Nat → Nat → Nat) (ad : Nat → Nat) (cA : Nat → ClassId) (adK adV : Nat → Nat) (sz : Nat) (σ : gs) (hI : InvM σ) (p0 : Int32) (p1 : Int32) (p2 : Int32) : MetD lw_cs l yX12_months wsX12_months ({ frames := 2, cells := 0, slots := 0, locals := 46 }) (va_Pc [.ref (ad 0), .int p0, .int p1, .int p2] (gPre adK adV (dC, dI) (wM ad cA σ) (tM cA) sz)) (va_Qi (fun (r : Int32) (τ : gs) => InvM τ ∧ mFr [] [0, 1, 2] σ τ ∧ (True)) (fun τ t => gPost (dC, dI) (va_A (wM ad cA σ) sz) (wM ad cA τ) t) (va_A (wM ad cA σ) sz)) 0 0 (va_A (wM ad cA σ) sz) := by
  refine MetD.ofW (cc := cX12_months) (maxL := 4) (ret := (some .int)) (by decide) rfl ?_
  intro p e s m args below meth c s₁ B hml hv hd0
  obtain ⟨rfl, hsz, hP, hK, hD0, hT⟩ := hv
  have hx := B.exec
  have hb := B.bytes
  have hr := B.returns
  have hts0 := atoms_spec (ws := wsX12_months) B.pre
  have hK0 := hK
  have hown0 : s.vm.findClass RX12 = some m.cls := findClass_of_methodNamed B.named
  have hlocks := B.notSynchronized
  have hinX12 : ∀ w ∈ u_ws RX12 TX12 69, w ∈ wsX12_months := (fun _ h9 => List.mem_cons_of_mem _ (List.mem_append_right _ h9))
  subst hsz
  have hD := hD0.self (sz := s.heap.size)
  generalize hAe : va_A (wM ad cA σ) s.heap.size = A at hD hT ⊢
  have hA : ∀ q : Nat, s.heap.size ≤ q → A q := fun q h => by rw [← hAe]; exact Or.inr h
  have hS : va_S A s.heap s.heap [] := va_S.rf
  have hl := lv_entry ([.ref (ad 0), .int p0, .int p1, .int p2]) (n := 4) (Nat.le_of_ble_eq_true rfl)
  rw [lg_entry_eq]
  generalize (lg_sl ([.ref (ad 0), .int p0, .int p1, .int p2]) ++ List.replicate (4 - (lg_sl ([.ref (ad 0), .int p0, .int p1, .int p2])).length) Slot.unset).toArray = ls at hl ⊢
  have hl : lv_has ls 4 [(0, .ref (ad 0)), (1, .int p0), (2, .int p1), (3, .int p2)] := hl
  have hts := dr_words hts0 (s.drawn)
  have hK := gKd hK0 (s.drawn)
  have hown : (s.setDrawn (s.drawn)).vm.findClass RX12 = some m.cls := hown0
  refine lv_aload_n hx hb dX12_months_0 rfl (lv_at hl 0 rfl) ?_
  refine lv_iconst (v := 0) hx hb dX12_months_1 (by decide) ?_
  refine va_put (D := (dC, dI)) (ci := 11) (v := .int 0) (C := RX12) (T := TX12) (N := 69) hx hb hts hinX12 tyX12 tyX12_ok nmX12 hown hK hP hD hS 0 (mat_11 rfl) rfl 0 (by decide) (hts (.fieldLink RX12 107 "BondCalendarsModel" "thrown" "I") (by decide +kernel)) (fun _ h9 => h9) rfl (ty := .int) (by decide +kernel) rfl rfl (Nat.le_of_ble_eq_true rfl) dX12_months_2 (fun H locs hP hD hS => ?_)
  obtain ⟨σ1, eσ1, hP, hD⟩ := gPut (mse_11_0 rfl) hP hD
  have hIσ1 : InvM σ1 := by rw [eσ1]; exact minv_I hI (mok_11_0 rfl _)
  have frσ1 : mFr [] [0, 1, 2] σ σ1 := by rw [eσ1]; exact mFr.oI (mFr.rfl (L := []) (F := [0, 1, 2]) (σ := σ)) (by decide)
  refine lv_iload_n hx hb dX12_months_5 rfl (lv_at hl 1 rfl) ?_
  have hF := gFree (w := []) (hx_D0 (A := A)) hS hA
  have hKe := hK.sub (tys' := []) [] rfl
  refine va_calli (va_runS (As := [.int p0]) (rest := []) ⟨hx, hb, hml, hown, hts⟩ (k_X12_isDate l dC dI H.size p0 ) (va_cwS 1 hts gX12_months_X12_isDate rfl rfl rfl (by decide +kernel) ⟨Nat.le_of_ble_eq_true rfl, Nat.le_of_ble_eq_true rfl⟩) ⟨fun a U g mk q => by obtain ⟨q0, q1, qP, qK, qD⟩ := q; exact ⟨q0, q1, qP, va_K.moved (u := U) (U := U.calling g mk a) (Vm.Alike.refl U.vm) qK, qD⟩, fun U hU hW => ⟨rfl, by rw [hU], hx_P0, va_K.moved hW.alike hKe, hx_D0⟩⟩ rfl rfl hl.1 rfl (lv_room (Nat.le_of_ble_eq_true rfl)) dX12_months_6 ⟨Nat.le_of_ble_eq_true rfl, Nat.le_of_ble_eq_true rfl⟩) hS (fun q _ h => hF q h) hF (fun r_1 u t H locs ht hvm hw hB hz1 hk1 hS => ?_)
  have hP := gKeep hP hk1
  have pu_2 : r_1 = f_X12_isDate p0 := hw
  have b0_3 : r_1 = 0 ∨ r_1 = 1 := by rw [pu_2]; exact isDate01 _
  refine lv_if_eq (tgt := 23) hx hb dX12_months_9 (by decide) (fun c_4 => ?_) (fun c_4 => ?_)
  · refine lv_aload_n hx hb dX12_months_23 rfl (lv_at hl 0 rfl) ?_
    refine lv_iconst (v := 2) hx hb dX12_months_24 (by decide) ?_
    have hF := gFree hD hS hA
    refine va_calliD hd0 (va_runV_D (As := [.int 2]) (rest := []) ⟨hx, hb, hml, hown, hts⟩ (n_X12_refused l dC dI ad cA adK adV H.size σ1 hIσ1 2) (cwV 1 hts gX12_months_X12_refused rfl rfl rfl (by decide +kernel) ⟨Nat.le_of_ble_eq_true rfl, Nat.le_of_ble_eq_true rfl⟩) ⟨gBlind, va_recv hK hP (ci := 11) (q0 := 0) rfl (mat_11 rfl), gStart (As := [.ref (ad 0), .int 2]) hP hD hK0 hT hS hF (s.drawn)⟩ rfl rfl hl.1 rfl (lv_room (Nat.le_of_ble_eq_true rfl)) dX12_months_25 ⟨Nat.le_of_ble_eq_true rfl, Nat.le_of_ble_eq_true rfl⟩) hS (fun q _ h => hF q h) hF (fun r_5 σ2 t H locs ht hvm hw hB hz1 hk1 hS d_6 hd0 => ?_)
    have hts := dr_words hts0 (d_6)
    have hK := gKd hK0 (d_6)
    have hown : (s.setDrawn (d_6)).vm.findClass RX12 = some m.cls := hown0
    obtain ⟨hP, hD⟩ := gBack hF ht hB
    obtain ⟨hIσ2, fcσ2, hp_7⟩ := hw
    refine W.endD hd0 ?_
    exact W.iret (v := r_5) hx hb hr (fun t ht hW => ⟨⟨r_5, σ2, rfl, ⟨hIσ2, (mFr.tr frσ1 fcσ2 (by decide) (by decide)), trivial⟩, ⟨by rw [ht]; exact hP, hD⟩⟩, hS.F ht⟩) hS.2.2 dX12_months_28
  · refine lv_iload_n hx hb dX12_months_12 rfl (lv_at hl 2 rfl) ?_
    refine lv_bipush (v := (-120)) hx hb dX12_months_13 (by decide) ?_
    refine lv_bipush (v := 120) hx hb dX12_months_15 (by decide) ?_
    have hF := gFree (w := []) (hx_D0 (A := A)) hS hA
    have hKe := hK.sub (tys' := []) [] rfl
    refine va_calli (va_runS (As := [.int p1, .int (-120), .int 120]) (rest := []) ⟨hx, hb, hml, hown, hts⟩ (k_X12_in l dC dI H.size p1 (-120) 120 ) (va_cwS 3 hts gX12_months_X12_in rfl rfl rfl (by decide +kernel) ⟨Nat.le_of_ble_eq_true rfl, Nat.le_of_ble_eq_true rfl⟩) ⟨fun a U g mk q => by obtain ⟨q0, q1, qP, qK, qD⟩ := q; exact ⟨q0, q1, qP, va_K.moved (u := U) (U := U.calling g mk a) (Vm.Alike.refl U.vm) qK, qD⟩, fun U hU hW => ⟨rfl, by rw [hU], hx_P0, va_K.moved hW.alike hKe, hx_D0⟩⟩ rfl rfl hl.1 rfl (lv_room (Nat.le_of_ble_eq_true rfl)) dX12_months_17 ⟨Nat.le_of_ble_eq_true rfl, Nat.le_of_ble_eq_true rfl⟩) hS (fun q _ h => hF q h) hF (fun r_8 u t H locs ht hvm hw hB hz1 hk1 hS => ?_)
    have hP := gKeep hP hk1
    have in_9 : r_8 = f_X12_in p1 (-120) 120 := hw
    have bin_9 : r_8 = 0 ∨ r_8 = 1 := by rw [in_9]; exact in01 _ _ _
    refine lv_if_ne (tgt := 29) hx hb dX12_months_20 (by decide) (fun c_10 => ?_) (fun c_10 => ?_)
    · refine lv_aload_n hx hb dX12_months_29 rfl (lv_at hl 0 rfl) ?_
      refine lv_iload_n hx hb dX12_months_30 rfl (lv_at hl 1 rfl) ?_
      refine lv_iload_n hx hb dX12_months_31 rfl (lv_at hl 2 rfl) ?_
      refine lv_iload_n hx hb dX12_months_32 rfl (lv_at hl 3 rfl) ?_
      refine lv_if_eq (tgt := 47) hx hb dX12_months_33 (by decide) (fun c_11 => ?_) (fun c_11 => ?_)
      · refine lv_iconst (v := 0) hx hb dX12_months_47 (by decide) ?_
        have hF := gFree (w := []) (hx_D0 (A := A)) hS hA
        have hKe := hK.sub (tys' := []) [] rfl
        refine va_calli (va_runS (As := [.int p0, .int p1, .int 0]) (rest := [.ref (ad 0)]) ⟨hx, hb, hml, hown, hts⟩ (k_X12_monthsFrom l dC dI H.size p0 p1 0 ) (va_cwS 3 hts gX12_months_X12_monthsFrom rfl rfl rfl (by decide +kernel) ⟨Nat.le_of_ble_eq_true rfl, Nat.le_of_ble_eq_true rfl⟩) ⟨fun a U g mk q => by obtain ⟨q0, q1, qP, qK, qD⟩ := q; exact ⟨q0, q1, qP, va_K.moved (u := U) (U := U.calling g mk a) (Vm.Alike.refl U.vm) qK, qD⟩, fun U hU hW => ⟨rfl, by rw [hU], hx_P0, va_K.moved hW.alike hKe, hx_D0⟩⟩ rfl rfl hl.1 rfl (lv_room (Nat.le_of_ble_eq_true rfl)) dX12_months_48 ⟨Nat.le_of_ble_eq_true rfl, Nat.le_of_ble_eq_true rfl⟩) hS (fun q _ h => hF q h) hF (fun r_12 u t H locs ht hvm hw hB hz1 hk1 hS => ?_)
        have hP := gKeep hP hk1
        have pu_13 : r_12 = f_X12_monthsFrom p0 p1 0 := hw
        have hF := gFree hD hS hA
        refine va_calliD hd0 (va_runV_D (As := [.int r_12]) (rest := []) ⟨hx, hb, hml, hown, hts⟩ (n_X12_good l dC dI ad cA adK adV H.size σ1 hIσ1 r_12) (cwV 1 hts gX12_months_X12_good rfl rfl rfl (by decide +kernel) ⟨Nat.le_of_ble_eq_true rfl, Nat.le_of_ble_eq_true rfl⟩) ⟨gBlind, va_recv hK hP (ci := 11) (q0 := 0) rfl (mat_11 rfl), gStart (As := [.ref (ad 0), .int r_12]) hP hD hK0 hT hS hF (s.drawn)⟩ rfl rfl hl.1 rfl (lv_room (Nat.le_of_ble_eq_true rfl)) dX12_months_51 ⟨Nat.le_of_ble_eq_true rfl, Nat.le_of_ble_eq_true rfl⟩) hS (fun q _ h => hF q h) hF (fun r_14 σ3 t H locs ht hvm hw hB hz1 hk1 hS d_15 hd0 => ?_)
        have hts := dr_words hts0 (d_15)
        have hK := gKd hK0 (d_15)
        have hown : (s.setDrawn (d_15)).vm.findClass RX12 = some m.cls := hown0
        obtain ⟨hP, hD⟩ := gBack hF ht hB
        obtain ⟨hIσ3, fcσ3, hp_16⟩ := hw
        refine W.endD hd0 ?_
        exact W.iret (v := r_14) hx hb hr (fun t ht hW => ⟨⟨r_14, σ3, rfl, ⟨hIσ3, (mFr.tr frσ1 fcσ3 (by decide) (by decide)), trivial⟩, ⟨by rw [ht]; exact hP, hD⟩⟩, hS.F ht⟩) hS.2.2 dX12_months_54
      · refine lv_iload_n hx hb dX12_months_36 rfl (lv_at hl 1 rfl) ?_
        have hF := gFree (w := []) (hx_D0 (A := A)) hS hA
        have hKe := hK.sub (tys' := []) [] rfl
        refine va_calli (va_runS (As := [.int p0]) (rest := [.int p1, .int p0, .ref (ad 0)]) ⟨hx, hb, hml, hown, hts⟩ (k_X12_isMonthEnd l dC dI H.size p0 ) (va_cwS 1 hts gX12_months_X12_isMonthEnd rfl rfl rfl (by decide +kernel) ⟨Nat.le_of_ble_eq_true rfl, Nat.le_of_ble_eq_true rfl⟩) ⟨fun a U g mk q => by obtain ⟨q0, q1, qP, qK, qD⟩ := q; exact ⟨q0, q1, qP, va_K.moved (u := U) (U := U.calling g mk a) (Vm.Alike.refl U.vm) qK, qD⟩, fun U hU hW => ⟨rfl, by rw [hU], hx_P0, va_K.moved hW.alike hKe, hx_D0⟩⟩ rfl rfl hl.1 rfl (lv_room (Nat.le_of_ble_eq_true rfl)) dX12_months_37 ⟨Nat.le_of_ble_eq_true rfl, Nat.le_of_ble_eq_true rfl⟩) hS (fun q _ h => hF q h) hF (fun r_17 u t H locs ht hvm hw hB hz1 hk1 hS => ?_)
        have hP := gKeep hP hk1
        have pu_18 : r_17 = f_X12_isMonthEnd p0 := hw
        have b0_19 : r_17 = 0 ∨ r_17 = 1 := by rw [pu_18]; exact isMonthEnd01 _
        refine lv_if_eq (tgt := 47) hx hb dX12_months_40 (by decide) (fun c_20 => ?_) (fun c_20 => ?_)
        · refine lv_iconst (v := 0) hx hb dX12_months_47 (by decide) ?_
          have hF := gFree (w := []) (hx_D0 (A := A)) hS hA
          have hKe := hK.sub (tys' := []) [] rfl
          refine va_calli (va_runS (As := [.int p0, .int p1, .int 0]) (rest := [.ref (ad 0)]) ⟨hx, hb, hml, hown, hts⟩ (k_X12_monthsFrom l dC dI H.size p0 p1 0 ) (va_cwS 3 hts gX12_months_X12_monthsFrom rfl rfl rfl (by decide +kernel) ⟨Nat.le_of_ble_eq_true rfl, Nat.le_of_ble_eq_true rfl⟩) ⟨fun a U g mk q => by obtain ⟨q0, q1, qP, qK, qD⟩ := q; exact ⟨q0, q1, qP, va_K.moved (u := U) (U := U.calling g mk a) (Vm.Alike.refl U.vm) qK, qD⟩, fun U hU hW => ⟨rfl, by rw [hU], hx_P0, va_K.moved hW.alike hKe, hx_D0⟩⟩ rfl rfl hl.1 rfl (lv_room (Nat.le_of_ble_eq_true rfl)) dX12_months_48 ⟨Nat.le_of_ble_eq_true rfl, Nat.le_of_ble_eq_true rfl⟩) hS (fun q _ h => hF q h) hF (fun r_21 u t H locs ht hvm hw hB hz1 hk1 hS => ?_)
          have hP := gKeep hP hk1
          have pu_22 : r_21 = f_X12_monthsFrom p0 p1 0 := hw
          have hF := gFree hD hS hA
          refine va_calliD hd0 (va_runV_D (As := [.int r_21]) (rest := []) ⟨hx, hb, hml, hown, hts⟩ (n_X12_good l dC dI ad cA adK adV H.size σ1 hIσ1 r_21) (cwV 1 hts gX12_months_X12_good rfl rfl rfl (by decide +kernel) ⟨Nat.le_of_ble_eq_true rfl, Nat.le_of_ble_eq_true rfl⟩) ⟨gBlind, va_recv hK hP (ci := 11) (q0 := 0) rfl (mat_11 rfl), gStart (As := [.ref (ad 0), .int r_21]) hP hD hK0 hT hS hF (s.drawn)⟩ rfl rfl hl.1 rfl (lv_room (Nat.le_of_ble_eq_true rfl)) dX12_months_51 ⟨Nat.le_of_ble_eq_true rfl, Nat.le_of_ble_eq_true rfl⟩) hS (fun q _ h => hF q h) hF (fun r_23 σ4 t H locs ht hvm hw hB hz1 hk1 hS d_24 hd0 => ?_)
          have hts := dr_words hts0 (d_24)
          have hK := gKd hK0 (d_24)
          have hown : (s.setDrawn (d_24)).vm.findClass RX12 = some m.cls := hown0
          obtain ⟨hP, hD⟩ := gBack hF ht hB
          obtain ⟨hIσ4, fcσ4, hp_25⟩ := hw
          refine W.endD hd0 ?_
          exact W.iret (v := r_23) hx hb hr (fun t ht hW => ⟨⟨r_23, σ4, rfl, ⟨hIσ4, (mFr.tr frσ1 fcσ4 (by decide) (by decide)), trivial⟩, ⟨by rw [ht]; exact hP, hD⟩⟩, hS.F ht⟩) hS.2.2 dX12_months_54
        · refine lv_iconst (v := 1) hx hb dX12_months_43 (by decide) ?_
          refine lv_goto (tgt := 48) hx hb dX12_months_44 (by decide) ?_
          have hF := gFree (w := []) (hx_D0 (A := A)) hS hA
          have hKe := hK.sub (tys' := []) [] rfl
          refine va_calli (va_runS (As := [.int p0, .int p1, .int 1]) (rest := [.ref (ad 0)]) ⟨hx, hb, hml, hown, hts⟩ (k_X12_monthsFrom l dC dI H.size p0 p1 1 ) (va_cwS 3 hts gX12_months_X12_monthsFrom rfl rfl rfl (by decide +kernel) ⟨Nat.le_of_ble_eq_true rfl, Nat.le_of_ble_eq_true rfl⟩) ⟨fun a U g mk q => by obtain ⟨q0, q1, qP, qK, qD⟩ := q; exact ⟨q0, q1, qP, va_K.moved (u := U) (U := U.calling g mk a) (Vm.Alike.refl U.vm) qK, qD⟩, fun U hU hW => ⟨rfl, by rw [hU], hx_P0, va_K.moved hW.alike hKe, hx_D0⟩⟩ rfl rfl hl.1 rfl (lv_room (Nat.le_of_ble_eq_true rfl)) dX12_months_48 ⟨Nat.le_of_ble_eq_true rfl, Nat.le_of_ble_eq_true rfl⟩) hS (fun q _ h => hF q h) hF (fun r_26 u t H locs ht hvm hw hB hz1 hk1 hS => ?_)
          have hP := gKeep hP hk1
          have pu_27 : r_26 = f_X12_monthsFrom p0 p1 1 := hw
          have hF := gFree hD hS hA
          refine va_calliD hd0 (va_runV_D (As := [.int r_26]) (rest := []) ⟨hx, hb, hml, hown, hts⟩ (n_X12_good l dC dI ad cA adK adV H.size σ1 hIσ1 r_26) (cwV 1 hts gX12_months_X12_good rfl rfl rfl (by decide +kernel) ⟨Nat.le_of_ble_eq_true rfl, Nat.le_of_ble_eq_true rfl⟩) ⟨gBlind, va_recv hK hP (ci := 11) (q0 := 0) rfl (mat_11 rfl), gStart (As := [.ref (ad 0), .int r_26]) hP hD hK0 hT hS hF (s.drawn)⟩ rfl rfl hl.1 rfl (lv_room (Nat.le_of_ble_eq_true rfl)) dX12_months_51 ⟨Nat.le_of_ble_eq_true rfl, Nat.le_of_ble_eq_true rfl⟩) hS (fun q _ h => hF q h) hF (fun r_28 σ5 t H locs ht hvm hw hB hz1 hk1 hS d_29 hd0 => ?_)
          have hts := dr_words hts0 (d_29)
          have hK := gKd hK0 (d_29)
          have hown : (s.setDrawn (d_29)).vm.findClass RX12 = some m.cls := hown0
          obtain ⟨hP, hD⟩ := gBack hF ht hB
          obtain ⟨hIσ5, fcσ5, hp_30⟩ := hw
          refine W.endD hd0 ?_
          exact W.iret (v := r_28) hx hb hr (fun t ht hW => ⟨⟨r_28, σ5, rfl, ⟨hIσ5, (mFr.tr frσ1 fcσ5 (by decide) (by decide)), trivial⟩, ⟨by rw [ht]; exact hP, hD⟩⟩, hS.F ht⟩) hS.2.2 dX12_months_54
    · refine lv_aload_n hx hb dX12_months_23 rfl (lv_at hl 0 rfl) ?_
      refine lv_iconst (v := 2) hx hb dX12_months_24 (by decide) ?_
      have hF := gFree hD hS hA
      refine va_calliD hd0 (va_runV_D (As := [.int 2]) (rest := []) ⟨hx, hb, hml, hown, hts⟩ (n_X12_refused l dC dI ad cA adK adV H.size σ1 hIσ1 2) (cwV 1 hts gX12_months_X12_refused rfl rfl rfl (by decide +kernel) ⟨Nat.le_of_ble_eq_true rfl, Nat.le_of_ble_eq_true rfl⟩) ⟨gBlind, va_recv hK hP (ci := 11) (q0 := 0) rfl (mat_11 rfl), gStart (As := [.ref (ad 0), .int 2]) hP hD hK0 hT hS hF (s.drawn)⟩ rfl rfl hl.1 rfl (lv_room (Nat.le_of_ble_eq_true rfl)) dX12_months_25 ⟨Nat.le_of_ble_eq_true rfl, Nat.le_of_ble_eq_true rfl⟩) hS (fun q _ h => hF q h) hF (fun r_31 σ6 t H locs ht hvm hw hB hz1 hk1 hS d_32 hd0 => ?_)
      have hts := dr_words hts0 (d_32)
      have hK := gKd hK0 (d_32)
      have hown : (s.setDrawn (d_32)).vm.findClass RX12 = some m.cls := hown0
      obtain ⟨hP, hD⟩ := gBack hF ht hB
      obtain ⟨hIσ6, fcσ6, hp_33⟩ := hw
      refine W.endD hd0 ?_
      exact W.iret (v := r_31) hx hb hr (fun t ht hW => ⟨⟨r_31, σ6, rfl, ⟨hIσ6, (mFr.tr frσ1 fcσ6 (by decide) (by decide)), trivial⟩, ⟨by rw [ht]; exact hP, hD⟩⟩, hS.F ht⟩) hS.2.2 dX12_months_28
set_option maxHeartbeats 8000000 in
set_option maxRecDepth 100000 in
theorem n_X12_now (l : Launch) (dC : Nat → ClassId) (dI : Nat → Nat → Nat) (ad : Nat → Nat) (cA : Nat → ClassId) (adK adV : Nat → Nat) (sz : Nat) (σ : gs) (hI : InvM σ)  : MetD lw_cs l yX12_now wsX12_now ({ frames := 1, cells := 0, slots := 0, locals := 21 }) (va_Pc [.ref (ad 0)] (gPre adK adV (dC, dI) (wM ad cA σ) (tM cA) sz)) (va_Qi (fun (r : Int32) (τ : gs) => InvM τ ∧ mFr [] [0, 1, 2] σ τ ∧ (True)) (fun τ t => gPost (dC, dI) (va_A (wM ad cA σ) sz) (wM ad cA τ) t) (va_A (wM ad cA σ) sz)) 0 0 (va_A (wM ad cA σ) sz) := by
  refine MetD.ofW (cc := cX12_now) (maxL := 1) (ret := (some .int)) (by decide) rfl ?_
  intro p e s m args below meth c s₁ B hml hv hd0
  obtain ⟨rfl, hsz, hP, hK, hD0, hT⟩ := hv
  have hx := B.exec
  have hb := B.bytes
  have hr := B.returns
  have hts0 := atoms_spec (ws := wsX12_now) B.pre
  have hK0 := hK
  have hown0 : s.vm.findClass RX12 = some m.cls := findClass_of_methodNamed B.named
  have hlocks := B.notSynchronized
  have hinX12 : ∀ w ∈ u_ws RX12 TX12 69, w ∈ wsX12_now := (fun _ h9 => List.mem_cons_of_mem _ (List.mem_append_right _ h9))
  subst hsz
  have hD := hD0.self (sz := s.heap.size)
  generalize hAe : va_A (wM ad cA σ) s.heap.size = A at hD hT ⊢
  have hA : ∀ q : Nat, s.heap.size ≤ q → A q := fun q h => by rw [← hAe]; exact Or.inr h
  have hS : va_S A s.heap s.heap [] := va_S.rf
  have hl := lv_entry ([.ref (ad 0)]) (n := 1) (Nat.le_of_ble_eq_true rfl)
  rw [lg_entry_eq]
  generalize (lg_sl ([.ref (ad 0)]) ++ List.replicate (1 - (lg_sl ([.ref (ad 0)])).length) Slot.unset).toArray = ls at hl ⊢
  have hl : lv_has ls 1 [(0, .ref (ad 0))] := hl
  have hts := dr_words hts0 (s.drawn)
  have hK := gKd hK0 (s.drawn)
  have hown : (s.setDrawn (s.drawn)).vm.findClass RX12 = some m.cls := hown0
  refine lv_aload_n hx hb dX12_now_0 rfl (lv_at hl 0 rfl) ?_
  refine lv_iconst (v := 0) hx hb dX12_now_1 (by decide) ?_
  refine va_put (D := (dC, dI)) (ci := 11) (v := .int 0) (C := RX12) (T := TX12) (N := 69) hx hb hts hinX12 tyX12 tyX12_ok nmX12 hown hK hP hD hS 0 (mat_11 rfl) rfl 0 (by decide) (hts (.fieldLink RX12 107 "BondCalendarsModel" "thrown" "I") (by decide +kernel)) (fun _ h9 => h9) rfl (ty := .int) (by decide +kernel) rfl rfl (Nat.le_of_ble_eq_true rfl) dX12_now_2 (fun H locs hP hD hS => ?_)
  obtain ⟨σ1, eσ1, hP, hD⟩ := gPut (mse_11_0 rfl) hP hD
  have hIσ1 : InvM σ1 := by rw [eσ1]; exact minv_I hI (mok_11_0 rfl _)
  have frσ1 : mFr [] [0, 1, 2] σ σ1 := by rw [eσ1]; exact mFr.oI (mFr.rfl (L := []) (F := [0, 1, 2]) (σ := σ)) (by decide)
  refine lv_aload_n hx hb dX12_now_5 rfl (lv_at hl 0 rfl) ?_
  have bd_1 := mrd_11_28 (c := 0) hI rfl
  refine va_get (D := (dC, dI)) (ci := 11) (v := .int ((σ 0).1 28)) (C := RX12) (T := TX12) (N := 69) hx hb hts hinX12 hown hK hP 0 (mat_11 rfl) rfl 28 (by decide) (hts (.fieldLink RX12 361 "BondCalendarsModel" "isThere" "Z") (by decide +kernel)) (fun _ h9 => h9) (congrArg (fun z => some (Value.int z)) (show (σ1 0).1 28 = ((σ 0).1 28) from by rw [eσ1, gI_oth _ _ _ (by decide)])) dX12_now_6 ?_
  refine lv_if_ne (tgt := 18) hx hb dX12_now_9 (by decide) (fun c_2 => ?_) (fun c_2 => ?_)
  · refine lv_aload_n hx hb dX12_now_18 rfl (lv_at hl 0 rfl) ?_
    refine lv_aload_n hx hb dX12_now_19 rfl (lv_at hl 0 rfl) ?_
    refine va_get (D := (dC, dI)) (ci := 11) (v := .int ((σ 0).1 64)) (C := RX12) (T := TX12) (N := 69) hx hb hts hinX12 hown hK hP 0 (mat_11 rfl) rfl 64 (by decide) (hts (.fieldLink RX12 377 "BondCalendarsModel" "now" "I") (by decide +kernel)) (fun _ h9 => h9) (congrArg (fun z => some (Value.int z)) (show (σ1 0).1 64 = ((σ 0).1 64) from by rw [eσ1, gI_oth _ _ _ (by decide)])) dX12_now_20 ?_
    have hF := gFree hD hS hA
    refine va_calliD hd0 (va_runV_D (As := [.int ((σ 0).1 64)]) (rest := []) ⟨hx, hb, hml, hown, hts⟩ (n_X12_good l dC dI ad cA adK adV H.size σ1 hIσ1 ((σ 0).1 64)) (cwV 1 hts gX12_now_X12_good rfl rfl rfl (by decide +kernel) ⟨Nat.le_of_ble_eq_true rfl, Nat.le_of_ble_eq_true rfl⟩) ⟨gBlind, va_recv hK hP (ci := 11) (q0 := 0) rfl (mat_11 rfl), gStart (As := [.ref (ad 0), .int ((σ 0).1 64)]) hP hD hK0 hT hS hF (s.drawn)⟩ rfl rfl hl.1 rfl (lv_room (Nat.le_of_ble_eq_true rfl)) dX12_now_23 ⟨Nat.le_of_ble_eq_true rfl, Nat.le_of_ble_eq_true rfl⟩) hS (fun q _ h => hF q h) hF (fun r_3 σ2 t H locs ht hvm hw hB hz1 hk1 hS d_4 hd0 => ?_)
    have hts := dr_words hts0 (d_4)
    have hK := gKd hK0 (d_4)
    have hown : (s.setDrawn (d_4)).vm.findClass RX12 = some m.cls := hown0
    obtain ⟨hP, hD⟩ := gBack hF ht hB
    obtain ⟨hIσ2, fcσ2, hp_5⟩ := hw
    refine W.endD hd0 ?_
    exact W.iret (v := r_3) hx hb hr (fun t ht hW => ⟨⟨r_3, σ2, rfl, ⟨hIσ2, (mFr.tr frσ1 fcσ2 (by decide) (by decide)), trivial⟩, ⟨by rw [ht]; exact hP, hD⟩⟩, hS.F ht⟩) hS.2.2 dX12_now_26
  · refine lv_aload_n hx hb dX12_now_12 rfl (lv_at hl 0 rfl) ?_
    refine lv_iconst (v := 1) hx hb dX12_now_13 (by decide) ?_
    have hF := gFree hD hS hA
    refine va_calliD hd0 (va_runV_D (As := [.int 1]) (rest := []) ⟨hx, hb, hml, hown, hts⟩ (n_X12_refused l dC dI ad cA adK adV H.size σ1 hIσ1 1) (cwV 1 hts gX12_now_X12_refused rfl rfl rfl (by decide +kernel) ⟨Nat.le_of_ble_eq_true rfl, Nat.le_of_ble_eq_true rfl⟩) ⟨gBlind, va_recv hK hP (ci := 11) (q0 := 0) rfl (mat_11 rfl), gStart (As := [.ref (ad 0), .int 1]) hP hD hK0 hT hS hF (s.drawn)⟩ rfl rfl hl.1 rfl (lv_room (Nat.le_of_ble_eq_true rfl)) dX12_now_14 ⟨Nat.le_of_ble_eq_true rfl, Nat.le_of_ble_eq_true rfl⟩) hS (fun q _ h => hF q h) hF (fun r_6 σ3 t H locs ht hvm hw hB hz1 hk1 hS d_7 hd0 => ?_)
    have hts := dr_words hts0 (d_7)
    have hK := gKd hK0 (d_7)
    have hown : (s.setDrawn (d_7)).vm.findClass RX12 = some m.cls := hown0
    obtain ⟨hP, hD⟩ := gBack hF ht hB
    obtain ⟨hIσ3, fcσ3, hp_8⟩ := hw
    refine W.endD hd0 ?_
    exact W.iret (v := r_6) hx hb hr (fun t ht hW => ⟨⟨r_6, σ3, rfl, ⟨hIσ3, (mFr.tr frσ1 fcσ3 (by decide) (by decide)), trivial⟩, ⟨by rw [ht]; exact hP, hD⟩⟩, hS.F ht⟩) hS.2.2 dX12_now_17
set_option maxHeartbeats 8000000 in
set_option maxRecDepth 100000 in
theorem n_X12_cash (l : Launch) (dC : Nat → ClassId) (dI : Nat → Nat → Nat) (ad : Nat → Nat) (cA : Nat → ClassId) (adK adV : Nat → Nat) (sz : Nat) (σ : gs) (hI : InvM σ)  : MetD lw_cs l yX12_cash wsX12_cash ({ frames := 2, cells := 0, slots := 0, locals := 44 }) (va_Pc [.ref (ad 0)] (gPre adK adV (dC, dI) (wM ad cA σ) (tM cA) sz)) (va_Ql (fun (r : Int64) (τ : gs) => InvM τ ∧ mFr [] [0, 1, 2] σ τ ∧ (True)) (fun τ t => gPost (dC, dI) (va_A (wM ad cA σ) sz) (wM ad cA τ) t) (va_A (wM ad cA σ) sz)) 0 0 (va_A (wM ad cA σ) sz) := by
  refine MetD.ofW (cc := cX12_cash) (maxL := 1) (ret := (some .long)) (by decide) rfl ?_
  intro p e s m args below meth c s₁ B hml hv hd0
  obtain ⟨rfl, hsz, hP, hK, hD0, hT⟩ := hv
  have hx := B.exec
  have hb := B.bytes
  have hr := B.returns
  have hts0 := atoms_spec (ws := wsX12_cash) B.pre
  have hK0 := hK
  have hown0 : s.vm.findClass RX12 = some m.cls := findClass_of_methodNamed B.named
  have hlocks := B.notSynchronized
  have hinX12 : ∀ w ∈ u_ws RX12 TX12 69, w ∈ wsX12_cash := (fun _ h9 => List.mem_cons_of_mem _ (List.mem_append_right _ h9))
  subst hsz
  have hD := hD0.self (sz := s.heap.size)
  generalize hAe : va_A (wM ad cA σ) s.heap.size = A at hD hT ⊢
  have hA : ∀ q : Nat, s.heap.size ≤ q → A q := fun q h => by rw [← hAe]; exact Or.inr h
  have hS : va_S A s.heap s.heap [] := va_S.rf
  have hl := lv_entry ([.ref (ad 0)]) (n := 1) (Nat.le_of_ble_eq_true rfl)
  rw [lg_entry_eq]
  generalize (lg_sl ([.ref (ad 0)]) ++ List.replicate (1 - (lg_sl ([.ref (ad 0)])).length) Slot.unset).toArray = ls at hl ⊢
  have hl : lv_has ls 1 [(0, .ref (ad 0))] := hl
  have hts := dr_words hts0 (s.drawn)
  have hK := gKd hK0 (s.drawn)
  have hown : (s.setDrawn (s.drawn)).vm.findClass RX12 = some m.cls := hown0
  refine lv_aload_n hx hb dX12_cash_0 rfl (lv_at hl 0 rfl) ?_
  refine lv_iconst (v := 0) hx hb dX12_cash_1 (by decide) ?_
  refine va_put (D := (dC, dI)) (ci := 11) (v := .int 0) (C := RX12) (T := TX12) (N := 69) hx hb hts hinX12 tyX12 tyX12_ok nmX12 hown hK hP hD hS 0 (mat_11 rfl) rfl 0 (by decide) (hts (.fieldLink RX12 107 "BondCalendarsModel" "thrown" "I") (by decide +kernel)) (fun _ h9 => h9) rfl (ty := .int) (by decide +kernel) rfl rfl (Nat.le_of_ble_eq_true rfl) dX12_cash_2 (fun H locs hP hD hS => ?_)
  obtain ⟨σ1, eσ1, hP, hD⟩ := gPut (mse_11_0 rfl) hP hD
  have hIσ1 : InvM σ1 := by rw [eσ1]; exact minv_I hI (mok_11_0 rfl _)
  have frσ1 : mFr [] [0, 1, 2] σ σ1 := by rw [eσ1]; exact mFr.oI (mFr.rfl (L := []) (F := [0, 1, 2]) (σ := σ)) (by decide)
  refine lv_aload_n hx hb dX12_cash_5 rfl (lv_at hl 0 rfl) ?_
  have bd_1 := mrd_11_28 (c := 0) hI rfl
  refine va_get (D := (dC, dI)) (ci := 11) (v := .int ((σ 0).1 28)) (C := RX12) (T := TX12) (N := 69) hx hb hts hinX12 hown hK hP 0 (mat_11 rfl) rfl 28 (by decide) (hts (.fieldLink RX12 361 "BondCalendarsModel" "isThere" "Z") (by decide +kernel)) (fun _ h9 => h9) (congrArg (fun z => some (Value.int z)) (show (σ1 0).1 28 = ((σ 0).1 28) from by rw [eσ1, gI_oth _ _ _ (by decide)])) dX12_cash_6 ?_
  refine lv_if_ne (tgt := 21) hx hb dX12_cash_9 (by decide) (fun c_2 => ?_) (fun c_2 => ?_)
  · refine lv_aload_n hx hb dX12_cash_21 rfl (lv_at hl 0 rfl) ?_
    refine lv_aload_n hx hb dX12_cash_22 rfl (lv_at hl 0 rfl) ?_
    refine va_get (D := (dC, dI)) (ci := 11) (v := .long ((σ1 0).2.1 66)) (C := RX12) (T := TX12) (N := 69) hx hb hts hinX12 hown hK hP 0 (mat_11 rfl) rfl 66 (by decide) (hts (.fieldLink RX12 380 "BondCalendarsModel" "cash" "J") (by decide +kernel)) (fun _ h9 => h9) rfl dX12_cash_23 ?_
    have hF := gFree hD hS hA
    refine va_calllD hd0 (va_runV_D (As := [.long ((σ1 0).2.1 66)]) (rest := []) ⟨hx, hb, hml, hown, hts⟩ (n_X12_goodLong l dC dI ad cA adK adV H.size σ1 hIσ1 ((σ1 0).2.1 66)) (cwV 1 hts gX12_cash_X12_goodLong rfl rfl rfl (by decide +kernel) ⟨Nat.le_of_ble_eq_true rfl, Nat.le_of_ble_eq_true rfl⟩) ⟨gBlind, va_recv hK hP (ci := 11) (q0 := 0) rfl (mat_11 rfl), gStart (As := [.ref (ad 0), .long ((σ1 0).2.1 66)]) hP hD hK0 hT hS hF (s.drawn)⟩ rfl rfl hl.1 rfl (lv_room (Nat.le_of_ble_eq_true rfl)) dX12_cash_26 ⟨Nat.le_of_ble_eq_true rfl, Nat.le_of_ble_eq_true rfl⟩) hS (fun q _ h => hF q h) hF (fun r_3 σ2 t H locs ht hvm hw hB hz1 hk1 hS d_4 hd0 => ?_)
    have hts := dr_words hts0 (d_4)
    have hK := gKd hK0 (d_4)
    have hown : (s.setDrawn (d_4)).vm.findClass RX12 = some m.cls := hown0
    obtain ⟨hP, hD⟩ := gBack hF ht hB
    obtain ⟨hIσ2, fcσ2, hp_5⟩ := hw
    refine W.endD hd0 ?_
    exact W.lret (v := r_3) hx hb hr (fun t ht hW => ⟨⟨r_3, σ2, rfl, ⟨hIσ2, (mFr.tr frσ1 fcσ2 (by decide) (by decide)), trivial⟩, ⟨by rw [ht]; exact hP, hD⟩⟩, hS.F ht⟩) hS.2.2 dX12_cash_29
  · refine lv_aload_n hx hb dX12_cash_12 rfl (lv_at hl 0 rfl) ?_
    refine lv_iconst (v := 1) hx hb dX12_cash_13 (by decide) ?_
    refine lv_ldc2 (v := (-9223372036854775808)) hx hb hown (hts (.constantLong RX12 482 (-9223372036854775808)) (by decide +kernel)) dX12_cash_14 ?_
    have hF := gFree hD hS hA
    refine va_calllD hd0 (va_runV_D (As := [.int 1, .long (-9223372036854775808)]) (rest := []) ⟨hx, hb, hml, hown, hts⟩ (n_X12_refusedLong l dC dI ad cA adK adV H.size σ1 hIσ1 1 (-9223372036854775808)) (cwV 2 hts gX12_cash_X12_refusedLong rfl rfl rfl (by decide +kernel) ⟨Nat.le_of_ble_eq_true rfl, Nat.le_of_ble_eq_true rfl⟩) ⟨gBlind, va_recv hK hP (ci := 11) (q0 := 0) rfl (mat_11 rfl), gStart (As := [.ref (ad 0), .int 1, .long (-9223372036854775808)]) hP hD hK0 hT hS hF (s.drawn)⟩ rfl rfl hl.1 rfl (lv_room (Nat.le_of_ble_eq_true rfl)) dX12_cash_17 ⟨Nat.le_of_ble_eq_true rfl, Nat.le_of_ble_eq_true rfl⟩) hS (fun q _ h => hF q h) hF (fun r_6 σ3 t H locs ht hvm hw hB hz1 hk1 hS d_7 hd0 => ?_)
    have hts := dr_words hts0 (d_7)
    have hK := gKd hK0 (d_7)
    have hown : (s.setDrawn (d_7)).vm.findClass RX12 = some m.cls := hown0
    obtain ⟨hP, hD⟩ := gBack hF ht hB
    obtain ⟨hIσ3, fcσ3, hp_8⟩ := hw
    refine W.endD hd0 ?_
    exact W.lret (v := r_6) hx hb hr (fun t ht hW => ⟨⟨r_6, σ3, rfl, ⟨hIσ3, (mFr.tr frσ1 fcσ3 (by decide) (by decide)), trivial⟩, ⟨by rw [ht]; exact hP, hD⟩⟩, hS.F ht⟩) hS.2.2 dX12_cash_20
set_option maxHeartbeats 8000000 in
set_option maxRecDepth 100000 in
theorem n_X12_size (l : Launch) (dC : Nat → ClassId) (dI : Nat → Nat → Nat) (ad : Nat → Nat) (cA : Nat → ClassId) (adK adV : Nat → Nat) (sz : Nat) (σ : gs) (hI : InvM σ) (p0 : Int32) : MetD lw_cs l yX12_size wsX12_size ({ frames := 0, cells := 0, slots := 0, locals := 0 }) (va_Pc [.ref (ad 0), .int p0] (gPre adK adV (dC, dI) (wM ad cA σ) (tM cA) sz)) (va_Qi (fun (r : Int32) (τ : gs) => InvM τ ∧ mFr [] [0] σ τ ∧ (True)) (fun τ t => gPost (dC, dI) (va_A (wM ad cA σ) sz) (wM ad cA τ) t) (va_A (wM ad cA σ) sz)) 0 0 (va_A (wM ad cA σ) sz) := by
  refine MetD.ofW (cc := cX12_size) (maxL := 2) (ret := (some .int)) (by decide) rfl ?_
  intro p e s m args below meth c s₁ B hml hv hd0
  obtain ⟨rfl, hsz, hP, hK, hD0, hT⟩ := hv
  have hx := B.exec
  have hb := B.bytes
  have hr := B.returns
  have hts0 := atoms_spec (ws := wsX12_size) B.pre
  have hK0 := hK
  have hown0 : s.vm.findClass RX12 = some m.cls := findClass_of_methodNamed B.named
  have hlocks := B.notSynchronized
  have hinX12 : ∀ w ∈ u_ws RX12 TX12 69, w ∈ wsX12_size := (fun _ h9 => List.mem_cons_of_mem _ (List.mem_append_right _ h9))
  subst hsz
  have hD := hD0.self (sz := s.heap.size)
  generalize hAe : va_A (wM ad cA σ) s.heap.size = A at hD hT ⊢
  have hA : ∀ q : Nat, s.heap.size ≤ q → A q := fun q h => by rw [← hAe]; exact Or.inr h
  have hS : va_S A s.heap s.heap [] := va_S.rf
  have hl := lv_entry ([.ref (ad 0), .int p0]) (n := 2) (Nat.le_of_ble_eq_true rfl)
  rw [lg_entry_eq]
  generalize (lg_sl ([.ref (ad 0), .int p0]) ++ List.replicate (2 - (lg_sl ([.ref (ad 0), .int p0])).length) Slot.unset).toArray = ls at hl ⊢
  have hl : lv_has ls 2 [(0, .ref (ad 0)), (1, .int p0)] := hl
  have hts := dr_words hts0 (s.drawn)
  have hK := gKd hK0 (s.drawn)
  have hown : (s.setDrawn (s.drawn)).vm.findClass RX12 = some m.cls := hown0
  refine lv_aload_n hx hb dX12_size_0 rfl (lv_at hl 0 rfl) ?_
  refine lv_iconst (v := 0) hx hb dX12_size_1 (by decide) ?_
  refine va_put (D := (dC, dI)) (ci := 11) (v := .int 0) (C := RX12) (T := TX12) (N := 69) hx hb hts hinX12 tyX12 tyX12_ok nmX12 hown hK hP hD hS 0 (mat_11 rfl) rfl 0 (by decide) (hts (.fieldLink RX12 107 "BondCalendarsModel" "thrown" "I") (by decide +kernel)) (fun _ h9 => h9) rfl (ty := .int) (by decide +kernel) rfl rfl (Nat.le_of_ble_eq_true rfl) dX12_size_2 (fun H locs hP hD hS => ?_)
  obtain ⟨σ1, eσ1, hP, hD⟩ := gPut (mse_11_0 rfl) hP hD
  have hIσ1 : InvM σ1 := by rw [eσ1]; exact minv_I hI (mok_11_0 rfl _)
  have frσ1 : mFr [] [0] σ σ1 := by rw [eσ1]; exact mFr.oI (mFr.rfl (L := []) (F := [0]) (σ := σ)) (by decide)
  refine lv_iload_n hx hb dX12_size_5 rfl (lv_at hl 1 rfl) ?_
  by_cases c_1 : p0 = 0
  · refine lv_tableIn (tgt := 40) hx hb dX12_size_6 (by rw [c_1]; decide) (by rw [c_1]; decide) (by rw [c_1]; rfl) (by decide) ?_
    refine lv_aload_n hx hb dX12_size_40 rfl (lv_at hl 0 rfl) ?_
    have bd_2 := mrd_11_20 (c := 0) hI rfl
    refine va_get (D := (dC, dI)) (ci := 11) (v := .int ((σ 0).1 20)) (C := RX12) (T := TX12) (N := 69) hx hb hts hinX12 hown hK hP 0 (mat_11 rfl) rfl 20 (by decide) (hts (.fieldLink RX12 358 "BondCalendarsModel" "bonds" "I") (by decide +kernel)) (fun _ h9 => h9) (congrArg (fun z => some (Value.int z)) (show (σ1 0).1 20 = ((σ 0).1 20) from by rw [eσ1, gI_oth _ _ _ (by decide)])) dX12_size_41 ?_
    refine W.endD hd0 ?_
    exact W.iret (v := ((σ 0).1 20)) hx hb hr (fun t ht hW => ⟨⟨((σ 0).1 20), σ1, rfl, ⟨hIσ1, frσ1, trivial⟩, ⟨by rw [ht]; exact hP, hD⟩⟩, hS.F ht⟩) hS.2.2 dX12_size_44
  by_cases c_3 : p0 = 1
  · refine lv_tableIn (tgt := 45) hx hb dX12_size_6 (by rw [c_3]; decide) (by rw [c_3]; decide) (by rw [c_3]; rfl) (by decide) ?_
    refine lv_aload_n hx hb dX12_size_45 rfl (lv_at hl 0 rfl) ?_
    have bd_4 := mrd_11_21 (c := 0) hI rfl
    refine va_get (D := (dC, dI)) (ci := 11) (v := .int ((σ 0).1 21)) (C := RX12) (T := TX12) (N := 69) hx hb hts hinX12 hown hK hP 0 (mat_11 rfl) rfl 21 (by decide) (hts (.fieldLink RX12 364 "BondCalendarsModel" "quotes" "I") (by decide +kernel)) (fun _ h9 => h9) (congrArg (fun z => some (Value.int z)) (show (σ1 0).1 21 = ((σ 0).1 21) from by rw [eσ1, gI_oth _ _ _ (by decide)])) dX12_size_46 ?_
    refine W.endD hd0 ?_
    exact W.iret (v := ((σ 0).1 21)) hx hb hr (fun t ht hW => ⟨⟨((σ 0).1 21), σ1, rfl, ⟨hIσ1, frσ1, trivial⟩, ⟨by rw [ht]; exact hP, hD⟩⟩, hS.F ht⟩) hS.2.2 dX12_size_49
  by_cases c_5 : p0 = 2
  · refine lv_tableIn (tgt := 50) hx hb dX12_size_6 (by rw [c_5]; decide) (by rw [c_5]; decide) (by rw [c_5]; rfl) (by decide) ?_
    refine lv_aload_n hx hb dX12_size_50 rfl (lv_at hl 0 rfl) ?_
    have bd_6 := mrd_11_22 (c := 0) hI rfl
    refine va_get (D := (dC, dI)) (ci := 11) (v := .int ((σ 0).1 22)) (C := RX12) (T := TX12) (N := 69) hx hb hts hinX12 hown hK hP 0 (mat_11 rfl) rfl 22 (by decide) (hts (.fieldLink RX12 150 "BondCalendarsModel" "freeMany" "I") (by decide +kernel)) (fun _ h9 => h9) (congrArg (fun z => some (Value.int z)) (show (σ1 0).1 22 = ((σ 0).1 22) from by rw [eσ1, gI_oth _ _ _ (by decide)])) dX12_size_51 ?_
    refine W.endD hd0 ?_
    exact W.iret (v := ((σ 0).1 22)) hx hb hr (fun t ht hW => ⟨⟨((σ 0).1 22), σ1, rfl, ⟨hIσ1, frσ1, trivial⟩, ⟨by rw [ht]; exact hP, hD⟩⟩, hS.F ht⟩) hS.2.2 dX12_size_54
  by_cases c_7 : p0 = 3
  · refine lv_tableIn (tgt := 55) hx hb dX12_size_6 (by rw [c_7]; decide) (by rw [c_7]; decide) (by rw [c_7]; rfl) (by decide) ?_
    refine lv_aload_n hx hb dX12_size_55 rfl (lv_at hl 0 rfl) ?_
    have bd_8 := mrd_11_31 (c := 0) hI rfl
    refine va_get (D := (dC, dI)) (ci := 11) (v := .int ((σ 0).1 31)) (C := RX12) (T := TX12) (N := 69) hx hb hts hinX12 hown hK hP 0 (mat_11 rfl) rfl 31 (by decide) (hts (.fieldLink RX12 349 "BondCalendarsModel" "taped" "I") (by decide +kernel)) (fun _ h9 => h9) (congrArg (fun z => some (Value.int z)) (show (σ1 0).1 31 = ((σ 0).1 31) from by rw [eσ1, gI_oth _ _ _ (by decide)])) dX12_size_56 ?_
    refine W.endD hd0 ?_
    exact W.iret (v := ((σ 0).1 31)) hx hb hr (fun t ht hW => ⟨⟨((σ 0).1 31), σ1, rfl, ⟨hIσ1, frσ1, trivial⟩, ⟨by rw [ht]; exact hP, hD⟩⟩, hS.F ht⟩) hS.2.2 dX12_size_59
  by_cases c_9 : p0 = 4
  · refine lv_tableIn (tgt := 60) hx hb dX12_size_6 (by rw [c_9]; decide) (by rw [c_9]; decide) (by rw [c_9]; rfl) (by decide) ?_
    refine lv_aload_n hx hb dX12_size_60 rfl (lv_at hl 0 rfl) ?_
    have bd_10 := mrd_11_68 (c := 0) hI rfl
    refine va_get (D := (dC, dI)) (ci := 11) (v := .int ((σ 0).1 68)) (C := RX12) (T := TX12) (N := 69) hx hb hts hinX12 hown hK hP 0 (mat_11 rfl) rfl 68 (by decide) (hts (.fieldLink RX12 382 "BondCalendarsModel" "isKept" "Z") (by decide +kernel)) (fun _ h9 => h9) (congrArg (fun z => some (Value.int z)) (show (σ1 0).1 68 = ((σ 0).1 68) from by rw [eσ1, gI_oth _ _ _ (by decide)])) dX12_size_61 ?_
    refine lv_if_eq (tgt := 71) hx hb dX12_size_64 (by decide) (fun c_11 => ?_) (fun c_11 => ?_)
    · refine lv_iconst (v := 0) hx hb dX12_size_71 (by decide) ?_
      refine W.endD hd0 ?_
      exact W.iret (v := 0) hx hb hr (fun t ht hW => ⟨⟨0, σ1, rfl, ⟨hIσ1, frσ1, trivial⟩, ⟨by rw [ht]; exact hP, hD⟩⟩, hS.F ht⟩) hS.2.2 dX12_size_72
    · refine lv_iconst (v := 1) hx hb dX12_size_67 (by decide) ?_
      refine lv_goto (tgt := 72) hx hb dX12_size_68 (by decide) ?_
      refine W.endD hd0 ?_
      exact W.iret (v := 1) hx hb hr (fun t ht hW => ⟨⟨1, σ1, rfl, ⟨hIσ1, frσ1, trivial⟩, ⟨by rw [ht]; exact hP, hD⟩⟩, hS.F ht⟩) hS.2.2 dX12_size_72
  refine lv_tableOut (tgt := 73) hx hb dX12_size_6 (by have q0 := lv_neT (a := 0) c_1 rfl; have q1 := lv_neT (a := 1) c_3 rfl; have q2 := lv_neT (a := 2) c_5 rfl; have q3 := lv_neT (a := 3) c_7 rfl; have q4 := lv_neT (a := 4) c_9 rfl; omega) (by decide) ?_
  refine lv_iconst (v := (-1)) hx hb dX12_size_73 (by decide) ?_
  refine W.endD hd0 ?_
  exact W.iret (v := (-1)) hx hb hr (fun t ht hW => ⟨⟨(-1), σ1, rfl, ⟨hIσ1, frσ1, trivial⟩, ⟨by rw [ht]; exact hP, hD⟩⟩, hS.F ht⟩) hS.2.2 dX12_size_74
set_option maxHeartbeats 8000000 in
set_option maxRecDepth 100000 in
theorem n_X12_trouble (l : Launch) (dC : Nat → ClassId) (dI : Nat → Nat → Nat) (ad : Nat → Nat) (cA : Nat → ClassId) (adK adV : Nat → Nat) (sz : Nat) (σ : gs) (hI : InvM σ)  : MetD lw_cs l yX12_trouble wsX12_trouble ({ frames := 0, cells := 0, slots := 0, locals := 0 }) (va_Pc [.ref (ad 0)] (gPre adK adV (dC, dI) (wM ad cA σ) (tM cA) sz)) (va_Qi (fun (r : Int32) (τ : gs) => InvM τ ∧ mFr [] [0] σ τ ∧ (True)) (fun τ t => gPost (dC, dI) (va_A (wM ad cA σ) sz) (wM ad cA τ) t) (va_A (wM ad cA σ) sz)) 0 0 (va_A (wM ad cA σ) sz) := by
  refine MetD.ofW (cc := cX12_trouble) (maxL := 1) (ret := (some .int)) (by decide) rfl ?_
  intro p e s m args below meth c s₁ B hml hv hd0
  obtain ⟨rfl, hsz, hP, hK, hD0, hT⟩ := hv
  have hx := B.exec
  have hb := B.bytes
  have hr := B.returns
  have hts0 := atoms_spec (ws := wsX12_trouble) B.pre
  have hK0 := hK
  have hown0 : s.vm.findClass RX12 = some m.cls := findClass_of_methodNamed B.named
  have hlocks := B.notSynchronized
  have hinX12 : ∀ w ∈ u_ws RX12 TX12 69, w ∈ wsX12_trouble := (fun _ h9 => List.mem_cons_of_mem _ (List.mem_append_right _ h9))
  subst hsz
  have hD := hD0.self (sz := s.heap.size)
  generalize hAe : va_A (wM ad cA σ) s.heap.size = A at hD hT ⊢
  have hA : ∀ q : Nat, s.heap.size ≤ q → A q := fun q h => by rw [← hAe]; exact Or.inr h
  have hS : va_S A s.heap s.heap [] := va_S.rf
  have hl := lv_entry ([.ref (ad 0)]) (n := 1) (Nat.le_of_ble_eq_true rfl)
  rw [lg_entry_eq]
  generalize (lg_sl ([.ref (ad 0)]) ++ List.replicate (1 - (lg_sl ([.ref (ad 0)])).length) Slot.unset).toArray = ls at hl ⊢
  have hl : lv_has ls 1 [(0, .ref (ad 0))] := hl
  have hts := dr_words hts0 (s.drawn)
  have hK := gKd hK0 (s.drawn)
  have hown : (s.setDrawn (s.drawn)).vm.findClass RX12 = some m.cls := hown0
  refine lv_aload_n hx hb dX12_trouble_0 rfl (lv_at hl 0 rfl) ?_
  refine lv_iconst (v := 0) hx hb dX12_trouble_1 (by decide) ?_
  refine va_put (D := (dC, dI)) (ci := 11) (v := .int 0) (C := RX12) (T := TX12) (N := 69) hx hb hts hinX12 tyX12 tyX12_ok nmX12 hown hK hP hD hS 0 (mat_11 rfl) rfl 0 (by decide) (hts (.fieldLink RX12 107 "BondCalendarsModel" "thrown" "I") (by decide +kernel)) (fun _ h9 => h9) rfl (ty := .int) (by decide +kernel) rfl rfl (Nat.le_of_ble_eq_true rfl) dX12_trouble_2 (fun H locs hP hD hS => ?_)
  obtain ⟨σ1, eσ1, hP, hD⟩ := gPut (mse_11_0 rfl) hP hD
  have hIσ1 : InvM σ1 := by rw [eσ1]; exact minv_I hI (mok_11_0 rfl _)
  have frσ1 : mFr [] [0] σ σ1 := by rw [eσ1]; exact mFr.oI (mFr.rfl (L := []) (F := [0]) (σ := σ)) (by decide)
  refine lv_aload_n hx hb dX12_trouble_5 rfl (lv_at hl 0 rfl) ?_
  refine va_get (D := (dC, dI)) (ci := 11) (v := .int ((σ 0).1 1)) (C := RX12) (T := TX12) (N := 69) hx hb hts hinX12 hown hK hP 0 (mat_11 rfl) rfl 1 (by decide) (hts (.fieldLink RX12 110 "BondCalendarsModel" "trouble" "I") (by decide +kernel)) (fun _ h9 => h9) (congrArg (fun z => some (Value.int z)) (show (σ1 0).1 1 = ((σ 0).1 1) from by rw [eσ1, gI_oth _ _ _ (by decide)])) dX12_trouble_6 ?_
  refine W.endD hd0 ?_
  exact W.iret (v := ((σ 0).1 1)) hx hb hr (fun t ht hW => ⟨⟨((σ 0).1 1), σ1, rfl, ⟨hIσ1, frσ1, trivial⟩, ⟨by rw [ht]; exact hP, hD⟩⟩, hS.F ht⟩) hS.2.2 dX12_trouble_9
set_option maxHeartbeats 8000000 in
set_option maxRecDepth 100000 in
theorem n_X12_feed (l : Launch) (dC : Nat → ClassId) (dI : Nat → Nat → Nat) (ad : Nat → Nat) (cA : Nat → ClassId) (adK adV : Nat → Nat) (sz : Nat) (σ : gs) (hI : InvM σ) (p0 : Int32) (p1 : Int32) (p2 : Int32) (p3 : Int32) (p4 : Int32) : MetD lw_cs l yX12_feed wsX12_feed ({ frames := 0, cells := 0, slots := 0, locals := 0 }) (va_Pc [.ref (ad 0), .int p0, .int p1, .int p2, .int p3, .int p4] (gPre adK adV (dC, dI) (wM ad cA σ) (tM cA) sz)) (va_Qi (fun (r : Int32) (τ : gs) => InvM τ ∧ mFr [56] [0, 31] σ τ ∧ (True)) (fun τ t => gPost (dC, dI) (va_A (wM ad cA σ) sz) (wM ad cA τ) t) (va_A (wM ad cA σ) sz)) 0 0 (va_A (wM ad cA σ) sz) := by
  refine MetD.ofW (cc := cX12_feed) (maxL := 8) (ret := (some .int)) (by decide) rfl ?_
  intro p e s m args below meth c s₁ B hml hv hd0
  obtain ⟨rfl, hsz, hP, hK, hD0, hT⟩ := hv
  have hx := B.exec
  have hb := B.bytes
  have hr := B.returns
  have hts0 := atoms_spec (ws := wsX12_feed) B.pre
  have hK0 := hK
  have hown0 : s.vm.findClass RX12 = some m.cls := findClass_of_methodNamed B.named
  have hlocks := B.notSynchronized
  have hinX12 : ∀ w ∈ u_ws RX12 TX12 69, w ∈ wsX12_feed := (fun _ h9 => List.mem_cons_of_mem _ (List.mem_append_right _ h9))
  subst hsz
  have hD := hD0.self (sz := s.heap.size)
  generalize hAe : va_A (wM ad cA σ) s.heap.size = A at hD hT ⊢
  have hA : ∀ q : Nat, s.heap.size ≤ q → A q := fun q h => by rw [← hAe]; exact Or.inr h
  have hS : va_S A s.heap s.heap [] := va_S.rf
  have hl := lv_entry ([.ref (ad 0), .int p0, .int p1, .int p2, .int p3, .int p4]) (n := 8) (Nat.le_of_ble_eq_true rfl)
  rw [lg_entry_eq]
  generalize (lg_sl ([.ref (ad 0), .int p0, .int p1, .int p2, .int p3, .int p4]) ++ List.replicate (8 - (lg_sl ([.ref (ad 0), .int p0, .int p1, .int p2, .int p3, .int p4])).length) Slot.unset).toArray = ls at hl ⊢
  have hl : lv_has ls 8 [(0, .ref (ad 0)), (1, .int p0), (2, .int p1), (3, .int p2), (4, .int p3), (5, .int p4)] := hl
  have hts := dr_words hts0 (s.drawn)
  have hK := gKd hK0 (s.drawn)
  have hown : (s.setDrawn (s.drawn)).vm.findClass RX12 = some m.cls := hown0
  refine lv_aload_n hx hb dX12_feed_0 rfl (lv_at hl 0 rfl) ?_
  refine lv_iconst (v := 0) hx hb dX12_feed_1 (by decide) ?_
  refine va_put (D := (dC, dI)) (ci := 11) (v := .int 0) (C := RX12) (T := TX12) (N := 69) hx hb hts hinX12 tyX12 tyX12_ok nmX12 hown hK hP hD hS 0 (mat_11 rfl) rfl 0 (by decide) (hts (.fieldLink RX12 107 "BondCalendarsModel" "thrown" "I") (by decide +kernel)) (fun _ h9 => h9) rfl (ty := .int) (by decide +kernel) rfl rfl (Nat.le_of_ble_eq_true rfl) dX12_feed_2 (fun H locs hP hD hS => ?_)
  obtain ⟨σ1, eσ1, hP, hD⟩ := gPut (mse_11_0 rfl) hP hD
  have hIσ1 : InvM σ1 := by rw [eσ1]; exact minv_I hI (mok_11_0 rfl _)
  have frσ1 : mFr [56] [0, 31] σ σ1 := by rw [eσ1]; exact mFr.oI (mFr.rfl (L := [56]) (F := [0, 31]) (σ := σ)) (by decide)
  refine lv_aload_n hx hb dX12_feed_5 rfl (lv_at hl 0 rfl) ?_
  have bd_1 := mrd_11_31 (c := 0) hI rfl
  refine va_get (D := (dC, dI)) (ci := 11) (v := .int ((σ 0).1 31)) (C := RX12) (T := TX12) (N := 69) hx hb hts hinX12 hown hK hP 0 (mat_11 rfl) rfl 31 (by decide) (hts (.fieldLink RX12 349 "BondCalendarsModel" "taped" "I") (by decide +kernel)) (fun _ h9 => h9) (congrArg (fun z => some (Value.int z)) (show (σ1 0).1 31 = ((σ 0).1 31) from by rw [eσ1, gI_oth _ _ _ (by decide)])) dX12_feed_6 ?_
  refine lv_bipush (v := 20) hx hb dX12_feed_9 (by decide) ?_
  refine lv_iadd hx hb dX12_feed_11 ?_
  refine lv_topi (fun x_2 ex_2 => ?_)
  refine lv_sipush (v := 900) hx hb dX12_feed_12 (by decide) ?_
  refine lv_icmp_le (tgt := 20) hx hb dX12_feed_15 (by decide) (fun c_3 => ?_) (fun c_3 => ?_)
  · refine lv_iconst (v := 0) hx hb dX12_feed_20 (by decide) ?_
    refine lv_istore (lv' := [(6, .int 0), (0, .ref (ad 0)), (1, .int p0), (2, .int p1), (3, .int p2), (4, .int p3), (5, .int p4)]) hx hb dX12_feed_21 hl (by decide) rfl (fun ls hl => ?_)
    refine (fun (h : ∀ (n : Nat) (i6 : Int32) (σ23x : gs) (d23 : Drawn) (H : Heap) (locs : List Loc) (ls : Array Slot), ((20 : Int32).toInt - i6.toInt).toNat < n → 0 ≤ i6 → (σ23x 0).1 31 ≤ 880 + i6 → InvM σ23x → mFr [56] [0, 31] σ σ23x → s.drawn.sameBut d23 lw_cs → va_P (dC, dI) vwCl (wM ad cA σ23x) H → va_D A (wM ad cA σ23x) → va_S A s.heap H locs → lv_has ls 8 [(6, .int i6), (0, .ref (ad 0)), (1, .int p0), (2, .int p1), (3, .int p2), (4, .int p3), (5, .int p4)] → W p l e _ (s.setDrawn d23) m _ below meth c H locs _ _ _ (F0 m 23 ls [])) => h _ 0 σ1 _ _ _ _ (Nat.lt_succ_self _) (by decide) (by rw [eσ1, gI_oth _ _ _ (by decide)]; exact (fd_0 bd_1.1 bd_1.2 c_3 ex_2)) hIσ1 frσ1 hd0 hP hD hS (lv_sub hl [0, 1, 2, 3, 4, 5, 6] rfl)) ?_
    intro n23
    induction n23 with
    | zero => intro i6 σ23x d23 H locs ls hm; exact absurd hm (Nat.not_lt_zero _)
    | succ n23 ih23 =>
      intro i6 σ23x d23 H locs ls hm23 iv23_0 iv23_1 hIσ23x frσ23x hd0 hP hD hS hl
      have hts := dr_words hts0 (d23)
      have hK := gKd hK0 (d23)
      have hown : (s.setDrawn (d23)).vm.findClass RX12 = some m.cls := hown0
      refine lv_iload hx hb dX12_feed_23 (lv_at hl 0 rfl) ?_
      refine lv_bipush (v := 20) hx hb dX12_feed_25 (by decide) ?_
      refine lv_icmp_ge (tgt := 117) hx hb dX12_feed_27 (by decide) (fun c_4 => ?_) (fun c_4 => ?_)
      · refine lv_aload_n hx hb dX12_feed_117 rfl (lv_at hl 1 rfl) ?_
        have bd_5 := mrd_11_31 (c := 0) hIσ23x rfl
        refine va_get (D := (dC, dI)) (ci := 11) (v := .int ((σ23x 0).1 31)) (C := RX12) (T := TX12) (N := 69) hx hb hts hinX12 hown hK hP 0 (mat_11 rfl) rfl 31 (by decide) (hts (.fieldLink RX12 349 "BondCalendarsModel" "taped" "I") (by decide +kernel)) (fun _ h9 => h9) rfl dX12_feed_118 ?_
        refine W.endD hd0 ?_
        exact W.iret (v := ((σ23x 0).1 31)) hx hb hr (fun t ht hW => ⟨⟨((σ23x 0).1 31), σ23x, rfl, ⟨hIσ23x, frσ23x, trivial⟩, ⟨by rw [ht]; exact hP, hD⟩⟩, hS.F ht⟩) hS.2.2 dX12_feed_121
      · refine lv_iload hx hb dX12_feed_30 (lv_at hl 0 rfl) ?_
        refine lv_iconst (v := 4) hx hb dX12_feed_32 (by decide) ?_
        refine lv_icmp_ge (tgt := 40) hx hb dX12_feed_33 (by decide) (fun c_6 => ?_) (fun c_6 => ?_)
        · refine lv_iload hx hb dX12_feed_40 (lv_at hl 0 rfl) ?_
          refine lv_bipush (v := 8) hx hb dX12_feed_42 (by decide) ?_
          refine lv_icmp_ge (tgt := 51) hx hb dX12_feed_44 (by decide) (fun c_7 => ?_) (fun c_7 => ?_)
          · refine lv_iload hx hb dX12_feed_51 (lv_at hl 0 rfl) ?_
            refine lv_bipush (v := 12) hx hb dX12_feed_53 (by decide) ?_
            refine lv_icmp_ge (tgt := 62) hx hb dX12_feed_55 (by decide) (fun c_8 => ?_) (fun c_8 => ?_)
            · refine lv_iload hx hb dX12_feed_62 (lv_at hl 0 rfl) ?_
              refine lv_bipush (v := 16) hx hb dX12_feed_64 (by decide) ?_
              refine lv_icmp_ge (tgt := 74) hx hb dX12_feed_66 (by decide) (fun c_9 => ?_) (fun c_9 => ?_)
              · refine lv_iload hx hb dX12_feed_74 (lv_at hl 6 rfl) ?_
                refine lv_istore (lv' := [(7, .int p4), (6, .int i6), (0, .ref (ad 0)), (1, .int p0), (2, .int p1), (3, .int p2), (4, .int p3), (5, .int p4)]) hx hb dX12_feed_76 hl (by decide) rfl (fun ls hl => ?_)
                refine lv_aload_n hx hb dX12_feed_78 rfl (lv_at hl 2 rfl) ?_
                refine va_get (D := (dC, dI)) (ci := 11) (v := .ref (ad 16)) (C := RX12) (T := TX12) (N := 69) hx hb hts hinX12 hown hK hP 0 (mat_11 rfl) rfl 30 (by decide) (hts (.fieldLink RX12 60 "BondCalendarsModel" "tape" "[B") (by decide +kernel)) (fun _ h9 => h9) rfl dX12_feed_79 ?_
                refine lv_aload_n hx hb dX12_feed_82 rfl (lv_at hl 2 rfl) ?_
                have bd_10 := mrd_11_31 (c := 0) hIσ23x rfl
                refine va_get (D := (dC, dI)) (ci := 11) (v := .int ((σ23x 0).1 31)) (C := RX12) (T := TX12) (N := 69) hx hb hts hinX12 hown hK hP 0 (mat_11 rfl) rfl 31 (by decide) (hts (.fieldLink RX12 349 "BondCalendarsModel" "taped" "I") (by decide +kernel)) (fun _ h9 => h9) rfl dX12_feed_83 ?_
                refine lv_iload hx hb dX12_feed_86 (lv_at hl 0 rfl) ?_
                refine lv_bipush (v := 24) hx hb dX12_feed_88 (by decide) ?_
                refine lv_bipush (v := 8) hx hb dX12_feed_90 (by decide) ?_
                refine lv_iload hx hb dX12_feed_92 (lv_at hl 1 rfl) ?_
                refine lv_iconst (v := 4) hx hb dX12_feed_94 (by decide) ?_
                refine lv_irem hx hb dX12_feed_95 (by decide) ?_
                refine lv_topi (fun x_11 ex_11 => ?_)
                refine lv_imul hx hb dX12_feed_96 ?_
                refine lv_topi (fun x_12 ex_12 => ?_)
                refine lv_isub hx hb dX12_feed_97 ?_
                refine lv_topi (fun x_13 ex_13 => ?_)
                refine lv_ishr hx hb dX12_feed_98 ?_
                refine lv_topi (fun x_14 _ => ?_)
                refine lv_i2b hx hb dX12_feed_99 rfl ?_
                refine lv_topi (fun x_15 _ => ?_)
                refine va_bast hx hb hK hP hD hS 16 16 (mat_56 rfl) (mty_56 rfl) (gin (N := 900) (by decide) bd_10.1 (fd_l iv23_1 bd_10.1 iv23_0 (Int32.not_le.mp c_4))) dX12_feed_100 (fun H locs hP hD hS => ?_)
                obtain ⟨σ2, eσ2, hP, hD⟩ := gPut (mse_56 rfl) hP hD
                have hIσ2 : InvM σ2 := by rw [eσ2]; exact minv_I hIσ23x (mok_56 rfl _ _)
                have frσ2 : mFr [56] [0, 31] σ σ2 := by rw [eσ2]; exact mFr.aI frσ23x (by decide) (by decide)
                refine lv_aload_n hx hb dX12_feed_101 rfl (lv_at hl 2 rfl) ?_
                refine lv_dup hx hb dX12_feed_102 rfl ?_
                refine va_get (D := (dC, dI)) (ci := 11) (v := .int ((σ23x 0).1 31)) (C := RX12) (T := TX12) (N := 69) hx hb hts hinX12 hown hK hP 0 (mat_11 rfl) rfl 31 (by decide) (hts (.fieldLink RX12 349 "BondCalendarsModel" "taped" "I") (by decide +kernel)) (fun _ h9 => h9) (congrArg (fun z => some (Value.int z)) (show (σ2 0).1 31 = ((σ23x 0).1 31) from by rw [eσ2, gI_ne _ _ _ (by decide)])) dX12_feed_103 ?_
                refine lv_iconst (v := 1) hx hb dX12_feed_106 (by decide) ?_
                refine lv_iadd hx hb dX12_feed_107 ?_
                refine lv_topi (fun x_16 ex_16 => ?_)
                refine va_put (D := (dC, dI)) (ci := 11) (v := .int x_16) (C := RX12) (T := TX12) (N := 69) hx hb hts hinX12 tyX12 tyX12_ok nmX12 hown hK hP hD hS 0 (mat_11 rfl) rfl 31 (by decide) (hts (.fieldLink RX12 349 "BondCalendarsModel" "taped" "I") (by decide +kernel)) (fun _ h9 => h9) rfl (ty := .int) (by decide +kernel) rfl rfl (Nat.le_of_ble_eq_true rfl) dX12_feed_108 (fun H locs hP hD hS => ?_)
                obtain ⟨σ3, eσ3, hP, hD⟩ := gPut (mse_11_31 rfl) hP hD
                have hIσ3 : InvM σ3 := by rw [eσ3]; exact minv_I hIσ2 (mok_11_31 rfl _ ⟨(cnt_0 bd_10.1 (fd_l iv23_1 bd_10.1 iv23_0 (Int32.not_le.mp c_4)) ex_16), (cnt_N bd_10.1 (fd_l iv23_1 bd_10.1 iv23_0 (Int32.not_le.mp c_4)) ex_16)⟩)
                have frσ3 : mFr [56] [0, 31] σ σ3 := by rw [eσ3]; exact mFr.oI frσ2 (by decide)
                obtain ⟨x_17, ex_17⟩ : ∃ zz : Int32, zz = i6 + 1 := ⟨_, rfl⟩
                refine lv_iinc (v := x_17) (lv' := [(6, .int x_17), (7, .int p4), (0, .ref (ad 0)), (1, .int p0), (2, .int p1), (3, .int p2), (4, .int p3), (5, .int p4)]) hx hb dX12_feed_111 hl (k := 1) rfl (by rw [ex_17]; rfl) (by decide) rfl (fun ls hl => ?_)
                refine lv_goto (tgt := 23) hx hb dX12_feed_114 (by decide) ?_
                exact ih23 x_17 σ3 _ _ _ _ (cnt_m iv23_0 (Int32.not_le.mp c_4) hm23 ex_17) (cnt_0 iv23_0 (Int32.not_le.mp c_4) ex_17) (by rw [eσ3, gI_self]; exact (fd_s iv23_1 bd_10.1 iv23_0 (Int32.not_le.mp c_4) ex_16 ex_17)) hIσ3 frσ3 hd0 hP hD hS (lv_sub hl [0, 2, 3, 4, 5, 6, 7] rfl)
              · refine lv_iload hx hb dX12_feed_69 (lv_at hl 5 rfl) ?_
                refine lv_goto (tgt := 76) hx hb dX12_feed_71 (by decide) ?_
                refine lv_istore (lv' := [(7, .int p3), (6, .int i6), (0, .ref (ad 0)), (1, .int p0), (2, .int p1), (3, .int p2), (4, .int p3), (5, .int p4)]) hx hb dX12_feed_76 hl (by decide) rfl (fun ls hl => ?_)
                refine lv_aload_n hx hb dX12_feed_78 rfl (lv_at hl 2 rfl) ?_
                refine va_get (D := (dC, dI)) (ci := 11) (v := .ref (ad 16)) (C := RX12) (T := TX12) (N := 69) hx hb hts hinX12 hown hK hP 0 (mat_11 rfl) rfl 30 (by decide) (hts (.fieldLink RX12 60 "BondCalendarsModel" "tape" "[B") (by decide +kernel)) (fun _ h9 => h9) rfl dX12_feed_79 ?_
                refine lv_aload_n hx hb dX12_feed_82 rfl (lv_at hl 2 rfl) ?_
                have bd_18 := mrd_11_31 (c := 0) hIσ23x rfl
                refine va_get (D := (dC, dI)) (ci := 11) (v := .int ((σ23x 0).1 31)) (C := RX12) (T := TX12) (N := 69) hx hb hts hinX12 hown hK hP 0 (mat_11 rfl) rfl 31 (by decide) (hts (.fieldLink RX12 349 "BondCalendarsModel" "taped" "I") (by decide +kernel)) (fun _ h9 => h9) rfl dX12_feed_83 ?_
                refine lv_iload hx hb dX12_feed_86 (lv_at hl 0 rfl) ?_
                refine lv_bipush (v := 24) hx hb dX12_feed_88 (by decide) ?_
                refine lv_bipush (v := 8) hx hb dX12_feed_90 (by decide) ?_
                refine lv_iload hx hb dX12_feed_92 (lv_at hl 1 rfl) ?_
                refine lv_iconst (v := 4) hx hb dX12_feed_94 (by decide) ?_
                refine lv_irem hx hb dX12_feed_95 (by decide) ?_
                refine lv_topi (fun x_19 ex_19 => ?_)
                refine lv_imul hx hb dX12_feed_96 ?_
                refine lv_topi (fun x_20 ex_20 => ?_)
                refine lv_isub hx hb dX12_feed_97 ?_
                refine lv_topi (fun x_21 ex_21 => ?_)
                refine lv_ishr hx hb dX12_feed_98 ?_
                refine lv_topi (fun x_22 _ => ?_)
                refine lv_i2b hx hb dX12_feed_99 rfl ?_
                refine lv_topi (fun x_23 _ => ?_)
                refine va_bast hx hb hK hP hD hS 16 16 (mat_56 rfl) (mty_56 rfl) (gin (N := 900) (by decide) bd_18.1 (fd_l iv23_1 bd_18.1 iv23_0 (Int32.not_le.mp c_4))) dX12_feed_100 (fun H locs hP hD hS => ?_)
                obtain ⟨σ4, eσ4, hP, hD⟩ := gPut (mse_56 rfl) hP hD
                have hIσ4 : InvM σ4 := by rw [eσ4]; exact minv_I hIσ23x (mok_56 rfl _ _)
                have frσ4 : mFr [56] [0, 31] σ σ4 := by rw [eσ4]; exact mFr.aI frσ23x (by decide) (by decide)
                refine lv_aload_n hx hb dX12_feed_101 rfl (lv_at hl 2 rfl) ?_
                refine lv_dup hx hb dX12_feed_102 rfl ?_
                refine va_get (D := (dC, dI)) (ci := 11) (v := .int ((σ23x 0).1 31)) (C := RX12) (T := TX12) (N := 69) hx hb hts hinX12 hown hK hP 0 (mat_11 rfl) rfl 31 (by decide) (hts (.fieldLink RX12 349 "BondCalendarsModel" "taped" "I") (by decide +kernel)) (fun _ h9 => h9) (congrArg (fun z => some (Value.int z)) (show (σ4 0).1 31 = ((σ23x 0).1 31) from by rw [eσ4, gI_ne _ _ _ (by decide)])) dX12_feed_103 ?_
                refine lv_iconst (v := 1) hx hb dX12_feed_106 (by decide) ?_
                refine lv_iadd hx hb dX12_feed_107 ?_
                refine lv_topi (fun x_24 ex_24 => ?_)
                refine va_put (D := (dC, dI)) (ci := 11) (v := .int x_24) (C := RX12) (T := TX12) (N := 69) hx hb hts hinX12 tyX12 tyX12_ok nmX12 hown hK hP hD hS 0 (mat_11 rfl) rfl 31 (by decide) (hts (.fieldLink RX12 349 "BondCalendarsModel" "taped" "I") (by decide +kernel)) (fun _ h9 => h9) rfl (ty := .int) (by decide +kernel) rfl rfl (Nat.le_of_ble_eq_true rfl) dX12_feed_108 (fun H locs hP hD hS => ?_)
                obtain ⟨σ5, eσ5, hP, hD⟩ := gPut (mse_11_31 rfl) hP hD
                have hIσ5 : InvM σ5 := by rw [eσ5]; exact minv_I hIσ4 (mok_11_31 rfl _ ⟨(cnt_0 bd_18.1 (fd_l iv23_1 bd_18.1 iv23_0 (Int32.not_le.mp c_4)) ex_24), (cnt_N bd_18.1 (fd_l iv23_1 bd_18.1 iv23_0 (Int32.not_le.mp c_4)) ex_24)⟩)
                have frσ5 : mFr [56] [0, 31] σ σ5 := by rw [eσ5]; exact mFr.oI frσ4 (by decide)
                obtain ⟨x_25, ex_25⟩ : ∃ zz : Int32, zz = i6 + 1 := ⟨_, rfl⟩
                refine lv_iinc (v := x_25) (lv' := [(6, .int x_25), (7, .int p3), (0, .ref (ad 0)), (1, .int p0), (2, .int p1), (3, .int p2), (4, .int p3), (5, .int p4)]) hx hb dX12_feed_111 hl (k := 1) rfl (by rw [ex_25]; rfl) (by decide) rfl (fun ls hl => ?_)
                refine lv_goto (tgt := 23) hx hb dX12_feed_114 (by decide) ?_
                exact ih23 x_25 σ5 _ _ _ _ (cnt_m iv23_0 (Int32.not_le.mp c_4) hm23 ex_25) (cnt_0 iv23_0 (Int32.not_le.mp c_4) ex_25) (by rw [eσ5, gI_self]; exact (fd_s iv23_1 bd_18.1 iv23_0 (Int32.not_le.mp c_4) ex_24 ex_25)) hIσ5 frσ5 hd0 hP hD hS (lv_sub hl [0, 2, 3, 4, 5, 6, 7] rfl)
            · refine lv_iload_n hx hb dX12_feed_58 rfl (lv_at hl 4 rfl) ?_
              refine lv_goto (tgt := 76) hx hb dX12_feed_59 (by decide) ?_
              refine lv_istore (lv' := [(7, .int p2), (6, .int i6), (0, .ref (ad 0)), (1, .int p0), (2, .int p1), (3, .int p2), (4, .int p3), (5, .int p4)]) hx hb dX12_feed_76 hl (by decide) rfl (fun ls hl => ?_)
              refine lv_aload_n hx hb dX12_feed_78 rfl (lv_at hl 2 rfl) ?_
              refine va_get (D := (dC, dI)) (ci := 11) (v := .ref (ad 16)) (C := RX12) (T := TX12) (N := 69) hx hb hts hinX12 hown hK hP 0 (mat_11 rfl) rfl 30 (by decide) (hts (.fieldLink RX12 60 "BondCalendarsModel" "tape" "[B") (by decide +kernel)) (fun _ h9 => h9) rfl dX12_feed_79 ?_
              refine lv_aload_n hx hb dX12_feed_82 rfl (lv_at hl 2 rfl) ?_
              have bd_26 := mrd_11_31 (c := 0) hIσ23x rfl
              refine va_get (D := (dC, dI)) (ci := 11) (v := .int ((σ23x 0).1 31)) (C := RX12) (T := TX12) (N := 69) hx hb hts hinX12 hown hK hP 0 (mat_11 rfl) rfl 31 (by decide) (hts (.fieldLink RX12 349 "BondCalendarsModel" "taped" "I") (by decide +kernel)) (fun _ h9 => h9) rfl dX12_feed_83 ?_
              refine lv_iload hx hb dX12_feed_86 (lv_at hl 0 rfl) ?_
              refine lv_bipush (v := 24) hx hb dX12_feed_88 (by decide) ?_
              refine lv_bipush (v := 8) hx hb dX12_feed_90 (by decide) ?_
              refine lv_iload hx hb dX12_feed_92 (lv_at hl 1 rfl) ?_
              refine lv_iconst (v := 4) hx hb dX12_feed_94 (by decide) ?_
              refine lv_irem hx hb dX12_feed_95 (by decide) ?_
              refine lv_topi (fun x_27 ex_27 => ?_)
              refine lv_imul hx hb dX12_feed_96 ?_
              refine lv_topi (fun x_28 ex_28 => ?_)
              refine lv_isub hx hb dX12_feed_97 ?_
              refine lv_topi (fun x_29 ex_29 => ?_)
              refine lv_ishr hx hb dX12_feed_98 ?_
              refine lv_topi (fun x_30 _ => ?_)
              refine lv_i2b hx hb dX12_feed_99 rfl ?_
              refine lv_topi (fun x_31 _ => ?_)
              refine va_bast hx hb hK hP hD hS 16 16 (mat_56 rfl) (mty_56 rfl) (gin (N := 900) (by decide) bd_26.1 (fd_l iv23_1 bd_26.1 iv23_0 (Int32.not_le.mp c_4))) dX12_feed_100 (fun H locs hP hD hS => ?_)
              obtain ⟨σ6, eσ6, hP, hD⟩ := gPut (mse_56 rfl) hP hD
              have hIσ6 : InvM σ6 := by rw [eσ6]; exact minv_I hIσ23x (mok_56 rfl _ _)
              have frσ6 : mFr [56] [0, 31] σ σ6 := by rw [eσ6]; exact mFr.aI frσ23x (by decide) (by decide)
              refine lv_aload_n hx hb dX12_feed_101 rfl (lv_at hl 2 rfl) ?_
              refine lv_dup hx hb dX12_feed_102 rfl ?_
              refine va_get (D := (dC, dI)) (ci := 11) (v := .int ((σ23x 0).1 31)) (C := RX12) (T := TX12) (N := 69) hx hb hts hinX12 hown hK hP 0 (mat_11 rfl) rfl 31 (by decide) (hts (.fieldLink RX12 349 "BondCalendarsModel" "taped" "I") (by decide +kernel)) (fun _ h9 => h9) (congrArg (fun z => some (Value.int z)) (show (σ6 0).1 31 = ((σ23x 0).1 31) from by rw [eσ6, gI_ne _ _ _ (by decide)])) dX12_feed_103 ?_
              refine lv_iconst (v := 1) hx hb dX12_feed_106 (by decide) ?_
              refine lv_iadd hx hb dX12_feed_107 ?_
              refine lv_topi (fun x_32 ex_32 => ?_)
              refine va_put (D := (dC, dI)) (ci := 11) (v := .int x_32) (C := RX12) (T := TX12) (N := 69) hx hb hts hinX12 tyX12 tyX12_ok nmX12 hown hK hP hD hS 0 (mat_11 rfl) rfl 31 (by decide) (hts (.fieldLink RX12 349 "BondCalendarsModel" "taped" "I") (by decide +kernel)) (fun _ h9 => h9) rfl (ty := .int) (by decide +kernel) rfl rfl (Nat.le_of_ble_eq_true rfl) dX12_feed_108 (fun H locs hP hD hS => ?_)
              obtain ⟨σ7, eσ7, hP, hD⟩ := gPut (mse_11_31 rfl) hP hD
              have hIσ7 : InvM σ7 := by rw [eσ7]; exact minv_I hIσ6 (mok_11_31 rfl _ ⟨(cnt_0 bd_26.1 (fd_l iv23_1 bd_26.1 iv23_0 (Int32.not_le.mp c_4)) ex_32), (cnt_N bd_26.1 (fd_l iv23_1 bd_26.1 iv23_0 (Int32.not_le.mp c_4)) ex_32)⟩)
              have frσ7 : mFr [56] [0, 31] σ σ7 := by rw [eσ7]; exact mFr.oI frσ6 (by decide)
              obtain ⟨x_33, ex_33⟩ : ∃ zz : Int32, zz = i6 + 1 := ⟨_, rfl⟩
              refine lv_iinc (v := x_33) (lv' := [(6, .int x_33), (7, .int p2), (0, .ref (ad 0)), (1, .int p0), (2, .int p1), (3, .int p2), (4, .int p3), (5, .int p4)]) hx hb dX12_feed_111 hl (k := 1) rfl (by rw [ex_33]; rfl) (by decide) rfl (fun ls hl => ?_)
              refine lv_goto (tgt := 23) hx hb dX12_feed_114 (by decide) ?_
              exact ih23 x_33 σ7 _ _ _ _ (cnt_m iv23_0 (Int32.not_le.mp c_4) hm23 ex_33) (cnt_0 iv23_0 (Int32.not_le.mp c_4) ex_33) (by rw [eσ7, gI_self]; exact (fd_s iv23_1 bd_26.1 iv23_0 (Int32.not_le.mp c_4) ex_32 ex_33)) hIσ7 frσ7 hd0 hP hD hS (lv_sub hl [0, 2, 3, 4, 5, 6, 7] rfl)
          · refine lv_iload_n hx hb dX12_feed_47 rfl (lv_at hl 3 rfl) ?_
            refine lv_goto (tgt := 76) hx hb dX12_feed_48 (by decide) ?_
            refine lv_istore (lv' := [(7, .int p1), (6, .int i6), (0, .ref (ad 0)), (1, .int p0), (2, .int p1), (3, .int p2), (4, .int p3), (5, .int p4)]) hx hb dX12_feed_76 hl (by decide) rfl (fun ls hl => ?_)
            refine lv_aload_n hx hb dX12_feed_78 rfl (lv_at hl 2 rfl) ?_
            refine va_get (D := (dC, dI)) (ci := 11) (v := .ref (ad 16)) (C := RX12) (T := TX12) (N := 69) hx hb hts hinX12 hown hK hP 0 (mat_11 rfl) rfl 30 (by decide) (hts (.fieldLink RX12 60 "BondCalendarsModel" "tape" "[B") (by decide +kernel)) (fun _ h9 => h9) rfl dX12_feed_79 ?_
            refine lv_aload_n hx hb dX12_feed_82 rfl (lv_at hl 2 rfl) ?_
            have bd_34 := mrd_11_31 (c := 0) hIσ23x rfl
            refine va_get (D := (dC, dI)) (ci := 11) (v := .int ((σ23x 0).1 31)) (C := RX12) (T := TX12) (N := 69) hx hb hts hinX12 hown hK hP 0 (mat_11 rfl) rfl 31 (by decide) (hts (.fieldLink RX12 349 "BondCalendarsModel" "taped" "I") (by decide +kernel)) (fun _ h9 => h9) rfl dX12_feed_83 ?_
            refine lv_iload hx hb dX12_feed_86 (lv_at hl 0 rfl) ?_
            refine lv_bipush (v := 24) hx hb dX12_feed_88 (by decide) ?_
            refine lv_bipush (v := 8) hx hb dX12_feed_90 (by decide) ?_
            refine lv_iload hx hb dX12_feed_92 (lv_at hl 1 rfl) ?_
            refine lv_iconst (v := 4) hx hb dX12_feed_94 (by decide) ?_
            refine lv_irem hx hb dX12_feed_95 (by decide) ?_
            refine lv_topi (fun x_35 ex_35 => ?_)
            refine lv_imul hx hb dX12_feed_96 ?_
            refine lv_topi (fun x_36 ex_36 => ?_)
            refine lv_isub hx hb dX12_feed_97 ?_
            refine lv_topi (fun x_37 ex_37 => ?_)
            refine lv_ishr hx hb dX12_feed_98 ?_
            refine lv_topi (fun x_38 _ => ?_)
            refine lv_i2b hx hb dX12_feed_99 rfl ?_
            refine lv_topi (fun x_39 _ => ?_)
            refine va_bast hx hb hK hP hD hS 16 16 (mat_56 rfl) (mty_56 rfl) (gin (N := 900) (by decide) bd_34.1 (fd_l iv23_1 bd_34.1 iv23_0 (Int32.not_le.mp c_4))) dX12_feed_100 (fun H locs hP hD hS => ?_)
            obtain ⟨σ8, eσ8, hP, hD⟩ := gPut (mse_56 rfl) hP hD
            have hIσ8 : InvM σ8 := by rw [eσ8]; exact minv_I hIσ23x (mok_56 rfl _ _)
            have frσ8 : mFr [56] [0, 31] σ σ8 := by rw [eσ8]; exact mFr.aI frσ23x (by decide) (by decide)
            refine lv_aload_n hx hb dX12_feed_101 rfl (lv_at hl 2 rfl) ?_
            refine lv_dup hx hb dX12_feed_102 rfl ?_
            refine va_get (D := (dC, dI)) (ci := 11) (v := .int ((σ23x 0).1 31)) (C := RX12) (T := TX12) (N := 69) hx hb hts hinX12 hown hK hP 0 (mat_11 rfl) rfl 31 (by decide) (hts (.fieldLink RX12 349 "BondCalendarsModel" "taped" "I") (by decide +kernel)) (fun _ h9 => h9) (congrArg (fun z => some (Value.int z)) (show (σ8 0).1 31 = ((σ23x 0).1 31) from by rw [eσ8, gI_ne _ _ _ (by decide)])) dX12_feed_103 ?_
            refine lv_iconst (v := 1) hx hb dX12_feed_106 (by decide) ?_
            refine lv_iadd hx hb dX12_feed_107 ?_
            refine lv_topi (fun x_40 ex_40 => ?_)
            refine va_put (D := (dC, dI)) (ci := 11) (v := .int x_40) (C := RX12) (T := TX12) (N := 69) hx hb hts hinX12 tyX12 tyX12_ok nmX12 hown hK hP hD hS 0 (mat_11 rfl) rfl 31 (by decide) (hts (.fieldLink RX12 349 "BondCalendarsModel" "taped" "I") (by decide +kernel)) (fun _ h9 => h9) rfl (ty := .int) (by decide +kernel) rfl rfl (Nat.le_of_ble_eq_true rfl) dX12_feed_108 (fun H locs hP hD hS => ?_)
            obtain ⟨σ9, eσ9, hP, hD⟩ := gPut (mse_11_31 rfl) hP hD
            have hIσ9 : InvM σ9 := by rw [eσ9]; exact minv_I hIσ8 (mok_11_31 rfl _ ⟨(cnt_0 bd_34.1 (fd_l iv23_1 bd_34.1 iv23_0 (Int32.not_le.mp c_4)) ex_40), (cnt_N bd_34.1 (fd_l iv23_1 bd_34.1 iv23_0 (Int32.not_le.mp c_4)) ex_40)⟩)
            have frσ9 : mFr [56] [0, 31] σ σ9 := by rw [eσ9]; exact mFr.oI frσ8 (by decide)
            obtain ⟨x_41, ex_41⟩ : ∃ zz : Int32, zz = i6 + 1 := ⟨_, rfl⟩
            refine lv_iinc (v := x_41) (lv' := [(6, .int x_41), (7, .int p1), (0, .ref (ad 0)), (1, .int p0), (2, .int p1), (3, .int p2), (4, .int p3), (5, .int p4)]) hx hb dX12_feed_111 hl (k := 1) rfl (by rw [ex_41]; rfl) (by decide) rfl (fun ls hl => ?_)
            refine lv_goto (tgt := 23) hx hb dX12_feed_114 (by decide) ?_
            exact ih23 x_41 σ9 _ _ _ _ (cnt_m iv23_0 (Int32.not_le.mp c_4) hm23 ex_41) (cnt_0 iv23_0 (Int32.not_le.mp c_4) ex_41) (by rw [eσ9, gI_self]; exact (fd_s iv23_1 bd_34.1 iv23_0 (Int32.not_le.mp c_4) ex_40 ex_41)) hIσ9 frσ9 hd0 hP hD hS (lv_sub hl [0, 2, 3, 4, 5, 6, 7] rfl)
        · refine lv_iload_n hx hb dX12_feed_36 rfl (lv_at hl 2 rfl) ?_
          refine lv_goto (tgt := 76) hx hb dX12_feed_37 (by decide) ?_
          refine lv_istore (lv' := [(7, .int p0), (6, .int i6), (0, .ref (ad 0)), (1, .int p0), (2, .int p1), (3, .int p2), (4, .int p3), (5, .int p4)]) hx hb dX12_feed_76 hl (by decide) rfl (fun ls hl => ?_)
          refine lv_aload_n hx hb dX12_feed_78 rfl (lv_at hl 2 rfl) ?_
          refine va_get (D := (dC, dI)) (ci := 11) (v := .ref (ad 16)) (C := RX12) (T := TX12) (N := 69) hx hb hts hinX12 hown hK hP 0 (mat_11 rfl) rfl 30 (by decide) (hts (.fieldLink RX12 60 "BondCalendarsModel" "tape" "[B") (by decide +kernel)) (fun _ h9 => h9) rfl dX12_feed_79 ?_
          refine lv_aload_n hx hb dX12_feed_82 rfl (lv_at hl 2 rfl) ?_
          have bd_42 := mrd_11_31 (c := 0) hIσ23x rfl
          refine va_get (D := (dC, dI)) (ci := 11) (v := .int ((σ23x 0).1 31)) (C := RX12) (T := TX12) (N := 69) hx hb hts hinX12 hown hK hP 0 (mat_11 rfl) rfl 31 (by decide) (hts (.fieldLink RX12 349 "BondCalendarsModel" "taped" "I") (by decide +kernel)) (fun _ h9 => h9) rfl dX12_feed_83 ?_
          refine lv_iload hx hb dX12_feed_86 (lv_at hl 0 rfl) ?_
          refine lv_bipush (v := 24) hx hb dX12_feed_88 (by decide) ?_
          refine lv_bipush (v := 8) hx hb dX12_feed_90 (by decide) ?_
          refine lv_iload hx hb dX12_feed_92 (lv_at hl 1 rfl) ?_
          refine lv_iconst (v := 4) hx hb dX12_feed_94 (by decide) ?_
          refine lv_irem hx hb dX12_feed_95 (by decide) ?_
          refine lv_topi (fun x_43 ex_43 => ?_)
          refine lv_imul hx hb dX12_feed_96 ?_
          refine lv_topi (fun x_44 ex_44 => ?_)
          refine lv_isub hx hb dX12_feed_97 ?_
          refine lv_topi (fun x_45 ex_45 => ?_)
          refine lv_ishr hx hb dX12_feed_98 ?_
          refine lv_topi (fun x_46 _ => ?_)
          refine lv_i2b hx hb dX12_feed_99 rfl ?_
          refine lv_topi (fun x_47 _ => ?_)
          refine va_bast hx hb hK hP hD hS 16 16 (mat_56 rfl) (mty_56 rfl) (gin (N := 900) (by decide) bd_42.1 (fd_l iv23_1 bd_42.1 iv23_0 (Int32.not_le.mp c_4))) dX12_feed_100 (fun H locs hP hD hS => ?_)
          obtain ⟨σ10, eσ10, hP, hD⟩ := gPut (mse_56 rfl) hP hD
          have hIσ10 : InvM σ10 := by rw [eσ10]; exact minv_I hIσ23x (mok_56 rfl _ _)
          have frσ10 : mFr [56] [0, 31] σ σ10 := by rw [eσ10]; exact mFr.aI frσ23x (by decide) (by decide)
          refine lv_aload_n hx hb dX12_feed_101 rfl (lv_at hl 2 rfl) ?_
          refine lv_dup hx hb dX12_feed_102 rfl ?_
          refine va_get (D := (dC, dI)) (ci := 11) (v := .int ((σ23x 0).1 31)) (C := RX12) (T := TX12) (N := 69) hx hb hts hinX12 hown hK hP 0 (mat_11 rfl) rfl 31 (by decide) (hts (.fieldLink RX12 349 "BondCalendarsModel" "taped" "I") (by decide +kernel)) (fun _ h9 => h9) (congrArg (fun z => some (Value.int z)) (show (σ10 0).1 31 = ((σ23x 0).1 31) from by rw [eσ10, gI_ne _ _ _ (by decide)])) dX12_feed_103 ?_
          refine lv_iconst (v := 1) hx hb dX12_feed_106 (by decide) ?_
          refine lv_iadd hx hb dX12_feed_107 ?_
          refine lv_topi (fun x_48 ex_48 => ?_)
          refine va_put (D := (dC, dI)) (ci := 11) (v := .int x_48) (C := RX12) (T := TX12) (N := 69) hx hb hts hinX12 tyX12 tyX12_ok nmX12 hown hK hP hD hS 0 (mat_11 rfl) rfl 31 (by decide) (hts (.fieldLink RX12 349 "BondCalendarsModel" "taped" "I") (by decide +kernel)) (fun _ h9 => h9) rfl (ty := .int) (by decide +kernel) rfl rfl (Nat.le_of_ble_eq_true rfl) dX12_feed_108 (fun H locs hP hD hS => ?_)
          obtain ⟨σ11, eσ11, hP, hD⟩ := gPut (mse_11_31 rfl) hP hD
          have hIσ11 : InvM σ11 := by rw [eσ11]; exact minv_I hIσ10 (mok_11_31 rfl _ ⟨(cnt_0 bd_42.1 (fd_l iv23_1 bd_42.1 iv23_0 (Int32.not_le.mp c_4)) ex_48), (cnt_N bd_42.1 (fd_l iv23_1 bd_42.1 iv23_0 (Int32.not_le.mp c_4)) ex_48)⟩)
          have frσ11 : mFr [56] [0, 31] σ σ11 := by rw [eσ11]; exact mFr.oI frσ10 (by decide)
          obtain ⟨x_49, ex_49⟩ : ∃ zz : Int32, zz = i6 + 1 := ⟨_, rfl⟩
          refine lv_iinc (v := x_49) (lv' := [(6, .int x_49), (7, .int p0), (0, .ref (ad 0)), (1, .int p0), (2, .int p1), (3, .int p2), (4, .int p3), (5, .int p4)]) hx hb dX12_feed_111 hl (k := 1) rfl (by rw [ex_49]; rfl) (by decide) rfl (fun ls hl => ?_)
          refine lv_goto (tgt := 23) hx hb dX12_feed_114 (by decide) ?_
          exact ih23 x_49 σ11 _ _ _ _ (cnt_m iv23_0 (Int32.not_le.mp c_4) hm23 ex_49) (cnt_0 iv23_0 (Int32.not_le.mp c_4) ex_49) (by rw [eσ11, gI_self]; exact (fd_s iv23_1 bd_42.1 iv23_0 (Int32.not_le.mp c_4) ex_48 ex_49)) hIσ11 frσ11 hd0 hP hD hS (lv_sub hl [0, 2, 3, 4, 5, 6, 7] rfl)
  · refine lv_iconst (v := (-1)) hx hb dX12_feed_18 (by decide) ?_
    refine W.endD hd0 ?_
    exact W.iret (v := (-1)) hx hb hr (fun t ht hW => ⟨⟨(-1), σ1, rfl, ⟨hIσ1, frσ1, trivial⟩, ⟨by rw [ht]; exact hP, hD⟩⟩, hS.F ht⟩) hS.2.2 dX12_feed_19
