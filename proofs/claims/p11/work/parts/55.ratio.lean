set_option maxHeartbeats 8000000 in
set_option maxRecDepth 100000 in
theorem n_X12_sets (l : Launch) (dC : Nat → ClassId) (dI : Nat → Nat → Nat) (ad : Nat → Nat) (cA : Nat → ClassId) (adK adV : Nat → Nat) (sz : Nat) (σ : gs) (hI : InvM σ) (p0 : Int64) (p1 : Int64) (hh0 : dL p1) : MetD lw_cs l yX12_sets wsX12_sets ({ frames := 1, cells := 0, slots := 0, locals := 29 }) (va_Pc [.ref (ad 0), .long p0, .long p1] (gPre adK adV (dC, dI) (wM ad cA σ) (tM cA) sz)) (va_Qv (fun (τ : gs) => InvM τ ∧ mFr [] [] σ τ ∧ (((τ 0).2.1 4).toInt.natAbs ∣ p1.toInt.natAbs)) (fun τ t => gPost (dC, dI) (va_A (wM ad cA σ) sz) (wM ad cA τ) t) (va_A (wM ad cA σ) sz)) 0 0 (va_A (wM ad cA σ) sz) := by
  refine MetD.ofW (cc := cX12_sets) (maxL := 7) (ret := none) (by decide) rfl ?_
  intro p e s m args below meth c s₁ B hml hv hd0
  obtain ⟨rfl, hsz, hP, hK, hD0, hT⟩ := hv
  have hx := B.exec
  have hb := B.bytes
  have hr := B.returns
  have hts0 := atoms_spec (ws := wsX12_sets) B.pre
  have hK0 := hK
  have hown0 : s.vm.findClass RX12 = some m.cls := findClass_of_methodNamed B.named
  have hlocks := B.notSynchronized
  have hinX12 : ∀ w ∈ u_ws RX12 TX12 69, w ∈ wsX12_sets := (fun _ h9 => List.mem_cons_of_mem _ (List.mem_append_right _ h9))
  subst hsz
  have hD := hD0.self (sz := s.heap.size)
  generalize hAe : va_A (wM ad cA σ) s.heap.size = A at hD hT ⊢
  have hA : ∀ q : Nat, s.heap.size ≤ q → A q := fun q h => by rw [← hAe]; exact Or.inr h
  have hS : va_S A s.heap s.heap [] := va_S.rf
  have hl := lv_entry ([.ref (ad 0), .long p0, .long p1]) (n := 7) (Nat.le_of_ble_eq_true rfl)
  rw [lg_entry_eq]
  generalize (lg_sl ([.ref (ad 0), .long p0, .long p1]) ++ List.replicate (7 - (lg_sl ([.ref (ad 0), .long p0, .long p1])).length) Slot.unset).toArray = ls at hl ⊢
  have hl : lv_has ls 7 [(0, .ref (ad 0)), (1, .long p0), (3, .long p1)] := hl
  have hts := dr_words hts0 (s.drawn)
  have hK := gKd hK0 (s.drawn)
  have hown : (s.setDrawn (s.drawn)).vm.findClass RX12 = some m.cls := hown0
  refine lv_lload_n hx hb dX12_sets_0 rfl (lv_at hl 1 rfl) ?_
  refine lv_lload_n hx hb dX12_sets_1 rfl (lv_at hl 2 rfl) ?_
  have hF := gFree hD hS hA
  refine va_calllD hd0 (va_runS_D (As := [.long p0, .long p1]) (rest := []) ⟨hx, hb, hml, hown, hts⟩ (n_X12_common l dC dI ad cA adK adV s.heap.size σ hI p0 p1) (va_cwS 2 hts gX12_sets_X12_common rfl rfl rfl (by decide +kernel) ⟨Nat.le_of_ble_eq_true rfl, Nat.le_of_ble_eq_true rfl⟩) ⟨gBlind, gStart (As := [.long p0, .long p1]) hP hD hK0 hT hS hF (s.drawn)⟩ rfl rfl hl.1 rfl (lv_room (Nat.le_of_ble_eq_true rfl)) dX12_sets_2 ⟨Nat.le_of_ble_eq_true rfl, Nat.le_of_ble_eq_true rfl⟩) hS (fun q _ h => hF q h) hF (fun r_1 σ1 t H locs ht hvm hw hB hz1 hk1 hS d_2 hd0 => ?_)
  have hts := dr_words hts0 (d_2)
  have hK := gKd hK0 (d_2)
  have hown : (s.setDrawn (d_2)).vm.findClass RX12 = some m.cls := hown0
  obtain ⟨hP, hD⟩ := gBack hF ht hB
  obtain ⟨hIσ1, hro, hp_3⟩ := hw
  subst hro
  refine lv_lstore (lv' := [(5, .long r_1), (0, .ref (ad 0)), (1, .long p0), (3, .long p1)]) hx hb dX12_sets_5 hl (by decide) rfl (fun ls hl => ?_)
  refine lv_aload_n hx hb dX12_sets_7 rfl (lv_at hl 1 rfl) ?_
  refine lv_lload_n hx hb dX12_sets_8 rfl (lv_at hl 2 rfl) ?_
  refine lv_lload hx hb dX12_sets_9 (lv_at hl 0 rfl) ?_
  refine lv_ldiv hx hb dX12_sets_11 (gcd_ne hh0 hp_3) ?_
  refine lv_topl (fun x_4 ex_4 => ?_)
  refine va_put (D := (dC, dI)) (ci := 11) (v := .long x_4) (C := RX12) (T := TX12) (N := 69) hx hb hts hinX12 tyX12 tyX12_ok nmX12 hown hK hP hD hS 0 (mat_11 rfl) rfl 3 (by decide) (hts (.fieldLink RX12 161 "BondCalendarsModel" "up" "J") (by decide +kernel)) (fun _ h9 => h9) rfl (ty := .long) (by decide +kernel) rfl rfl (Nat.le_of_ble_eq_true rfl) dX12_sets_12 (fun H locs hP hD hS => ?_)
  obtain ⟨σ2, eσ2, hP, hD⟩ := gPut (mse_11_3 rfl) hP hD
  have hIσ2 : InvM σ2 := by rw [eσ2]; exact minv_L hI
  have frσ2 : mFr [] [] σ σ2 := by rw [eσ2]; exact mFr.oL (mFr.rfl (L := []) (F := []) (σ := σ))
  refine lv_aload_n hx hb dX12_sets_15 rfl (lv_at hl 1 rfl) ?_
  refine lv_lload_n hx hb dX12_sets_16 rfl (lv_at hl 3 rfl) ?_
  refine lv_lload hx hb dX12_sets_17 (lv_at hl 0 rfl) ?_
  refine lv_ldiv hx hb dX12_sets_19 (gcd_ne hh0 hp_3) ?_
  refine lv_topl (fun x_5 ex_5 => ?_)
  refine va_put (D := (dC, dI)) (ci := 11) (v := .long x_5) (C := RX12) (T := TX12) (N := 69) hx hb hts hinX12 tyX12 tyX12_ok nmX12 hown hK hP hD hS 0 (mat_11 rfl) rfl 4 (by decide) (hts (.fieldLink RX12 165 "BondCalendarsModel" "lo" "J") (by decide +kernel)) (fun _ h9 => h9) rfl (ty := .long) (by decide +kernel) rfl rfl (Nat.le_of_ble_eq_true rfl) dX12_sets_20 (fun H locs hP hD hS => ?_)
  obtain ⟨σ3, eσ3, hP, hD⟩ := gPut (mse_11_4 rfl) hP hD
  have hIσ3 : InvM σ3 := by rw [eσ3]; exact minv_L hIσ2
  have frσ3 : mFr [] [] σ σ3 := by rw [eσ3]; exact mFr.oL frσ2
  refine W.endD hd0 ?_
  exact W.vret hx hb hr (fun t ht hW => ⟨⟨σ3, rfl, ⟨hIσ3, frσ3, (by rw [eσ3, gL_self, ex_5]; exact sets_dv hh0 hp_3)⟩, ⟨by rw [ht]; exact hP, hD⟩⟩, hS.F ht⟩) hS.2.2 dX12_sets_23
set_option maxHeartbeats 8000000 in
set_option maxRecDepth 100000 in
theorem n_X12_adds (l : Launch) (dC : Nat → ClassId) (dI : Nat → Nat → Nat) (ad : Nat → Nat) (cA : Nat → ClassId) (adK adV : Nat → Nat) (sz : Nat) (σ : gs) (hI : InvM σ) (p0 : Int64) (p1 : Int64) (hh0 : dL ((σ 0).2.1 4)) (hh1 : dL p1) : MetD lw_cs l yX12_adds wsX12_adds ({ frames := 2, cells := 0, slots := 0, locals := 55 }) (va_Pc [.ref (ad 0), .long p0, .long p1] (gPre adK adV (dC, dI) (wM ad cA σ) (tM cA) sz)) (va_Qv (fun (τ : gs) => InvM τ ∧ mFr [] [] σ τ ∧ (((τ 0).2.1 4).toInt.natAbs ∣ Nat.lcm ((σ 0).2.1 4).toInt.natAbs p1.toInt.natAbs)) (fun τ t => gPost (dC, dI) (va_A (wM ad cA σ) sz) (wM ad cA τ) t) (va_A (wM ad cA σ) sz)) 0 0 (va_A (wM ad cA σ) sz) := by
  refine MetD.ofW (cc := cX12_adds) (maxL := 7) (ret := none) (by decide) rfl ?_
  intro p e s m args below meth c s₁ B hml hv hd0
  obtain ⟨rfl, hsz, hP, hK, hD0, hT⟩ := hv
  have hx := B.exec
  have hb := B.bytes
  have hr := B.returns
  have hts0 := atoms_spec (ws := wsX12_adds) B.pre
  have hK0 := hK
  have hown0 : s.vm.findClass RX12 = some m.cls := findClass_of_methodNamed B.named
  have hlocks := B.notSynchronized
  have hinX12 : ∀ w ∈ u_ws RX12 TX12 69, w ∈ wsX12_adds := (fun _ h9 => List.mem_cons_of_mem _ (List.mem_append_right _ h9))
  subst hsz
  have hD := hD0.self (sz := s.heap.size)
  generalize hAe : va_A (wM ad cA σ) s.heap.size = A at hD hT ⊢
  have hA : ∀ q : Nat, s.heap.size ≤ q → A q := fun q h => by rw [← hAe]; exact Or.inr h
  have hS : va_S A s.heap s.heap [] := va_S.rf
  have hl := lv_entry ([.ref (ad 0), .long p0, .long p1]) (n := 7) (Nat.le_of_ble_eq_true rfl)
  rw [lg_entry_eq]
  generalize (lg_sl ([.ref (ad 0), .long p0, .long p1]) ++ List.replicate (7 - (lg_sl ([.ref (ad 0), .long p0, .long p1])).length) Slot.unset).toArray = ls at hl ⊢
  have hl : lv_has ls 7 [(0, .ref (ad 0)), (1, .long p0), (3, .long p1)] := hl
  have hts := dr_words hts0 (s.drawn)
  have hK := gKd hK0 (s.drawn)
  have hown : (s.setDrawn (s.drawn)).vm.findClass RX12 = some m.cls := hown0
  refine lv_aload_n hx hb dX12_adds_0 rfl (lv_at hl 0 rfl) ?_
  refine va_get (D := (dC, dI)) (ci := 11) (v := .long ((σ 0).2.1 4)) (C := RX12) (T := TX12) (N := 69) hx hb hts hinX12 hown hK hP 0 (mat_11 rfl) rfl 4 (by decide) (hts (.fieldLink RX12 165 "BondCalendarsModel" "lo" "J") (by decide +kernel)) (fun _ h9 => h9) rfl dX12_adds_1 ?_
  refine lv_aload_n hx hb dX12_adds_4 rfl (lv_at hl 0 rfl) ?_
  refine va_get (D := (dC, dI)) (ci := 11) (v := .long ((σ 0).2.1 4)) (C := RX12) (T := TX12) (N := 69) hx hb hts hinX12 hown hK hP 0 (mat_11 rfl) rfl 4 (by decide) (hts (.fieldLink RX12 165 "BondCalendarsModel" "lo" "J") (by decide +kernel)) (fun _ h9 => h9) rfl dX12_adds_5 ?_
  refine lv_lload_n hx hb dX12_adds_8 rfl (lv_at hl 2 rfl) ?_
  have hF := gFree hD hS hA
  refine va_calllD hd0 (va_runS_D (As := [.long ((σ 0).2.1 4), .long p1]) (rest := [.long ((σ 0).2.1 4)]) ⟨hx, hb, hml, hown, hts⟩ (n_X12_common l dC dI ad cA adK adV s.heap.size σ hI ((σ 0).2.1 4) p1) (va_cwS 2 hts gX12_adds_X12_common rfl rfl rfl (by decide +kernel) ⟨Nat.le_of_ble_eq_true rfl, Nat.le_of_ble_eq_true rfl⟩) ⟨gBlind, gStart (As := [.long ((σ 0).2.1 4), .long p1]) hP hD hK0 hT hS hF (s.drawn)⟩ rfl rfl hl.1 rfl (lv_room (Nat.le_of_ble_eq_true rfl)) dX12_adds_9 ⟨Nat.le_of_ble_eq_true rfl, Nat.le_of_ble_eq_true rfl⟩) hS (fun q _ h => hF q h) hF (fun r_1 σ1 t H locs ht hvm hw hB hz1 hk1 hS d_2 hd0 => ?_)
  have hts := dr_words hts0 (d_2)
  have hK := gKd hK0 (d_2)
  have hown : (s.setDrawn (d_2)).vm.findClass RX12 = some m.cls := hown0
  obtain ⟨hP, hD⟩ := gBack hF ht hB
  obtain ⟨hIσ1, hro, hp_3⟩ := hw
  subst hro
  refine lv_ldiv hx hb dX12_adds_12 (gcd_ne hh1 hp_3) ?_
  refine lv_topl (fun x_4 ex_4 => ?_)
  refine lv_lload_n hx hb dX12_adds_13 rfl (lv_at hl 2 rfl) ?_
  refine lv_lmul hx hb dX12_adds_14 ?_
  refine lv_topl (fun x_5 ex_5 => ?_)
  refine lv_lstore (lv' := [(5, .long x_5), (0, .ref (ad 0)), (1, .long p0), (3, .long p1)]) hx hb dX12_adds_15 hl (by decide) rfl (fun ls hl => ?_)
  refine lv_aload_n hx hb dX12_adds_17 rfl (lv_at hl 1 rfl) ?_
  refine lv_aload_n hx hb dX12_adds_18 rfl (lv_at hl 1 rfl) ?_
  refine va_get (D := (dC, dI)) (ci := 11) (v := .long ((σ 0).2.1 3)) (C := RX12) (T := TX12) (N := 69) hx hb hts hinX12 hown hK hP 0 (mat_11 rfl) rfl 3 (by decide) (hts (.fieldLink RX12 161 "BondCalendarsModel" "up" "J") (by decide +kernel)) (fun _ h9 => h9) rfl dX12_adds_19 ?_
  refine lv_lload hx hb dX12_adds_22 (lv_at hl 0 rfl) ?_
  refine lv_aload_n hx hb dX12_adds_24 rfl (lv_at hl 1 rfl) ?_
  refine va_get (D := (dC, dI)) (ci := 11) (v := .long ((σ 0).2.1 4)) (C := RX12) (T := TX12) (N := 69) hx hb hts hinX12 hown hK hP 0 (mat_11 rfl) rfl 4 (by decide) (hts (.fieldLink RX12 165 "BondCalendarsModel" "lo" "J") (by decide +kernel)) (fun _ h9 => h9) rfl dX12_adds_25 ?_
  refine lv_ldiv hx hb dX12_adds_28 (dL_ne hh0) ?_
  refine lv_topl (fun x_6 ex_6 => ?_)
  refine lv_lmul hx hb dX12_adds_29 ?_
  refine lv_topl (fun x_7 ex_7 => ?_)
  refine lv_lload_n hx hb dX12_adds_30 rfl (lv_at hl 2 rfl) ?_
  refine lv_lload hx hb dX12_adds_31 (lv_at hl 0 rfl) ?_
  refine lv_lload_n hx hb dX12_adds_33 rfl (lv_at hl 3 rfl) ?_
  refine lv_ldiv hx hb dX12_adds_34 (dL_ne hh1) ?_
  refine lv_topl (fun x_8 ex_8 => ?_)
  refine lv_lmul hx hb dX12_adds_35 ?_
  refine lv_topl (fun x_9 ex_9 => ?_)
  refine lv_ladd hx hb dX12_adds_36 ?_
  refine lv_topl (fun x_10 ex_10 => ?_)
  refine lv_lload hx hb dX12_adds_37 (lv_at hl 0 rfl) ?_
  have hF := gFree hD hS hA
  refine va_callvD hd0 (va_runV_D (As := [.long x_10, .long x_5]) (rest := []) ⟨hx, hb, hml, hown, hts⟩ (n_X12_sets l dC dI ad cA adK adV H.size σ hI x_10 x_5 (by rw [ex_5]; exact dL_adds hh0 hh1 hp_3 ex_4)) (cwV 2 hts gX12_adds_X12_sets rfl rfl rfl (by decide +kernel) ⟨Nat.le_of_ble_eq_true rfl, Nat.le_of_ble_eq_true rfl⟩) ⟨gBlind, va_recv hK hP (ci := 11) (q0 := 0) rfl (mat_11 rfl), gStart (As := [.ref (ad 0), .long x_10, .long x_5]) hP hD hK0 hT hS hF (d_2)⟩ rfl rfl hl.1 rfl (lv_room (Nat.le_of_ble_eq_true rfl)) dX12_adds_39 ⟨Nat.le_of_ble_eq_true rfl, Nat.le_of_ble_eq_true rfl⟩) hS (fun q _ h => hF q h) hF (fun σ2 t H locs ht hvm hw hB hz1 hk1 hS d_12 hd0 => ?_)
  have hts := dr_words hts0 (d_12)
  have hK := gKd hK0 (d_12)
  have hown : (s.setDrawn (d_12)).vm.findClass RX12 = some m.cls := hown0
  obtain ⟨hP, hD⟩ := gBack hF ht hB
  obtain ⟨hIσ2, fcσ2, hp_13⟩ := hw
  refine W.endD hd0 ?_
  exact W.vret hx hb hr (fun t ht hW => ⟨⟨σ2, rfl, ⟨hIσ2, (mFr.tr (mFr.rfl (L := []) (F := []) (σ := σ)) fcσ2 (by decide) (by decide)), (adds_dv hh0 hh1 hp_3 ex_4 ▸ (ex_5 ▸ hp_13))⟩, ⟨by rw [ht]; exact hP, hD⟩⟩, hS.F ht⟩) hS.2.2 dX12_adds_42
set_option maxHeartbeats 8000000 in
set_option maxRecDepth 100000 in
theorem n_X12_times (l : Launch) (dC : Nat → ClassId) (dI : Nat → Nat → Nat) (ad : Nat → Nat) (cA : Nat → ClassId) (adK adV : Nat → Nat) (sz : Nat) (σ : gs) (hI : InvM σ) (p0 : Int64) (p1 : Int64) (hh0 : ((σ 0).2.1 4).toInt.natAbs * p1.toInt.natAbs ∣ LLn) : MetD lw_cs l yX12_times wsX12_times ({ frames := 2, cells := 0, slots := 0, locals := 55 }) (va_Pc [.ref (ad 0), .long p0, .long p1] (gPre adK adV (dC, dI) (wM ad cA σ) (tM cA) sz)) (va_Qv (fun (τ : gs) => InvM τ ∧ mFr [] [] σ τ ∧ (((τ 0).2.1 4).toInt.natAbs ∣ ((σ 0).2.1 4).toInt.natAbs * p1.toInt.natAbs)) (fun τ t => gPost (dC, dI) (va_A (wM ad cA σ) sz) (wM ad cA τ) t) (va_A (wM ad cA σ) sz)) 0 0 (va_A (wM ad cA σ) sz) := by
  refine MetD.ofW (cc := cX12_times) (maxL := 9) (ret := none) (by decide) rfl ?_
  intro p e s m args below meth c s₁ B hml hv hd0
  obtain ⟨rfl, hsz, hP, hK, hD0, hT⟩ := hv
  have hx := B.exec
  have hb := B.bytes
  have hr := B.returns
  have hts0 := atoms_spec (ws := wsX12_times) B.pre
  have hK0 := hK
  have hown0 : s.vm.findClass RX12 = some m.cls := findClass_of_methodNamed B.named
  have hlocks := B.notSynchronized
  have hinX12 : ∀ w ∈ u_ws RX12 TX12 69, w ∈ wsX12_times := (fun _ h9 => List.mem_cons_of_mem _ (List.mem_append_right _ h9))
  subst hsz
  have hD := hD0.self (sz := s.heap.size)
  generalize hAe : va_A (wM ad cA σ) s.heap.size = A at hD hT ⊢
  have hA : ∀ q : Nat, s.heap.size ≤ q → A q := fun q h => by rw [← hAe]; exact Or.inr h
  have hS : va_S A s.heap s.heap [] := va_S.rf
  have hl := lv_entry ([.ref (ad 0), .long p0, .long p1]) (n := 9) (Nat.le_of_ble_eq_true rfl)
  rw [lg_entry_eq]
  generalize (lg_sl ([.ref (ad 0), .long p0, .long p1]) ++ List.replicate (9 - (lg_sl ([.ref (ad 0), .long p0, .long p1])).length) Slot.unset).toArray = ls at hl ⊢
  have hl : lv_has ls 9 [(0, .ref (ad 0)), (1, .long p0), (3, .long p1)] := hl
  have hts := dr_words hts0 (s.drawn)
  have hK := gKd hK0 (s.drawn)
  have hown : (s.setDrawn (s.drawn)).vm.findClass RX12 = some m.cls := hown0
  refine lv_aload_n hx hb dX12_times_0 rfl (lv_at hl 0 rfl) ?_
  refine va_get (D := (dC, dI)) (ci := 11) (v := .long ((σ 0).2.1 3)) (C := RX12) (T := TX12) (N := 69) hx hb hts hinX12 hown hK hP 0 (mat_11 rfl) rfl 3 (by decide) (hts (.fieldLink RX12 161 "BondCalendarsModel" "up" "J") (by decide +kernel)) (fun _ h9 => h9) rfl dX12_times_1 ?_
  refine lv_lload_n hx hb dX12_times_4 rfl (lv_at hl 2 rfl) ?_
  have hF := gFree hD hS hA
  refine va_calllD hd0 (va_runS_D (As := [.long ((σ 0).2.1 3), .long p1]) (rest := []) ⟨hx, hb, hml, hown, hts⟩ (n_X12_common l dC dI ad cA adK adV s.heap.size σ hI ((σ 0).2.1 3) p1) (va_cwS 2 hts gX12_times_X12_common rfl rfl rfl (by decide +kernel) ⟨Nat.le_of_ble_eq_true rfl, Nat.le_of_ble_eq_true rfl⟩) ⟨gBlind, gStart (As := [.long ((σ 0).2.1 3), .long p1]) hP hD hK0 hT hS hF (s.drawn)⟩ rfl rfl hl.1 rfl (lv_room (Nat.le_of_ble_eq_true rfl)) dX12_times_5 ⟨Nat.le_of_ble_eq_true rfl, Nat.le_of_ble_eq_true rfl⟩) hS (fun q _ h => hF q h) hF (fun r_1 σ1 t H locs ht hvm hw hB hz1 hk1 hS d_2 hd0 => ?_)
  have hts := dr_words hts0 (d_2)
  have hK := gKd hK0 (d_2)
  have hown : (s.setDrawn (d_2)).vm.findClass RX12 = some m.cls := hown0
  obtain ⟨hP, hD⟩ := gBack hF ht hB
  obtain ⟨hIσ1, hro, hp_3⟩ := hw
  subst hro
  refine lv_lstore (lv' := [(5, .long r_1), (0, .ref (ad 0)), (1, .long p0), (3, .long p1)]) hx hb dX12_times_8 hl (by decide) rfl (fun ls hl => ?_)
  refine lv_lload_n hx hb dX12_times_10 rfl (lv_at hl 2 rfl) ?_
  refine lv_aload_n hx hb dX12_times_11 rfl (lv_at hl 1 rfl) ?_
  refine va_get (D := (dC, dI)) (ci := 11) (v := .long ((σ 0).2.1 4)) (C := RX12) (T := TX12) (N := 69) hx hb hts hinX12 hown hK hP 0 (mat_11 rfl) rfl 4 (by decide) (hts (.fieldLink RX12 165 "BondCalendarsModel" "lo" "J") (by decide +kernel)) (fun _ h9 => h9) rfl dX12_times_12 ?_
  have hF := gFree hD hS hA
  refine va_calllD hd0 (va_runS_D (As := [.long p0, .long ((σ 0).2.1 4)]) (rest := []) ⟨hx, hb, hml, hown, hts⟩ (n_X12_common l dC dI ad cA adK adV H.size σ hI p0 ((σ 0).2.1 4)) (va_cwS 2 hts gX12_times_X12_common rfl rfl rfl (by decide +kernel) ⟨Nat.le_of_ble_eq_true rfl, Nat.le_of_ble_eq_true rfl⟩) ⟨gBlind, gStart (As := [.long p0, .long ((σ 0).2.1 4)]) hP hD hK0 hT hS hF (d_2)⟩ rfl rfl hl.1 rfl (lv_room (Nat.le_of_ble_eq_true rfl)) dX12_times_15 ⟨Nat.le_of_ble_eq_true rfl, Nat.le_of_ble_eq_true rfl⟩) hS (fun q _ h => hF q h) hF (fun r_4 σ2 t H locs ht hvm hw hB hz1 hk1 hS d_5 hd0 => ?_)
  have hts := dr_words hts0 (d_5)
  have hK := gKd hK0 (d_5)
  have hown : (s.setDrawn (d_5)).vm.findClass RX12 = some m.cls := hown0
  obtain ⟨hP, hD⟩ := gBack hF ht hB
  obtain ⟨hIσ2, hro, hp_6⟩ := hw
  subst hro
  refine lv_lstore (lv' := [(7, .long r_4), (5, .long r_1), (0, .ref (ad 0)), (1, .long p0), (3, .long p1)]) hx hb dX12_times_18 hl (by decide) rfl (fun ls hl => ?_)
  refine lv_lload hx hb dX12_times_20 (lv_at hl 0 rfl) ?_
  refine lv_lconst (v := 0) hx hb dX12_times_22 (by decide) ?_
  refine W.lcmp hx hb dX12_times_23 ?_
  refine lv_if_ne (tgt := 30) hx hb dX12_times_24 (by decide) (fun c_7 => ?_) (fun c_7 => ?_)
  · refine lv_aload_n hx hb dX12_times_30 rfl (lv_at hl 2 rfl) ?_
    refine lv_aload_n hx hb dX12_times_31 rfl (lv_at hl 2 rfl) ?_
    refine va_get (D := (dC, dI)) (ci := 11) (v := .long ((σ 0).2.1 3)) (C := RX12) (T := TX12) (N := 69) hx hb hts hinX12 hown hK hP 0 (mat_11 rfl) rfl 3 (by decide) (hts (.fieldLink RX12 161 "BondCalendarsModel" "up" "J") (by decide +kernel)) (fun _ h9 => h9) rfl dX12_times_32 ?_
    refine lv_lload hx hb dX12_times_35 (lv_at hl 1 rfl) ?_
    refine lv_ldiv hx hb dX12_times_37 (gcd_ne (dL_r hh0) hp_3) ?_
    refine lv_topl (fun x_8 ex_8 => ?_)
    refine lv_lload_n hx hb dX12_times_38 rfl (lv_at hl 3 rfl) ?_
    refine lv_lload hx hb dX12_times_39 (lv_at hl 0 rfl) ?_
    refine lv_ldiv hx hb dX12_times_41 (gcd_ne (dL_l hh0) hp_6) ?_
    refine lv_topl (fun x_9 ex_9 => ?_)
    refine lv_lmul hx hb dX12_times_42 ?_
    refine lv_topl (fun x_10 ex_10 => ?_)
    refine lv_aload_n hx hb dX12_times_43 rfl (lv_at hl 2 rfl) ?_
    refine va_get (D := (dC, dI)) (ci := 11) (v := .long ((σ 0).2.1 4)) (C := RX12) (T := TX12) (N := 69) hx hb hts hinX12 hown hK hP 0 (mat_11 rfl) rfl 4 (by decide) (hts (.fieldLink RX12 165 "BondCalendarsModel" "lo" "J") (by decide +kernel)) (fun _ h9 => h9) rfl dX12_times_44 ?_
    refine lv_lload hx hb dX12_times_47 (lv_at hl 0 rfl) ?_
    refine lv_ldiv hx hb dX12_times_49 (gcd_ne (dL_l hh0) hp_6) ?_
    refine lv_topl (fun x_11 ex_11 => ?_)
    refine lv_lload_n hx hb dX12_times_50 rfl (lv_at hl 4 rfl) ?_
    refine lv_lload hx hb dX12_times_51 (lv_at hl 1 rfl) ?_
    refine lv_ldiv hx hb dX12_times_53 (gcd_ne (dL_r hh0) hp_3) ?_
    refine lv_topl (fun x_12 ex_12 => ?_)
    refine lv_lmul hx hb dX12_times_54 ?_
    refine lv_topl (fun x_13 ex_13 => ?_)
    have hF := gFree hD hS hA
    refine va_callvD hd0 (va_runV_D (As := [.long x_10, .long x_13]) (rest := []) ⟨hx, hb, hml, hown, hts⟩ (n_X12_sets l dC dI ad cA adK adV H.size σ hI x_10 x_13 (by rw [ex_13]; exact dL_times hh0 hp_6 hp_3 ex_11 ex_12)) (cwV 2 hts gX12_times_X12_sets rfl rfl rfl (by decide +kernel) ⟨Nat.le_of_ble_eq_true rfl, Nat.le_of_ble_eq_true rfl⟩) ⟨gBlind, va_recv hK hP (ci := 11) (q0 := 0) rfl (mat_11 rfl), gStart (As := [.ref (ad 0), .long x_10, .long x_13]) hP hD hK0 hT hS hF (d_5)⟩ rfl rfl hl.1 rfl (lv_room (Nat.le_of_ble_eq_true rfl)) dX12_times_55 ⟨Nat.le_of_ble_eq_true rfl, Nat.le_of_ble_eq_true rfl⟩) hS (fun q _ h => hF q h) hF (fun σ3 t H locs ht hvm hw hB hz1 hk1 hS d_15 hd0 => ?_)
    have hts := dr_words hts0 (d_15)
    have hK := gKd hK0 (d_15)
    have hown : (s.setDrawn (d_15)).vm.findClass RX12 = some m.cls := hown0
    obtain ⟨hP, hD⟩ := gBack hF ht hB
    obtain ⟨hIσ3, fcσ3, hp_16⟩ := hw
    refine W.endD hd0 ?_
    exact W.vret hx hb hr (fun t ht hW => ⟨⟨σ3, rfl, ⟨hIσ3, (mFr.tr (mFr.rfl (L := []) (F := []) (σ := σ)) fcσ3 (by decide) (by decide)), (Nat.dvd_trans (ex_13 ▸ hp_16) (times_dv hh0 hp_6 hp_3 ex_11 ex_12))⟩, ⟨by rw [ht]; exact hP, hD⟩⟩, hS.F ht⟩) hS.2.2 dX12_times_58
  · exact absurd c_7 (fun h9 => (gcd_ne (dL_l hh0) hp_6) ((lg_cmp_eq _ _).mp h9))
set_option maxHeartbeats 8000000 in
set_option maxRecDepth 100000 in
theorem n_X12_countsPlain (l : Launch) (dC : Nat → ClassId) (dI : Nat → Nat → Nat) (ad : Nat → Nat) (cA : Nat → ClassId) (adK adV : Nat → Nat) (sz : Nat) (σ : gs) (hI : InvM σ) (p0 : Int32) (p1 : Int32) (p2 : Int32) : MetD lw_cs l yX12_countsPlain wsX12_countsPlain ({ frames := 2, cells := 0, slots := 0, locals := 55 }) (va_Pc [.ref (ad 0), .int p0, .int p1, .int p2] (gPre adK adV (dC, dI) (wM ad cA σ) (tM cA) sz)) (va_Qv (fun (τ : gs) => InvM τ ∧ mFr [] [] σ τ ∧ (True)) (fun τ t => gPost (dC, dI) (va_A (wM ad cA σ) sz) (wM ad cA τ) t) (va_A (wM ad cA σ) sz)) 0 0 (va_A (wM ad cA σ) sz) := by
  refine MetD.ofW (cc := cX12_countsPlain) (maxL := 5) (ret := none) (by decide) rfl ?_
  intro p e s m args below meth c s₁ B hml hv hd0
  obtain ⟨rfl, hsz, hP, hK, hD0, hT⟩ := hv
  have hx := B.exec
  have hb := B.bytes
  have hr := B.returns
  have hts0 := atoms_spec (ws := wsX12_countsPlain) B.pre
  have hK0 := hK
  have hown0 : s.vm.findClass RX12 = some m.cls := findClass_of_methodNamed B.named
  have hlocks := B.notSynchronized
  subst hsz
  have hD := hD0.self (sz := s.heap.size)
  generalize hAe : va_A (wM ad cA σ) s.heap.size = A at hD hT ⊢
  have hA : ∀ q : Nat, s.heap.size ≤ q → A q := fun q h => by rw [← hAe]; exact Or.inr h
  have hS : va_S A s.heap s.heap [] := va_S.rf
  have hl := lv_entry ([.ref (ad 0), .int p0, .int p1, .int p2]) (n := 5) (Nat.le_of_ble_eq_true rfl)
  rw [lg_entry_eq]
  generalize (lg_sl ([.ref (ad 0), .int p0, .int p1, .int p2]) ++ List.replicate (5 - (lg_sl ([.ref (ad 0), .int p0, .int p1, .int p2])).length) Slot.unset).toArray = ls at hl ⊢
  have hl : lv_has ls 5 [(0, .ref (ad 0)), (1, .int p0), (2, .int p1), (3, .int p2)] := hl
  have hts := dr_words hts0 (s.drawn)
  have hK := gKd hK0 (s.drawn)
  have hown : (s.setDrawn (s.drawn)).vm.findClass RX12 = some m.cls := hown0
  refine lv_iload_n hx hb dX12_countsPlain_0 rfl (lv_at hl 3 rfl) ?_
  have hF := gFree (w := []) (hx_D0 (A := A)) hS hA
  have hKe := hK.sub (tys' := []) [] rfl
  refine va_calli (va_runS (As := [.int p2]) (rest := []) ⟨hx, hb, hml, hown, hts⟩ (k_X12_dayOf l dC dI s.heap.size p2 ) (va_cwS 1 hts gX12_countsPlain_X12_dayOf rfl rfl rfl (by decide +kernel) ⟨Nat.le_of_ble_eq_true rfl, Nat.le_of_ble_eq_true rfl⟩) ⟨fun a U g mk q => by obtain ⟨q0, q1, qP, qK, qD⟩ := q; exact ⟨q0, q1, qP, va_K.moved (u := U) (U := U.calling g mk a) (Vm.Alike.refl U.vm) qK, qD⟩, fun U hU hW => ⟨rfl, by rw [hU], hx_P0, va_K.moved hW.alike hKe, hx_D0⟩⟩ rfl rfl hl.1 rfl (lv_room (Nat.le_of_ble_eq_true rfl)) dX12_countsPlain_1 ⟨Nat.le_of_ble_eq_true rfl, Nat.le_of_ble_eq_true rfl⟩) hS (fun q _ h => hF q h) hF (fun r_1 u t H locs ht hvm hw hB hz1 hk1 hS => ?_)
  have hP := gKeep hP hk1
  have pu_2 : r_1 = f_X12_dayOf p2 := hw
  refine lv_iload_n hx hb dX12_countsPlain_4 rfl (lv_at hl 2 rfl) ?_
  have hF := gFree (w := []) (hx_D0 (A := A)) hS hA
  have hKe := hK.sub (tys' := []) [] rfl
  refine va_calli (va_runS (As := [.int p1]) (rest := [.int r_1]) ⟨hx, hb, hml, hown, hts⟩ (k_X12_dayOf l dC dI H.size p1 ) (va_cwS 1 hts gX12_countsPlain_X12_dayOf rfl rfl rfl (by decide +kernel) ⟨Nat.le_of_ble_eq_true rfl, Nat.le_of_ble_eq_true rfl⟩) ⟨fun a U g mk q => by obtain ⟨q0, q1, qP, qK, qD⟩ := q; exact ⟨q0, q1, qP, va_K.moved (u := U) (U := U.calling g mk a) (Vm.Alike.refl U.vm) qK, qD⟩, fun U hU hW => ⟨rfl, by rw [hU], hx_P0, va_K.moved hW.alike hKe, hx_D0⟩⟩ rfl rfl hl.1 rfl (lv_room (Nat.le_of_ble_eq_true rfl)) dX12_countsPlain_5 ⟨Nat.le_of_ble_eq_true rfl, Nat.le_of_ble_eq_true rfl⟩) hS (fun q _ h => hF q h) hF (fun r_3 u t H locs ht hvm hw hB hz1 hk1 hS => ?_)
  have hP := gKeep hP hk1
  have pu_4 : r_3 = f_X12_dayOf p1 := hw
  refine lv_isub hx hb dX12_countsPlain_8 ?_
  refine lv_topi (fun x_5 ex_5 => ?_)
  refine lv_istore (lv' := [(4, .int x_5), (0, .ref (ad 0)), (1, .int p0), (2, .int p1), (3, .int p2)]) hx hb dX12_countsPlain_9 hl (by decide) rfl (fun ls hl => ?_)
  refine lv_iload_n hx hb dX12_countsPlain_11 rfl (lv_at hl 2 rfl) ?_
  refine lv_iconst (v := 2) hx hb dX12_countsPlain_12 (by decide) ?_
  refine lv_icmp_ne (tgt := 29) hx hb dX12_countsPlain_13 (by decide) (fun c_6 => ?_) (fun c_6 => ?_)
  · refine lv_iload_n hx hb dX12_countsPlain_29 rfl (lv_at hl 2 rfl) ?_
    refine lv_iconst (v := 3) hx hb dX12_countsPlain_30 (by decide) ?_
    refine lv_icmp_ne (tgt := 47) hx hb dX12_countsPlain_31 (by decide) (fun c_7 => ?_) (fun c_7 => ?_)
    · refine lv_aload_n hx hb dX12_countsPlain_47 rfl (lv_at hl 1 rfl) ?_
      refine lv_iload_n hx hb dX12_countsPlain_48 rfl (lv_at hl 3 rfl) ?_
      refine lv_iload_n hx hb dX12_countsPlain_49 rfl (lv_at hl 4 rfl) ?_
      refine lv_iload_n hx hb dX12_countsPlain_50 rfl (lv_at hl 2 rfl) ?_
      refine lv_iconst (v := 1) hx hb dX12_countsPlain_51 (by decide) ?_
      refine lv_icmp_ne (tgt := 59) hx hb dX12_countsPlain_52 (by decide) (fun c_8 => ?_) (fun c_8 => ?_)
      · refine lv_iconst (v := 0) hx hb dX12_countsPlain_59 (by decide) ?_
        have hF := gFree (w := []) (hx_D0 (A := A)) hS hA
        have hKe := hK.sub (tys' := []) [] rfl
        refine va_calli (va_runS (As := [.int p1, .int p2, .int 0]) (rest := [.ref (ad 0)]) ⟨hx, hb, hml, hown, hts⟩ (k_X12_thirties l dC dI H.size p1 p2 0 ) (va_cwS 3 hts gX12_countsPlain_X12_thirties rfl rfl rfl (by decide +kernel) ⟨Nat.le_of_ble_eq_true rfl, Nat.le_of_ble_eq_true rfl⟩) ⟨fun a U g mk q => by obtain ⟨q0, q1, qP, qK, qD⟩ := q; exact ⟨q0, q1, qP, va_K.moved (u := U) (U := U.calling g mk a) (Vm.Alike.refl U.vm) qK, qD⟩, fun U hU hW => ⟨rfl, by rw [hU], hx_P0, va_K.moved hW.alike hKe, hx_D0⟩⟩ rfl rfl hl.1 rfl (lv_room (Nat.le_of_ble_eq_true rfl)) dX12_countsPlain_60 ⟨Nat.le_of_ble_eq_true rfl, Nat.le_of_ble_eq_true rfl⟩) hS (fun q _ h => hF q h) hF (fun r_9 u t H locs ht hvm hw hB hz1 hk1 hS => ?_)
        have hP := gKeep hP hk1
        have pu_10 : r_9 = f_X12_thirties p1 p2 0 := hw
        refine lv_i2l hx hb dX12_countsPlain_63 rfl ?_
        refine lv_ldc2 (v := 360) hx hb hown (hts (.constantLong RX12 172 (360)) (by decide +kernel)) dX12_countsPlain_64 ?_
        have hF := gFree hD hS hA
        refine va_callvD hd0 (va_runV_D (As := [.long (r_9.toInt64), .long 360]) (rest := []) ⟨hx, hb, hml, hown, hts⟩ (n_X12_sets l dC dI ad cA adK adV H.size σ hI (r_9.toInt64) 360 (show dL 360 by unfold dL; decide)) (cwV 2 hts gX12_countsPlain_X12_sets rfl rfl rfl (by decide +kernel) ⟨Nat.le_of_ble_eq_true rfl, Nat.le_of_ble_eq_true rfl⟩) ⟨gBlind, va_recv hK hP (ci := 11) (q0 := 0) rfl (mat_11 rfl), gStart (As := [.ref (ad 0), .long (r_9.toInt64), .long 360]) hP hD hK0 hT hS hF (s.drawn)⟩ rfl rfl hl.1 rfl (lv_room (Nat.le_of_ble_eq_true rfl)) dX12_countsPlain_67 ⟨Nat.le_of_ble_eq_true rfl, Nat.le_of_ble_eq_true rfl⟩) hS (fun q _ h => hF q h) hF (fun σ1 t H locs ht hvm hw hB hz1 hk1 hS d_12 hd0 => ?_)
        have hts := dr_words hts0 (d_12)
        have hK := gKd hK0 (d_12)
        have hown : (s.setDrawn (d_12)).vm.findClass RX12 = some m.cls := hown0
        obtain ⟨hP, hD⟩ := gBack hF ht hB
        obtain ⟨hIσ1, fcσ1, hp_13⟩ := hw
        refine W.endD hd0 ?_
        exact W.vret hx hb hr (fun t ht hW => ⟨⟨σ1, rfl, ⟨hIσ1, (mFr.tr (mFr.rfl (L := []) (F := []) (σ := σ)) fcσ1 (by decide) (by decide)), trivial⟩, ⟨by rw [ht]; exact hP, hD⟩⟩, hS.F ht⟩) hS.2.2 dX12_countsPlain_70
      · refine lv_iconst (v := 1) hx hb dX12_countsPlain_55 (by decide) ?_
        refine lv_goto (tgt := 60) hx hb dX12_countsPlain_56 (by decide) ?_
        have hF := gFree (w := []) (hx_D0 (A := A)) hS hA
        have hKe := hK.sub (tys' := []) [] rfl
        refine va_calli (va_runS (As := [.int p1, .int p2, .int 1]) (rest := [.ref (ad 0)]) ⟨hx, hb, hml, hown, hts⟩ (k_X12_thirties l dC dI H.size p1 p2 1 ) (va_cwS 3 hts gX12_countsPlain_X12_thirties rfl rfl rfl (by decide +kernel) ⟨Nat.le_of_ble_eq_true rfl, Nat.le_of_ble_eq_true rfl⟩) ⟨fun a U g mk q => by obtain ⟨q0, q1, qP, qK, qD⟩ := q; exact ⟨q0, q1, qP, va_K.moved (u := U) (U := U.calling g mk a) (Vm.Alike.refl U.vm) qK, qD⟩, fun U hU hW => ⟨rfl, by rw [hU], hx_P0, va_K.moved hW.alike hKe, hx_D0⟩⟩ rfl rfl hl.1 rfl (lv_room (Nat.le_of_ble_eq_true rfl)) dX12_countsPlain_60 ⟨Nat.le_of_ble_eq_true rfl, Nat.le_of_ble_eq_true rfl⟩) hS (fun q _ h => hF q h) hF (fun r_14 u t H locs ht hvm hw hB hz1 hk1 hS => ?_)
        have hP := gKeep hP hk1
        have pu_15 : r_14 = f_X12_thirties p1 p2 1 := hw
        refine lv_i2l hx hb dX12_countsPlain_63 rfl ?_
        refine lv_ldc2 (v := 360) hx hb hown (hts (.constantLong RX12 172 (360)) (by decide +kernel)) dX12_countsPlain_64 ?_
        have hF := gFree hD hS hA
        refine va_callvD hd0 (va_runV_D (As := [.long (r_14.toInt64), .long 360]) (rest := []) ⟨hx, hb, hml, hown, hts⟩ (n_X12_sets l dC dI ad cA adK adV H.size σ hI (r_14.toInt64) 360 (show dL 360 by unfold dL; decide)) (cwV 2 hts gX12_countsPlain_X12_sets rfl rfl rfl (by decide +kernel) ⟨Nat.le_of_ble_eq_true rfl, Nat.le_of_ble_eq_true rfl⟩) ⟨gBlind, va_recv hK hP (ci := 11) (q0 := 0) rfl (mat_11 rfl), gStart (As := [.ref (ad 0), .long (r_14.toInt64), .long 360]) hP hD hK0 hT hS hF (s.drawn)⟩ rfl rfl hl.1 rfl (lv_room (Nat.le_of_ble_eq_true rfl)) dX12_countsPlain_67 ⟨Nat.le_of_ble_eq_true rfl, Nat.le_of_ble_eq_true rfl⟩) hS (fun q _ h => hF q h) hF (fun σ2 t H locs ht hvm hw hB hz1 hk1 hS d_17 hd0 => ?_)
        have hts := dr_words hts0 (d_17)
        have hK := gKd hK0 (d_17)
        have hown : (s.setDrawn (d_17)).vm.findClass RX12 = some m.cls := hown0
        obtain ⟨hP, hD⟩ := gBack hF ht hB
        obtain ⟨hIσ2, fcσ2, hp_18⟩ := hw
        refine W.endD hd0 ?_
        exact W.vret hx hb hr (fun t ht hW => ⟨⟨σ2, rfl, ⟨hIσ2, (mFr.tr (mFr.rfl (L := []) (F := []) (σ := σ)) fcσ2 (by decide) (by decide)), trivial⟩, ⟨by rw [ht]; exact hP, hD⟩⟩, hS.F ht⟩) hS.2.2 dX12_countsPlain_70
    · refine lv_aload_n hx hb dX12_countsPlain_34 rfl (lv_at hl 1 rfl) ?_
      refine lv_iload hx hb dX12_countsPlain_35 (lv_at hl 0 rfl) ?_
      refine lv_i2l hx hb dX12_countsPlain_37 rfl ?_
      refine lv_ldc2 (v := 365) hx hb hown (hts (.constantLong RX12 174 (365)) (by decide +kernel)) dX12_countsPlain_38 ?_
      have hF := gFree hD hS hA
      refine va_callvD hd0 (va_runV_D (As := [.long (x_5.toInt64), .long 365]) (rest := []) ⟨hx, hb, hml, hown, hts⟩ (n_X12_sets l dC dI ad cA adK adV H.size σ hI (x_5.toInt64) 365 (show dL 365 by unfold dL; decide)) (cwV 2 hts gX12_countsPlain_X12_sets rfl rfl rfl (by decide +kernel) ⟨Nat.le_of_ble_eq_true rfl, Nat.le_of_ble_eq_true rfl⟩) ⟨gBlind, va_recv hK hP (ci := 11) (q0 := 0) rfl (mat_11 rfl), gStart (As := [.ref (ad 0), .long (x_5.toInt64), .long 365]) hP hD hK0 hT hS hF (s.drawn)⟩ rfl rfl hl.1 rfl (lv_room (Nat.le_of_ble_eq_true rfl)) dX12_countsPlain_41 ⟨Nat.le_of_ble_eq_true rfl, Nat.le_of_ble_eq_true rfl⟩) hS (fun q _ h => hF q h) hF (fun σ3 t H locs ht hvm hw hB hz1 hk1 hS d_20 hd0 => ?_)
      have hts := dr_words hts0 (d_20)
      have hK := gKd hK0 (d_20)
      have hown : (s.setDrawn (d_20)).vm.findClass RX12 = some m.cls := hown0
      obtain ⟨hP, hD⟩ := gBack hF ht hB
      obtain ⟨hIσ3, fcσ3, hp_21⟩ := hw
      refine lv_goto (tgt := 70) hx hb dX12_countsPlain_44 (by decide) ?_
      refine W.endD hd0 ?_
      exact W.vret hx hb hr (fun t ht hW => ⟨⟨σ3, rfl, ⟨hIσ3, (mFr.tr (mFr.rfl (L := []) (F := []) (σ := σ)) fcσ3 (by decide) (by decide)), trivial⟩, ⟨by rw [ht]; exact hP, hD⟩⟩, hS.F ht⟩) hS.2.2 dX12_countsPlain_70
  · refine lv_aload_n hx hb dX12_countsPlain_16 rfl (lv_at hl 1 rfl) ?_
    refine lv_iload hx hb dX12_countsPlain_17 (lv_at hl 0 rfl) ?_
    refine lv_i2l hx hb dX12_countsPlain_19 rfl ?_
    refine lv_ldc2 (v := 360) hx hb hown (hts (.constantLong RX12 172 (360)) (by decide +kernel)) dX12_countsPlain_20 ?_
    have hF := gFree hD hS hA
    refine va_callvD hd0 (va_runV_D (As := [.long (x_5.toInt64), .long 360]) (rest := []) ⟨hx, hb, hml, hown, hts⟩ (n_X12_sets l dC dI ad cA adK adV H.size σ hI (x_5.toInt64) 360 (show dL 360 by unfold dL; decide)) (cwV 2 hts gX12_countsPlain_X12_sets rfl rfl rfl (by decide +kernel) ⟨Nat.le_of_ble_eq_true rfl, Nat.le_of_ble_eq_true rfl⟩) ⟨gBlind, va_recv hK hP (ci := 11) (q0 := 0) rfl (mat_11 rfl), gStart (As := [.ref (ad 0), .long (x_5.toInt64), .long 360]) hP hD hK0 hT hS hF (s.drawn)⟩ rfl rfl hl.1 rfl (lv_room (Nat.le_of_ble_eq_true rfl)) dX12_countsPlain_23 ⟨Nat.le_of_ble_eq_true rfl, Nat.le_of_ble_eq_true rfl⟩) hS (fun q _ h => hF q h) hF (fun σ4 t H locs ht hvm hw hB hz1 hk1 hS d_23 hd0 => ?_)
    have hts := dr_words hts0 (d_23)
    have hK := gKd hK0 (d_23)
    have hown : (s.setDrawn (d_23)).vm.findClass RX12 = some m.cls := hown0
    obtain ⟨hP, hD⟩ := gBack hF ht hB
    obtain ⟨hIσ4, fcσ4, hp_24⟩ := hw
    refine lv_goto (tgt := 70) hx hb dX12_countsPlain_26 (by decide) ?_
    refine W.endD hd0 ?_
    exact W.vret hx hb hr (fun t ht hW => ⟨⟨σ4, rfl, ⟨hIσ4, (mFr.tr (mFr.rfl (L := []) (F := []) (σ := σ)) fcσ4 (by decide) (by decide)), trivial⟩, ⟨by rw [ht]; exact hP, hD⟩⟩, hS.F ht⟩) hS.2.2 dX12_countsPlain_70
