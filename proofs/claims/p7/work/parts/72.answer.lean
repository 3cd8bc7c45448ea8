set_option maxHeartbeats 8000000 in
set_option maxRecDepth 100000 in
theorem n_X12_goodF (l : Launch) (dC : Nat → ClassId) (dI : Nat → Nat → Nat) (ad : Nat → Nat) (cA : Nat → ClassId) (adK adV : Nat → Nat) (sz : Nat) (σ : gs) (hI : InvM σ) (p0 : Int32) : MetD lw_cs l yX12_good wsX12_good ({ frames := 0, cells := 0, slots := 0, locals := 0 }) (va_Pc [.ref (ad 0), .int p0] (gPre adK adV (dC, dI) (wM ad cA σ) (tM cA) sz)) (va_Qi (fun (r : Int32) (τ : gs) => InvM τ ∧ mFr [] [1, 2] σ τ ∧ (r = f_X12_good p0)) (fun τ t => gPost (dC, dI) (va_A (wM ad cA σ) sz) (wM ad cA τ) t) (va_A (wM ad cA σ) sz)) 0 0 (va_A (wM ad cA σ) sz) := by
  refine MetD.ofW (cc := cX12_good) (maxL := 2) (ret := (some .int)) (by decide) rfl ?_
  intro p e s m args below meth c s₁ B hml hv hd0
  obtain ⟨rfl, hsz, hP, hK, hD0, hT⟩ := hv
  have hx := B.exec
  have hb := B.bytes
  have hr := B.returns
  have hts0 := atoms_spec (ws := wsX12_good) B.pre
  have hK0 := hK
  have hown0 : s.vm.findClass RX12 = some m.cls := findClass_of_methodNamed B.named
  have hlocks := B.notSynchronized
  have hinX12 : ∀ w ∈ u_ws RX12 TX12 69, w ∈ wsX12_good := (fun _ h9 => List.mem_cons_of_mem _ (List.mem_append_right _ h9))
  subst hsz
  have hD := hD0.self (sz := s.heap.size)
  generalize hAe : va_A (wM ad cA σ) s.heap.size = A at hD hT ⊢
  have hA : ∀ q : Nat, s.heap.size ≤ q → A q := fun q h => by rw [← hAe]; exact Or.inr h
  have hS : va_S A s.heap s.heap [] := va_S.rf
  have hl := lv_entry ([.ref (ad 0), .int p0]) (n := 2) (Nat.le_of_ble_eq_true rfl)
  rw [lg_entry_eq]
  generalize (lg_sl ([.ref (ad 0), .int p0]) ++ List.replicate (2 - (lg_sl ([.ref (ad 0), .int p0])).length) Slot.unset).toArray = ls at hl ⊢
  have hl : lv_has ls 2 [(0, .ref (ad 0)), (1, .int p0)] := hl
  have hts := dr_words hts0 (s.drawn)
  have hK := gKd hK0 (s.drawn)
  have hown : (s.setDrawn (s.drawn)).vm.findClass RX12 = some m.cls := hown0
  refine lv_aload_n hx hb dX12_good_0 rfl (lv_at hl 0 rfl) ?_
  refine lv_iconst (v := 0) hx hb dX12_good_1 (by decide) ?_
  refine va_put (D := (dC, dI)) (ci := 11) (v := .int 0) (C := RX12) (T := TX12) (N := 69) hx hb hts hinX12 tyX12 tyX12_ok nmX12 hown hK hP hD hS 0 (mat_11 rfl) rfl 1 (by decide) (hts (.fieldLink RX12 110 "BondCalendarsModel" "trouble" "I") (by decide +kernel)) (fun _ h9 => h9) rfl (ty := .int) (by decide +kernel) rfl rfl (Nat.le_of_ble_eq_true rfl) dX12_good_2 (fun H locs hP hD hS => ?_)
  obtain ⟨σ1, eσ1, hP, hD⟩ := gPut (mse_11_1 rfl) hP hD
  have hIσ1 : InvM σ1 := by rw [eσ1]; exact minv_I hI (mok_11_1 rfl _)
  have frσ1 : mFr [] [1, 2] σ σ1 := by rw [eσ1]; exact mFr.oI (mFr.rfl (L := []) (F := [1, 2]) (σ := σ)) (by decide)
  refine lv_aload_n hx hb dX12_good_5 rfl (lv_at hl 0 rfl) ?_
  refine lv_iconst (v := (-1)) hx hb dX12_good_6 (by decide) ?_
  refine va_put (D := (dC, dI)) (ci := 11) (v := .int (-1)) (C := RX12) (T := TX12) (N := 69) hx hb hts hinX12 tyX12 tyX12_ok nmX12 hown hK hP hD hS 0 (mat_11 rfl) rfl 2 (by decide) (hts (.fieldLink RX12 9 "BondCalendarsModel" "wrongAt" "I") (by decide +kernel)) (fun _ h9 => h9) rfl (ty := .int) (by decide +kernel) rfl rfl (Nat.le_of_ble_eq_true rfl) dX12_good_7 (fun H locs hP hD hS => ?_)
  obtain ⟨σ2, eσ2, hP, hD⟩ := gPut (mse_11_2 rfl) hP hD
  have hIσ2 : InvM σ2 := by rw [eσ2]; exact minv_I hIσ1 (mok_11_2 rfl _)
  have frσ2 : mFr [] [1, 2] σ σ2 := by rw [eσ2]; exact mFr.oI frσ1 (by decide)
  refine lv_iload_n hx hb dX12_good_10 rfl (lv_at hl 1 rfl) ?_
  refine W.endD hd0 ?_
  exact W.iret (v := p0) hx hb hr (fun t ht hW => ⟨⟨p0, σ2, rfl, ⟨hIσ2, frσ2, (by unfold f_X12_good; rfl)⟩, ⟨by rw [ht]; exact hP, hD⟩⟩, hS.F ht⟩) hS.2.2 dX12_good_11
set_option maxHeartbeats 8000000 in
set_option maxRecDepth 100000 in
theorem n_X12_refusedF (l : Launch) (dC : Nat → ClassId) (dI : Nat → Nat → Nat) (ad : Nat → Nat) (cA : Nat → ClassId) (adK adV : Nat → Nat) (sz : Nat) (σ : gs) (hI : InvM σ) (p0 : Int32) : MetD lw_cs l yX12_refused wsX12_refused ({ frames := 0, cells := 0, slots := 0, locals := 0 }) (va_Pc [.ref (ad 0), .int p0] (gPre adK adV (dC, dI) (wM ad cA σ) (tM cA) sz)) (va_Qi (fun (r : Int32) (τ : gs) => InvM τ ∧ mFr [] [1, 2] σ τ ∧ (r = (-1))) (fun τ t => gPost (dC, dI) (va_A (wM ad cA σ) sz) (wM ad cA τ) t) (va_A (wM ad cA σ) sz)) 0 0 (va_A (wM ad cA σ) sz) := by
  refine MetD.ofW (cc := cX12_refused) (maxL := 2) (ret := (some .int)) (by decide) rfl ?_
  intro p e s m args below meth c s₁ B hml hv hd0
  obtain ⟨rfl, hsz, hP, hK, hD0, hT⟩ := hv
  have hx := B.exec
  have hb := B.bytes
  have hr := B.returns
  have hts0 := atoms_spec (ws := wsX12_refused) B.pre
  have hK0 := hK
  have hown0 : s.vm.findClass RX12 = some m.cls := findClass_of_methodNamed B.named
  have hlocks := B.notSynchronized
  have hinX12 : ∀ w ∈ u_ws RX12 TX12 69, w ∈ wsX12_refused := (fun _ h9 => List.mem_cons_of_mem _ (List.mem_append_right _ h9))
  subst hsz
  have hD := hD0.self (sz := s.heap.size)
  generalize hAe : va_A (wM ad cA σ) s.heap.size = A at hD hT ⊢
  have hA : ∀ q : Nat, s.heap.size ≤ q → A q := fun q h => by rw [← hAe]; exact Or.inr h
  have hS : va_S A s.heap s.heap [] := va_S.rf
  have hl := lv_entry ([.ref (ad 0), .int p0]) (n := 2) (Nat.le_of_ble_eq_true rfl)
  rw [lg_entry_eq]
  generalize (lg_sl ([.ref (ad 0), .int p0]) ++ List.replicate (2 - (lg_sl ([.ref (ad 0), .int p0])).length) Slot.unset).toArray = ls at hl ⊢
  have hl : lv_has ls 2 [(0, .ref (ad 0)), (1, .int p0)] := hl
  have hts := dr_words hts0 (s.drawn)
  have hK := gKd hK0 (s.drawn)
  have hown : (s.setDrawn (s.drawn)).vm.findClass RX12 = some m.cls := hown0
  refine lv_aload_n hx hb dX12_refused_0 rfl (lv_at hl 0 rfl) ?_
  refine lv_iload_n hx hb dX12_refused_1 rfl (lv_at hl 1 rfl) ?_
  refine va_put (D := (dC, dI)) (ci := 11) (v := .int p0) (C := RX12) (T := TX12) (N := 69) hx hb hts hinX12 tyX12 tyX12_ok nmX12 hown hK hP hD hS 0 (mat_11 rfl) rfl 1 (by decide) (hts (.fieldLink RX12 110 "BondCalendarsModel" "trouble" "I") (by decide +kernel)) (fun _ h9 => h9) rfl (ty := .int) (by decide +kernel) rfl rfl (Nat.le_of_ble_eq_true rfl) dX12_refused_2 (fun H locs hP hD hS => ?_)
  obtain ⟨σ1, eσ1, hP, hD⟩ := gPut (mse_11_1 rfl) hP hD
  have hIσ1 : InvM σ1 := by rw [eσ1]; exact minv_I hI (mok_11_1 rfl _)
  have frσ1 : mFr [] [1, 2] σ σ1 := by rw [eσ1]; exact mFr.oI (mFr.rfl (L := []) (F := [1, 2]) (σ := σ)) (by decide)
  refine lv_aload_n hx hb dX12_refused_5 rfl (lv_at hl 0 rfl) ?_
  refine lv_iconst (v := (-1)) hx hb dX12_refused_6 (by decide) ?_
  refine va_put (D := (dC, dI)) (ci := 11) (v := .int (-1)) (C := RX12) (T := TX12) (N := 69) hx hb hts hinX12 tyX12 tyX12_ok nmX12 hown hK hP hD hS 0 (mat_11 rfl) rfl 2 (by decide) (hts (.fieldLink RX12 9 "BondCalendarsModel" "wrongAt" "I") (by decide +kernel)) (fun _ h9 => h9) rfl (ty := .int) (by decide +kernel) rfl rfl (Nat.le_of_ble_eq_true rfl) dX12_refused_7 (fun H locs hP hD hS => ?_)
  obtain ⟨σ2, eσ2, hP, hD⟩ := gPut (mse_11_2 rfl) hP hD
  have hIσ2 : InvM σ2 := by rw [eσ2]; exact minv_I hIσ1 (mok_11_2 rfl _)
  have frσ2 : mFr [] [1, 2] σ σ2 := by rw [eσ2]; exact mFr.oI frσ1 (by decide)
  refine lv_iconst (v := (-1)) hx hb dX12_refused_10 (by decide) ?_
  refine W.endD hd0 ?_
  exact W.iret (v := (-1)) hx hb hr (fun t ht hW => ⟨⟨(-1), σ2, rfl, ⟨hIσ2, frσ2, rfl⟩, ⟨by rw [ht]; exact hP, hD⟩⟩, hS.F ht⟩) hS.2.2 dX12_refused_11
set_option maxHeartbeats 8000000 in
set_option maxRecDepth 100000 in
theorem n_X11_refuseF (l : Launch) (dC : Nat → ClassId) (dI : Nat → Nat → Nat) (ad : Nat → Nat) (cA : Nat → ClassId) (adK adV : Nat → Nat) (sz : Nat) (σ : gs) (hI : InvX σ) (p0 : Int32) : MetD lw_cs l yX11_refuse wsX11_refuse ({ frames := 0, cells := 0, slots := 0, locals := 0 }) (va_Pc [.ref (ad 0), .int p0] (gPre adK adV (dC, dI) (wX ad cA σ) (tX cA) sz)) (va_Qi (fun (r : Int32) (τ : gs) => InvX τ ∧ gFr [10] σ τ ∧ (r = (-1))) (fun τ t => gPost (dC, dI) (va_A (wX ad cA σ) sz) (wX ad cA τ) t) (va_A (wX ad cA σ) sz)) 0 0 (va_A (wX ad cA σ) sz) := by
  refine MetD.ofW (cc := cX11_refuse) (maxL := 2) (ret := (some .int)) (by decide) rfl ?_
  intro p e s m args below meth c s₁ B hml hv hd0
  obtain ⟨rfl, hsz, hP, hK, hD0, hT⟩ := hv
  have hx := B.exec
  have hb := B.bytes
  have hr := B.returns
  have hts0 := atoms_spec (ws := wsX11_refuse) B.pre
  have hK0 := hK
  have hown0 : s.vm.findClass RX11 = some m.cls := findClass_of_methodNamed B.named
  have hlocks := B.notSynchronized
  have hinX11 : ∀ w ∈ u_ws RX11 TX11 15, w ∈ wsX11_refuse := (fun _ h9 => List.mem_cons_of_mem _ (List.mem_append_right _ h9))
  subst hsz
  have hD := hD0.self (sz := s.heap.size)
  generalize hAe : va_A (wX ad cA σ) s.heap.size = A at hD hT ⊢
  have hA : ∀ q : Nat, s.heap.size ≤ q → A q := fun q h => by rw [← hAe]; exact Or.inr h
  have hS : va_S A s.heap s.heap [] := va_S.rf
  have hl := lv_entry ([.ref (ad 0), .int p0]) (n := 2) (Nat.le_of_ble_eq_true rfl)
  rw [lg_entry_eq]
  generalize (lg_sl ([.ref (ad 0), .int p0]) ++ List.replicate (2 - (lg_sl ([.ref (ad 0), .int p0])).length) Slot.unset).toArray = ls at hl ⊢
  have hl : lv_has ls 2 [(0, .ref (ad 0)), (1, .int p0)] := hl
  have hts := dr_words hts0 (s.drawn)
  have hK := gKd hK0 (s.drawn)
  have hown : (s.setDrawn (s.drawn)).vm.findClass RX11 = some m.cls := hown0
  refine lv_aload_n hx hb dX11_refuse_0 rfl (lv_at hl 0 rfl) ?_
  refine lv_iload_n hx hb dX11_refuse_1 rfl (lv_at hl 1 rfl) ?_
  refine va_put (D := (dC, dI)) (ci := 10) (v := .int p0) (C := RX11) (T := TX11) (N := 15) hx hb hts hinX11 tyX11 tyX11_ok nmX11 hown hK hP hD hS 0 (at_10 rfl) rfl 12 (by decide) (hts (.fieldLink RX11 74 "BondCalendars" "refusal" "I") (by decide +kernel)) (fun _ h9 => h9) rfl (ty := .int) (by decide +kernel) rfl rfl (Nat.le_of_ble_eq_true rfl) dX11_refuse_2 (fun H locs hP hD hS => ?_)
  obtain ⟨σ1, eσ1, hP, hD⟩ := gPut (se_10_12 rfl) hP hD
  have hIσ1 : InvX σ1 := by rw [eσ1]; exact inv_I hI (ok_10_12 rfl _)
  have frσ1 : gFr [10] σ σ1 := by rw [eσ1]; exact gFr.pI (gFr.rfl (L := [10]) (σ := σ)) rfl (by decide)
  refine lv_iconst (v := (-1)) hx hb dX11_refuse_5 (by decide) ?_
  refine W.endD hd0 ?_
  exact W.iret (v := (-1)) hx hb hr (fun t ht hW => ⟨⟨(-1), σ1, rfl, ⟨hIσ1, frσ1, rfl⟩, ⟨by rw [ht]; exact hP, hD⟩⟩, hS.F ht⟩) hS.2.2 dX11_refuse_6
set_option maxHeartbeats 8000000 in
set_option maxRecDepth 100000 in
theorem n_X11_weekdayF (l : Launch) (dC : Nat → ClassId) (dI : Nat → Nat → Nat) (ad : Nat → Nat) (cA : Nat → ClassId) (adK adV : Nat → Nat) (sz : Nat) (σ : gs) (hI : InvX σ) (p0 : Int32) : MetD lw_cs l yX11_weekday wsX11_weekday ({ frames := 2, cells := 0, slots := 0, locals := 44 }) (va_Pc [.ref (ad 0), .int p0] (gPre adK adV (dC, dI) (wX ad cA σ) (tX cA) sz)) (va_Qi (fun (r : Int32) (τ : gs) => InvX τ ∧ gFr [10] σ τ ∧ (r = f_X11_weekday p0)) (fun τ t => gPost (dC, dI) (va_A (wX ad cA σ) sz) (wX ad cA τ) t) (va_A (wX ad cA σ) sz)) 0 0 (va_A (wX ad cA σ) sz) := by
  refine MetD.ofW (cc := cX11_weekday) (maxL := 2) (ret := (some .int)) (by decide) rfl ?_
  intro p e s m args below meth c s₁ B hml hv hd0
  obtain ⟨rfl, hsz, hP, hK, hD0, hT⟩ := hv
  have hx := B.exec
  have hb := B.bytes
  have hr := B.returns
  have hts0 := atoms_spec (ws := wsX11_weekday) B.pre
  have hK0 := hK
  have hown0 : s.vm.findClass RX11 = some m.cls := findClass_of_methodNamed B.named
  have hlocks := B.notSynchronized
  have hinX11 : ∀ w ∈ u_ws RX11 TX11 15, w ∈ wsX11_weekday := (fun _ h9 => List.mem_cons_of_mem _ (List.mem_append_right _ h9))
  subst hsz
  have hD := hD0.self (sz := s.heap.size)
  generalize hAe : va_A (wX ad cA σ) s.heap.size = A at hD hT ⊢
  have hA : ∀ q : Nat, s.heap.size ≤ q → A q := fun q h => by rw [← hAe]; exact Or.inr h
  have hS : va_S A s.heap s.heap [] := va_S.rf
  have hl := lv_entry ([.ref (ad 0), .int p0]) (n := 2) (Nat.le_of_ble_eq_true rfl)
  rw [lg_entry_eq]
  generalize (lg_sl ([.ref (ad 0), .int p0]) ++ List.replicate (2 - (lg_sl ([.ref (ad 0), .int p0])).length) Slot.unset).toArray = ls at hl ⊢
  have hl : lv_has ls 2 [(0, .ref (ad 0)), (1, .int p0)] := hl
  have hts := dr_words hts0 (s.drawn)
  have hK := gKd hK0 (s.drawn)
  have hown : (s.setDrawn (s.drawn)).vm.findClass RX11 = some m.cls := hown0
  refine lv_iload_n hx hb dX11_weekday_0 rfl (lv_at hl 1 rfl) ?_
  have hF := gFree (w := []) (hx_D0 (A := A)) hS hA
  have hKe := hK.sub (tys' := []) [] rfl
  refine va_calli (va_runS (As := [.int p0]) (rest := []) ⟨hx, hb, hml, hown, hts⟩ (k_X3_isDate l dC dI s.heap.size p0 ) (va_cwS 1 hts gX11_weekday_X3_isDate rfl rfl rfl (by decide +kernel) ⟨Nat.le_of_ble_eq_true rfl, Nat.le_of_ble_eq_true rfl⟩) ⟨fun a U g mk q => by obtain ⟨q0, q1, qP, qK, qD⟩ := q; exact ⟨q0, q1, qP, va_K.moved (u := U) (U := U.calling g mk a) (Vm.Alike.refl U.vm) qK, qD⟩, fun U hU hW => ⟨rfl, by rw [hU], hx_P0, va_K.moved hW.alike hKe, hx_D0⟩⟩ rfl rfl hl.1 rfl (lv_room (Nat.le_of_ble_eq_true rfl)) dX11_weekday_1 ⟨Nat.le_of_ble_eq_true rfl, Nat.le_of_ble_eq_true rfl⟩) hS (fun q _ h => hF q h) hF (fun r_1 u t H locs ht hvm hw hB hz1 hk1 hS => ?_)
  have hP := gKeep hP hk1
  have pu_2 : r_1 = f_X3_isDate p0 := hw
  refine lv_if_ne (tgt := 13) hx hb dX11_weekday_4 (by decide) (fun c_3 => ?_) (fun c_3 => ?_)
  · refine lv_aload_n hx hb dX11_weekday_13 rfl (lv_at hl 0 rfl) ?_
    refine lv_iconst (v := 0) hx hb dX11_weekday_14 (by decide) ?_
    refine va_put (D := (dC, dI)) (ci := 10) (v := .int 0) (C := RX11) (T := TX11) (N := 15) hx hb hts hinX11 tyX11 tyX11_ok nmX11 hown hK hP hD hS 0 (at_10 rfl) rfl 12 (by decide) (hts (.fieldLink RX11 74 "BondCalendars" "refusal" "I") (by decide +kernel)) (fun _ h9 => h9) rfl (ty := .int) (by decide +kernel) rfl rfl (Nat.le_of_ble_eq_true rfl) dX11_weekday_15 (fun H locs hP hD hS => ?_)
    obtain ⟨σ1, eσ1, hP, hD⟩ := gPut (se_10_12 rfl) hP hD
    have hIσ1 : InvX σ1 := by rw [eσ1]; exact inv_I hI (ok_10_12 rfl _)
    have frσ1 : gFr [10] σ σ1 := by rw [eσ1]; exact gFr.pI (gFr.rfl (L := [10]) (σ := σ)) rfl (by decide)
    refine lv_iload_n hx hb dX11_weekday_18 rfl (lv_at hl 1 rfl) ?_
    have hF := gFree (w := []) (hx_D0 (A := A)) hS hA
    have hKe := hK.sub (tys' := []) [] rfl
    refine va_calli (va_runS (As := [.int p0]) (rest := []) ⟨hx, hb, hml, hown, hts⟩ (k_X3_dayOf l dC dI H.size p0 ) (va_cwS 1 hts gX11_weekday_X3_dayOf rfl rfl rfl (by decide +kernel) ⟨Nat.le_of_ble_eq_true rfl, Nat.le_of_ble_eq_true rfl⟩) ⟨fun a U g mk q => by obtain ⟨q0, q1, qP, qK, qD⟩ := q; exact ⟨q0, q1, qP, va_K.moved (u := U) (U := U.calling g mk a) (Vm.Alike.refl U.vm) qK, qD⟩, fun U hU hW => ⟨rfl, by rw [hU], hx_P0, va_K.moved hW.alike hKe, hx_D0⟩⟩ rfl rfl hl.1 rfl (lv_room (Nat.le_of_ble_eq_true rfl)) dX11_weekday_19 ⟨Nat.le_of_ble_eq_true rfl, Nat.le_of_ble_eq_true rfl⟩) hS (fun q _ h => hF q h) hF (fun r_4 u t H locs ht hvm hw hB hz1 hk1 hS => ?_)
    have hP := gKeep hP hk1
    have pu_5 : r_4 = f_X3_dayOf p0 := hw
    have hF := gFree (w := []) (hx_D0 (A := A)) hS hA
    have hKe := hK.sub (tys' := []) [] rfl
    refine va_calli (va_runS (As := [.int r_4]) (rest := []) ⟨hx, hb, hml, hown, hts⟩ (k_X3_weekdayOf l dC dI H.size r_4 ) (va_cwS 1 hts gX11_weekday_X3_weekdayOf rfl rfl rfl (by decide +kernel) ⟨Nat.le_of_ble_eq_true rfl, Nat.le_of_ble_eq_true rfl⟩) ⟨fun a U g mk q => by obtain ⟨q0, q1, qP, qK, qD⟩ := q; exact ⟨q0, q1, qP, va_K.moved (u := U) (U := U.calling g mk a) (Vm.Alike.refl U.vm) qK, qD⟩, fun U hU hW => ⟨rfl, by rw [hU], hx_P0, va_K.moved hW.alike hKe, hx_D0⟩⟩ rfl rfl hl.1 rfl (lv_room (Nat.le_of_ble_eq_true rfl)) dX11_weekday_22 ⟨Nat.le_of_ble_eq_true rfl, Nat.le_of_ble_eq_true rfl⟩) hS (fun q _ h => hF q h) hF (fun r_6 u t H locs ht hvm hw hB hz1 hk1 hS => ?_)
    have hP := gKeep hP hk1
    have pu_7 : r_6 = f_X3_weekdayOf r_4 := hw
    refine W.endD hd0 ?_
    exact W.iret (v := r_6) hx hb hr (fun t ht hW => ⟨⟨r_6, σ1, rfl, ⟨hIσ1, frσ1, (by unfold f_X11_weekday; simp only [← pu_2, ← pu_5, ← pu_7, if_neg c_3]; try rfl)⟩, ⟨by rw [ht]; exact hP, hD⟩⟩, hS.F ht⟩) hS.2.2 dX11_weekday_25
  · refine lv_aload_n hx hb dX11_weekday_7 rfl (lv_at hl 0 rfl) ?_
    refine lv_iconst (v := 2) hx hb dX11_weekday_8 (by decide) ?_
    have hF := gFree hD hS hA
    refine va_calliD hd0 (va_runV_D (As := [.int 2]) (rest := []) ⟨hx, hb, hml, hown, hts⟩ (n_X11_refuseF l dC dI ad cA adK adV H.size σ hI 2) (cwV 1 hts gX11_weekday_X11_refuse rfl rfl rfl (by decide +kernel) ⟨Nat.le_of_ble_eq_true rfl, Nat.le_of_ble_eq_true rfl⟩) ⟨gBlind, va_recv hK hP (ci := 10) (q0 := 0) rfl (at_10 rfl), gStart (As := [.ref (ad 0), .int 2]) hP hD hK0 hT hS hF (s.drawn)⟩ rfl rfl hl.1 rfl (lv_room (Nat.le_of_ble_eq_true rfl)) dX11_weekday_9 ⟨Nat.le_of_ble_eq_true rfl, Nat.le_of_ble_eq_true rfl⟩) hS (fun q _ h => hF q h) hF (fun r_8 σ2 t H locs ht hvm hw hB hz1 hk1 hS d_9 hd0 => ?_)
    have hts := dr_words hts0 (d_9)
    have hK := gKd hK0 (d_9)
    have hown : (s.setDrawn (d_9)).vm.findClass RX11 = some m.cls := hown0
    obtain ⟨hP, hD⟩ := gBack hF ht hB
    obtain ⟨hIσ2, fcσ2, hp_10⟩ := hw
    refine W.endD hd0 ?_
    exact W.iret (v := r_8) hx hb hr (fun t ht hW => ⟨⟨r_8, σ2, rfl, ⟨hIσ2, (gFr.tr (gFr.rfl (L := [10]) (σ := σ)) fcσ2 (by decide)), (by rw [hp_10]; unfold f_X11_weekday; simp only [← pu_2, if_pos c_3]; try rfl)⟩, ⟨by rw [ht]; exact hP, hD⟩⟩, hS.F ht⟩) hS.2.2 dX11_weekday_12
set_option maxHeartbeats 8000000 in
set_option maxRecDepth 100000 in
theorem n_X12_weekdayF (l : Launch) (dC : Nat → ClassId) (dI : Nat → Nat → Nat) (ad : Nat → Nat) (cA : Nat → ClassId) (adK adV : Nat → Nat) (sz : Nat) (σ : gs) (hI : InvM σ) (p0 : Int32) : MetD lw_cs l yX12_weekday wsX12_weekday ({ frames := 3, cells := 0, slots := 0, locals := 63 }) (va_Pc [.ref (ad 0), .int p0] (gPre adK adV (dC, dI) (wM ad cA σ) (tM cA) sz)) (va_Qi (fun (r : Int32) (τ : gs) => InvM τ ∧ mFr [] [0, 1, 2] σ τ ∧ (r = f_X12_weekday p0)) (fun τ t => gPost (dC, dI) (va_A (wM ad cA σ) sz) (wM ad cA τ) t) (va_A (wM ad cA σ) sz)) 0 0 (va_A (wM ad cA σ) sz) := by
  refine MetD.ofW (cc := cX12_weekday) (maxL := 2) (ret := (some .int)) (by decide) rfl ?_
  intro p e s m args below meth c s₁ B hml hv hd0
  obtain ⟨rfl, hsz, hP, hK, hD0, hT⟩ := hv
  have hx := B.exec
  have hb := B.bytes
  have hr := B.returns
  have hts0 := atoms_spec (ws := wsX12_weekday) B.pre
  have hK0 := hK
  have hown0 : s.vm.findClass RX12 = some m.cls := findClass_of_methodNamed B.named
  have hlocks := B.notSynchronized
  have hinX12 : ∀ w ∈ u_ws RX12 TX12 69, w ∈ wsX12_weekday := (fun _ h9 => List.mem_cons_of_mem _ (List.mem_append_right _ h9))
  subst hsz
  have hD := hD0.self (sz := s.heap.size)
  generalize hAe : va_A (wM ad cA σ) s.heap.size = A at hD hT ⊢
  have hA : ∀ q : Nat, s.heap.size ≤ q → A q := fun q h => by rw [← hAe]; exact Or.inr h
  have hS : va_S A s.heap s.heap [] := va_S.rf
  have hl := lv_entry ([.ref (ad 0), .int p0]) (n := 2) (Nat.le_of_ble_eq_true rfl)
  rw [lg_entry_eq]
  generalize (lg_sl ([.ref (ad 0), .int p0]) ++ List.replicate (2 - (lg_sl ([.ref (ad 0), .int p0])).length) Slot.unset).toArray = ls at hl ⊢
  have hl : lv_has ls 2 [(0, .ref (ad 0)), (1, .int p0)] := hl
  have hts := dr_words hts0 (s.drawn)
  have hK := gKd hK0 (s.drawn)
  have hown : (s.setDrawn (s.drawn)).vm.findClass RX12 = some m.cls := hown0
  refine lv_aload_n hx hb dX12_weekday_0 rfl (lv_at hl 0 rfl) ?_
  refine lv_iconst (v := 0) hx hb dX12_weekday_1 (by decide) ?_
  refine va_put (D := (dC, dI)) (ci := 11) (v := .int 0) (C := RX12) (T := TX12) (N := 69) hx hb hts hinX12 tyX12 tyX12_ok nmX12 hown hK hP hD hS 0 (mat_11 rfl) rfl 0 (by decide) (hts (.fieldLink RX12 107 "BondCalendarsModel" "thrown" "I") (by decide +kernel)) (fun _ h9 => h9) rfl (ty := .int) (by decide +kernel) rfl rfl (Nat.le_of_ble_eq_true rfl) dX12_weekday_2 (fun H locs hP hD hS => ?_)
  obtain ⟨σ1, eσ1, hP, hD⟩ := gPut (mse_11_0 rfl) hP hD
  have hIσ1 : InvM σ1 := by rw [eσ1]; exact minv_I hI (mok_11_0 rfl _)
  have frσ1 : mFr [] [0, 1, 2] σ σ1 := by rw [eσ1]; exact mFr.oI (mFr.rfl (L := []) (F := [0, 1, 2]) (σ := σ)) (by decide)
  refine lv_iload_n hx hb dX12_weekday_5 rfl (lv_at hl 1 rfl) ?_
  have hF := gFree (w := []) (hx_D0 (A := A)) hS hA
  have hKe := hK.sub (tys' := []) [] rfl
  refine va_calli (va_runS (As := [.int p0]) (rest := []) ⟨hx, hb, hml, hown, hts⟩ (k_X12_isDate l dC dI H.size p0 ) (va_cwS 1 hts gX12_weekday_X12_isDate rfl rfl rfl (by decide +kernel) ⟨Nat.le_of_ble_eq_true rfl, Nat.le_of_ble_eq_true rfl⟩) ⟨fun a U g mk q => by obtain ⟨q0, q1, qP, qK, qD⟩ := q; exact ⟨q0, q1, qP, va_K.moved (u := U) (U := U.calling g mk a) (Vm.Alike.refl U.vm) qK, qD⟩, fun U hU hW => ⟨rfl, by rw [hU], hx_P0, va_K.moved hW.alike hKe, hx_D0⟩⟩ rfl rfl hl.1 rfl (lv_room (Nat.le_of_ble_eq_true rfl)) dX12_weekday_6 ⟨Nat.le_of_ble_eq_true rfl, Nat.le_of_ble_eq_true rfl⟩) hS (fun q _ h => hF q h) hF (fun r_1 u t H locs ht hvm hw hB hz1 hk1 hS => ?_)
  have hP := gKeep hP hk1
  have pu_2 : r_1 = f_X12_isDate p0 := hw
  have b0_3 : r_1 = 0 ∨ r_1 = 1 := by rw [pu_2]; exact isDate01 _
  refine lv_if_ne (tgt := 18) hx hb dX12_weekday_9 (by decide) (fun c_4 => ?_) (fun c_4 => ?_)
  · refine lv_aload_n hx hb dX12_weekday_18 rfl (lv_at hl 0 rfl) ?_
    refine lv_iload_n hx hb dX12_weekday_19 rfl (lv_at hl 1 rfl) ?_
    have hF := gFree (w := []) (hx_D0 (A := A)) hS hA
    have hKe := hK.sub (tys' := []) [] rfl
    refine va_calli (va_runS (As := [.int p0]) (rest := [.ref (ad 0)]) ⟨hx, hb, hml, hown, hts⟩ (k_X12_dayOf l dC dI H.size p0 ) (va_cwS 1 hts gX12_weekday_X12_dayOf rfl rfl rfl (by decide +kernel) ⟨Nat.le_of_ble_eq_true rfl, Nat.le_of_ble_eq_true rfl⟩) ⟨fun a U g mk q => by obtain ⟨q0, q1, qP, qK, qD⟩ := q; exact ⟨q0, q1, qP, va_K.moved (u := U) (U := U.calling g mk a) (Vm.Alike.refl U.vm) qK, qD⟩, fun U hU hW => ⟨rfl, by rw [hU], hx_P0, va_K.moved hW.alike hKe, hx_D0⟩⟩ rfl rfl hl.1 rfl (lv_room (Nat.le_of_ble_eq_true rfl)) dX12_weekday_20 ⟨Nat.le_of_ble_eq_true rfl, Nat.le_of_ble_eq_true rfl⟩) hS (fun q _ h => hF q h) hF (fun r_5 u t H locs ht hvm hw hB hz1 hk1 hS => ?_)
    have hP := gKeep hP hk1
    have pu_6 : r_5 = f_X12_dayOf p0 := hw
    have hF := gFree (w := []) (hx_D0 (A := A)) hS hA
    have hKe := hK.sub (tys' := []) [] rfl
    refine va_calli (va_runS (As := [.int r_5]) (rest := [.ref (ad 0)]) ⟨hx, hb, hml, hown, hts⟩ (k_X12_weekdayOf l dC dI H.size r_5 ) (va_cwS 1 hts gX12_weekday_X12_weekdayOf rfl rfl rfl (by decide +kernel) ⟨Nat.le_of_ble_eq_true rfl, Nat.le_of_ble_eq_true rfl⟩) ⟨fun a U g mk q => by obtain ⟨q0, q1, qP, qK, qD⟩ := q; exact ⟨q0, q1, qP, va_K.moved (u := U) (U := U.calling g mk a) (Vm.Alike.refl U.vm) qK, qD⟩, fun U hU hW => ⟨rfl, by rw [hU], hx_P0, va_K.moved hW.alike hKe, hx_D0⟩⟩ rfl rfl hl.1 rfl (lv_room (Nat.le_of_ble_eq_true rfl)) dX12_weekday_23 ⟨Nat.le_of_ble_eq_true rfl, Nat.le_of_ble_eq_true rfl⟩) hS (fun q _ h => hF q h) hF (fun r_7 u t H locs ht hvm hw hB hz1 hk1 hS => ?_)
    have hP := gKeep hP hk1
    have pu_8 : r_7 = f_X12_weekdayOf r_5 := hw
    have hF := gFree hD hS hA
    refine va_calliD hd0 (va_runV_D (As := [.int r_7]) (rest := []) ⟨hx, hb, hml, hown, hts⟩ (n_X12_goodF l dC dI ad cA adK adV H.size σ1 hIσ1 r_7) (cwV 1 hts gX12_weekday_X12_good rfl rfl rfl (by decide +kernel) ⟨Nat.le_of_ble_eq_true rfl, Nat.le_of_ble_eq_true rfl⟩) ⟨gBlind, va_recv hK hP (ci := 11) (q0 := 0) rfl (mat_11 rfl), gStart (As := [.ref (ad 0), .int r_7]) hP hD hK0 hT hS hF (s.drawn)⟩ rfl rfl hl.1 rfl (lv_room (Nat.le_of_ble_eq_true rfl)) dX12_weekday_26 ⟨Nat.le_of_ble_eq_true rfl, Nat.le_of_ble_eq_true rfl⟩) hS (fun q _ h => hF q h) hF (fun r_9 σ2 t H locs ht hvm hw hB hz1 hk1 hS d_10 hd0 => ?_)
    have hts := dr_words hts0 (d_10)
    have hK := gKd hK0 (d_10)
    have hown : (s.setDrawn (d_10)).vm.findClass RX12 = some m.cls := hown0
    obtain ⟨hP, hD⟩ := gBack hF ht hB
    obtain ⟨hIσ2, fcσ2, hp_11⟩ := hw
    refine W.endD hd0 ?_
    exact W.iret (v := r_9) hx hb hr (fun t ht hW => ⟨⟨r_9, σ2, rfl, ⟨hIσ2, (mFr.tr frσ1 fcσ2 (by decide) (by decide)), (by rw [hp_11]; unfold f_X12_weekday; simp only [← pu_2, ← pu_6, ← pu_8, if_neg c_4]; try rfl)⟩, ⟨by rw [ht]; exact hP, hD⟩⟩, hS.F ht⟩) hS.2.2 dX12_weekday_29
  · refine lv_aload_n hx hb dX12_weekday_12 rfl (lv_at hl 0 rfl) ?_
    refine lv_iconst (v := 2) hx hb dX12_weekday_13 (by decide) ?_
    have hF := gFree hD hS hA
    refine va_calliD hd0 (va_runV_D (As := [.int 2]) (rest := []) ⟨hx, hb, hml, hown, hts⟩ (n_X12_refusedF l dC dI ad cA adK adV H.size σ1 hIσ1 2) (cwV 1 hts gX12_weekday_X12_refused rfl rfl rfl (by decide +kernel) ⟨Nat.le_of_ble_eq_true rfl, Nat.le_of_ble_eq_true rfl⟩) ⟨gBlind, va_recv hK hP (ci := 11) (q0 := 0) rfl (mat_11 rfl), gStart (As := [.ref (ad 0), .int 2]) hP hD hK0 hT hS hF (s.drawn)⟩ rfl rfl hl.1 rfl (lv_room (Nat.le_of_ble_eq_true rfl)) dX12_weekday_14 ⟨Nat.le_of_ble_eq_true rfl, Nat.le_of_ble_eq_true rfl⟩) hS (fun q _ h => hF q h) hF (fun r_12 σ3 t H locs ht hvm hw hB hz1 hk1 hS d_13 hd0 => ?_)
    have hts := dr_words hts0 (d_13)
    have hK := gKd hK0 (d_13)
    have hown : (s.setDrawn (d_13)).vm.findClass RX12 = some m.cls := hown0
    obtain ⟨hP, hD⟩ := gBack hF ht hB
    obtain ⟨hIσ3, fcσ3, hp_14⟩ := hw
    refine W.endD hd0 ?_
    exact W.iret (v := r_12) hx hb hr (fun t ht hW => ⟨⟨r_12, σ3, rfl, ⟨hIσ3, (mFr.tr frσ1 fcσ3 (by decide) (by decide)), (by rw [hp_14]; unfold f_X12_weekday; simp only [← pu_2, if_pos c_4]; try rfl)⟩, ⟨by rw [ht]; exact hP, hD⟩⟩, hS.F ht⟩) hS.2.2 dX12_weekday_17
