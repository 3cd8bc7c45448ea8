set_option maxHeartbeats 8000000 in
set_option maxRecDepth 100000 in
theorem n_X12_brackets (l : Launch) (dC : Nat → ClassId) (dI : Nat → Nat → Nat) (ad : Nat → Nat) (cA : Nat → ClassId) (adK adV : Nat → Nat) (sz : Nat) (σ : gs) (hI : InvM σ) (p0 : Int32) : MetD lw_cs l yX12_brackets wsX12_brackets ({ frames := 1, cells := 0, slots := 0, locals := 30 }) (va_Pc [.ref (ad 0), .int p0] (gPre adK adV (dC, dI) (wM ad cA σ) (tM cA) sz)) (va_Qi (fun (r : Int32) (τ : gs) => InvM τ ∧ mFr [] [] σ τ ∧ (r = 0 ∨ r = 1)) (fun τ t => gPost (dC, dI) (va_A (wM ad cA σ) sz) (wM ad cA τ) t) (va_A (wM ad cA σ) sz)) 0 0 (va_A (wM ad cA σ) sz) := by
  refine MetD.ofW (cc := cX12_brackets) (maxL := 2) (ret := (some .boolean)) (by decide) rfl ?_
  intro p e s m args below meth c s₁ B hml hv hd0
  obtain ⟨rfl, hsz, hP, hK, hD0, hT⟩ := hv
  have hx := B.exec
  have hb := B.bytes
  have hr := B.returns
  have hts0 := atoms_spec (ws := wsX12_brackets) B.pre
  have hK0 := hK
  have hown0 : s.vm.findClass RX12 = some m.cls := findClass_of_methodNamed B.named
  have hlocks := B.notSynchronized
  have hinX12 : ∀ w ∈ u_ws RX12 TX12 69, w ∈ wsX12_brackets := (fun _ h9 => List.mem_cons_of_mem _ (List.mem_append_right _ h9))
  subst hsz
  have hD := hD0.self (sz := s.heap.size)
  generalize hAe : va_A (wM ad cA σ) s.heap.size = A at hD hT ⊢
  have hA : ∀ q : Nat, s.heap.size ≤ q → A q := fun q h => by rw [← hAe]; exact Or.inr h
  have hS : va_S A s.heap s.heap [] := va_S.rf
  have hl := lv_entry ([.ref (ad 0), .int p0]) (n := 2) (Nat.le_of_ble_eq_true rfl)
  rw [lg_entry_eq]
  generalize (lg_sl ([.ref (ad 0), .int p0]) ++ List.replicate (2 - (lg_sl ([.ref (ad 0), .int p0])).length) Slot.unset).toArray = ls at hl ⊢
  have hl : lv_has ls 2 [(0, .ref (ad 0)), (1, .int p0)] := hl
  have hts := dr_words hts0 (s.drawn)
  have hK := gKd hK0 (s.drawn)
  have hown : (s.setDrawn (s.drawn)).vm.findClass RX12 = some m.cls := hown0
  refine lv_aload_n hx hb dX12_brackets_0 rfl (lv_at hl 0 rfl) ?_
  refine lv_iload_n hx hb dX12_brackets_1 rfl (lv_at hl 1 rfl) ?_
  refine lv_i2d hx hb dX12_brackets_2 ?_
  refine lv_topd (fun y_1 _ => ?_)
  refine lv_ldc2d (v := 4636737291354636288) hx hb hown (hts (.constantDouble RX12 503 (4636737291354636288)) (by decide +kernel)) dX12_brackets_3 ?_
  refine lv_ddiv_any hd0 lw_bits hx hb dX12_brackets_6 (fun y_2 d_3 _ hd0 => ?_)
  have hts := dr_words hts0 (d_3)
  have hK := gKd hK0 (d_3)
  have hown : (s.setDrawn (d_3)).vm.findClass RX12 = some m.cls := hown0
  refine lv_aload_n hx hb dX12_brackets_7 rfl (lv_at hl 0 rfl) ?_
  refine va_get (D := (dC, dI)) (ci := 11) (v := .double ((σ 0).2.2.1 51)) (C := RX12) (T := TX12) (N := 69) hx hb hts hinX12 hown hK hP 0 (mat_11 rfl) rfl 51 (by decide) (hts (.fieldLink RX12 500 "BondCalendarsModel" "settleAccrued" "D") (by decide +kernel)) (fun _ h9 => h9) rfl dX12_brackets_8 ?_
  refine lv_dadd_any hd0 lw_bits hx hb dX12_brackets_11 (fun y_4 d_5 _ hd0 => ?_)
  have hts := dr_words hts0 (d_5)
  have hK := gKd hK0 (d_5)
  have hown : (s.setDrawn (d_5)).vm.findClass RX12 = some m.cls := hown0
  refine va_put (D := (dC, dI)) (ci := 11) (v := .double y_4) (C := RX12) (T := TX12) (N := 69) hx hb hts hinX12 tyX12 tyX12_ok nmX12 hown hK hP hD hS 0 (mat_11 rfl) rfl 56 (by decide) (hts (.fieldLink RX12 532 "BondCalendarsModel" "target" "D") (by decide +kernel)) (fun _ h9 => h9) rfl (ty := .double) (by decide +kernel) rfl rfl (Nat.le_of_ble_eq_true rfl) dX12_brackets_12 (fun H locs hP hD hS => ?_)
  obtain ⟨σ1, eσ1, hP, hD⟩ := gPut (mse_11_56 rfl) hP hD
  have hIσ1 : InvM σ1 := by rw [eσ1]; exact minv_D hI
  have frσ1 : mFr [] [] σ σ1 := by rw [eσ1]; exact mFr.oD (mFr.rfl (L := []) (F := []) (σ := σ))
  refine lv_aload_n hx hb dX12_brackets_15 rfl (lv_at hl 0 rfl) ?_
  refine lv_ldc2d (v := 13819745816549104026) hx hb hown (hts (.constantDouble RX12 535 (13819745816549104026)) (by decide +kernel)) dX12_brackets_16 ?_
  refine va_put (D := (dC, dI)) (ci := 11) (v := .double 13819745816549104026) (C := RX12) (T := TX12) (N := 69) hx hb hts hinX12 tyX12 tyX12_ok nmX12 hown hK hP hD hS 0 (mat_11 rfl) rfl 52 (by decide) (hts (.fieldLink RX12 537 "BondCalendarsModel" "low" "D") (by decide +kernel)) (fun _ h9 => h9) rfl (ty := .double) (by decide +kernel) rfl rfl (Nat.le_of_ble_eq_true rfl) dX12_brackets_19 (fun H locs hP hD hS => ?_)
  obtain ⟨σ2, eσ2, hP, hD⟩ := gPut (mse_11_52 rfl) hP hD
  have hIσ2 : InvM σ2 := by rw [eσ2]; exact minv_D hIσ1
  have frσ2 : mFr [] [] σ σ2 := by rw [eσ2]; exact mFr.oD frσ1
  refine lv_aload_n hx hb dX12_brackets_22 rfl (lv_at hl 0 rfl) ?_
  refine lv_dconst1 hx hb dX12_brackets_23 ?_
  refine va_put (D := (dC, dI)) (ci := 11) (v := .double 4607182418800017408) (C := RX12) (T := TX12) (N := 69) hx hb hts hinX12 tyX12 tyX12_ok nmX12 hown hK hP hD hS 0 (mat_11 rfl) rfl 53 (by decide) (hts (.fieldLink RX12 540 "BondCalendarsModel" "high" "D") (by decide +kernel)) (fun _ h9 => h9) rfl (ty := .double) (by decide +kernel) rfl rfl (Nat.le_of_ble_eq_true rfl) dX12_brackets_24 (fun H locs hP hD hS => ?_)
  obtain ⟨σ3, eσ3, hP, hD⟩ := gPut (mse_11_53 rfl) hP hD
  have hIσ3 : InvM σ3 := by rw [eσ3]; exact minv_D hIσ2
  have frσ3 : mFr [] [] σ σ3 := by rw [eσ3]; exact mFr.oD frσ2
  refine lv_aload_n hx hb dX12_brackets_27 rfl (lv_at hl 0 rfl) ?_
  refine lv_aload_n hx hb dX12_brackets_28 rfl (lv_at hl 0 rfl) ?_
  refine lv_aload_n hx hb dX12_brackets_29 rfl (lv_at hl 0 rfl) ?_
  refine va_get (D := (dC, dI)) (ci := 11) (v := .double ((σ3 0).2.2.1 52)) (C := RX12) (T := TX12) (N := 69) hx hb hts hinX12 hown hK hP 0 (mat_11 rfl) rfl 52 (by decide) (hts (.fieldLink RX12 537 "BondCalendarsModel" "low" "D") (by decide +kernel)) (fun _ h9 => h9) rfl dX12_brackets_30 ?_
  have hF := gFree hD hS hA
  refine va_calldD hd0 (va_runV_D (As := [.double ((σ3 0).2.2.1 52)]) (rest := [.ref (ad 0)]) ⟨hx, hb, hml, hown, hts⟩ (n_X12_dirtyAt l dC dI ad cA adK adV H.size σ3 hIσ3 ((σ3 0).2.2.1 52)) (cwV 1 hts gX12_brackets_X12_dirtyAt rfl rfl rfl (by decide +kernel) ⟨Nat.le_of_ble_eq_true rfl, Nat.le_of_ble_eq_true rfl⟩) ⟨gBlind, va_recv hK hP (ci := 11) (q0 := 0) rfl (mat_11 rfl), gStart (As := [.ref (ad 0), .double ((σ3 0).2.2.1 52)]) hP hD hK0 hT hS hF (d_5)⟩ rfl rfl hl.1 rfl (lv_room (Nat.le_of_ble_eq_true rfl)) dX12_brackets_33 ⟨Nat.le_of_ble_eq_true rfl, Nat.le_of_ble_eq_true rfl⟩) hS (fun q _ h => hF q h) hF (fun r_6 σ4 t H locs ht hvm hw hB hz1 hk1 hS d_7 hd0 => ?_)
  have hts := dr_words hts0 (d_7)
  have hK := gKd hK0 (d_7)
  have hown : (s.setDrawn (d_7)).vm.findClass RX12 = some m.cls := hown0
  obtain ⟨hP, hD⟩ := gBack hF ht hB
  obtain ⟨hIσ4, hro, hp_8⟩ := hw
  subst hro
  refine va_put (D := (dC, dI)) (ci := 11) (v := .double r_6) (C := RX12) (T := TX12) (N := 69) hx hb hts hinX12 tyX12 tyX12_ok nmX12 hown hK hP hD hS 0 (mat_11 rfl) rfl 54 (by decide) (hts (.fieldLink RX12 543 "BondCalendarsModel" "lowDirty" "D") (by decide +kernel)) (fun _ h9 => h9) rfl (ty := .double) (by decide +kernel) rfl rfl (Nat.le_of_ble_eq_true rfl) dX12_brackets_36 (fun H locs hP hD hS => ?_)
  obtain ⟨σ5, eσ5, hP, hD⟩ := gPut (mse_11_54 rfl) hP hD
  have hIσ5 : InvM σ5 := by rw [eσ5]; exact minv_D hIσ3
  have frσ5 : mFr [] [] σ σ5 := by rw [eσ5]; exact mFr.oD frσ3
  refine lv_aload_n hx hb dX12_brackets_39 rfl (lv_at hl 0 rfl) ?_
  refine lv_aload_n hx hb dX12_brackets_40 rfl (lv_at hl 0 rfl) ?_
  refine lv_aload_n hx hb dX12_brackets_41 rfl (lv_at hl 0 rfl) ?_
  refine va_get (D := (dC, dI)) (ci := 11) (v := .double ((σ5 0).2.2.1 53)) (C := RX12) (T := TX12) (N := 69) hx hb hts hinX12 hown hK hP 0 (mat_11 rfl) rfl 53 (by decide) (hts (.fieldLink RX12 540 "BondCalendarsModel" "high" "D") (by decide +kernel)) (fun _ h9 => h9) rfl dX12_brackets_42 ?_
  have hF := gFree hD hS hA
  refine va_calldD hd0 (va_runV_D (As := [.double ((σ5 0).2.2.1 53)]) (rest := [.ref (ad 0)]) ⟨hx, hb, hml, hown, hts⟩ (n_X12_dirtyAt l dC dI ad cA adK adV H.size σ5 hIσ5 ((σ5 0).2.2.1 53)) (cwV 1 hts gX12_brackets_X12_dirtyAt rfl rfl rfl (by decide +kernel) ⟨Nat.le_of_ble_eq_true rfl, Nat.le_of_ble_eq_true rfl⟩) ⟨gBlind, va_recv hK hP (ci := 11) (q0 := 0) rfl (mat_11 rfl), gStart (As := [.ref (ad 0), .double ((σ5 0).2.2.1 53)]) hP hD hK0 hT hS hF (d_7)⟩ rfl rfl hl.1 rfl (lv_room (Nat.le_of_ble_eq_true rfl)) dX12_brackets_45 ⟨Nat.le_of_ble_eq_true rfl, Nat.le_of_ble_eq_true rfl⟩) hS (fun q _ h => hF q h) hF (fun r_9 σ6 t H locs ht hvm hw hB hz1 hk1 hS d_10 hd0 => ?_)
  have hts := dr_words hts0 (d_10)
  have hK := gKd hK0 (d_10)
  have hown : (s.setDrawn (d_10)).vm.findClass RX12 = some m.cls := hown0
  obtain ⟨hP, hD⟩ := gBack hF ht hB
  obtain ⟨hIσ6, hro, hp_11⟩ := hw
  subst hro
  refine va_put (D := (dC, dI)) (ci := 11) (v := .double r_9) (C := RX12) (T := TX12) (N := 69) hx hb hts hinX12 tyX12 tyX12_ok nmX12 hown hK hP hD hS 0 (mat_11 rfl) rfl 55 (by decide) (hts (.fieldLink RX12 546 "BondCalendarsModel" "highDirty" "D") (by decide +kernel)) (fun _ h9 => h9) rfl (ty := .double) (by decide +kernel) rfl rfl (Nat.le_of_ble_eq_true rfl) dX12_brackets_48 (fun H locs hP hD hS => ?_)
  obtain ⟨σ7, eσ7, hP, hD⟩ := gPut (mse_11_55 rfl) hP hD
  have hIσ7 : InvM σ7 := by rw [eσ7]; exact minv_D hIσ5
  have frσ7 : mFr [] [] σ σ7 := by rw [eσ7]; exact mFr.oD frσ5
  refine lv_aload_n hx hb dX12_brackets_51 rfl (lv_at hl 0 rfl) ?_
  refine va_get (D := (dC, dI)) (ci := 11) (v := .double ((σ7 0).2.2.1 54)) (C := RX12) (T := TX12) (N := 69) hx hb hts hinX12 hown hK hP 0 (mat_11 rfl) rfl 54 (by decide) (hts (.fieldLink RX12 543 "BondCalendarsModel" "lowDirty" "D") (by decide +kernel)) (fun _ h9 => h9) rfl dX12_brackets_52 ?_
  refine lv_aload_n hx hb dX12_brackets_55 rfl (lv_at hl 0 rfl) ?_
  refine va_get (D := (dC, dI)) (ci := 11) (v := .double ((σ7 0).2.2.1 56)) (C := RX12) (T := TX12) (N := 69) hx hb hts hinX12 hown hK hP 0 (mat_11 rfl) rfl 56 (by decide) (hts (.fieldLink RX12 532 "BondCalendarsModel" "target" "D") (by decide +kernel)) (fun _ h9 => h9) rfl dX12_brackets_56 ?_
  refine lv_dcmp hx hb dX12_brackets_59 ?_
  refine lv_topi (fun x_12 _ => ?_)
  refine lv_if_lt (tgt := 79) hx hb dX12_brackets_60 (by decide) (fun c_13 => ?_) (fun c_13 => ?_)
  · refine lv_iconst (v := 0) hx hb dX12_brackets_79 (by decide) ?_
    refine W.endD hd0 ?_
    exact W.zret (v := 0) hx hb hr (by decide) (fun t ht hW => ⟨⟨0, σ7, rfl, ⟨hIσ7, frσ7, Or.inl rfl⟩, ⟨by rw [ht]; exact hP, hD⟩⟩, hS.F ht⟩) hS.2.2 dX12_brackets_80
  · refine lv_aload_n hx hb dX12_brackets_63 rfl (lv_at hl 0 rfl) ?_
    refine va_get (D := (dC, dI)) (ci := 11) (v := .double ((σ7 0).2.2.1 55)) (C := RX12) (T := TX12) (N := 69) hx hb hts hinX12 hown hK hP 0 (mat_11 rfl) rfl 55 (by decide) (hts (.fieldLink RX12 546 "BondCalendarsModel" "highDirty" "D") (by decide +kernel)) (fun _ h9 => h9) rfl dX12_brackets_64 ?_
    refine lv_aload_n hx hb dX12_brackets_67 rfl (lv_at hl 0 rfl) ?_
    refine va_get (D := (dC, dI)) (ci := 11) (v := .double ((σ7 0).2.2.1 56)) (C := RX12) (T := TX12) (N := 69) hx hb hts hinX12 hown hK hP 0 (mat_11 rfl) rfl 56 (by decide) (hts (.fieldLink RX12 532 "BondCalendarsModel" "target" "D") (by decide +kernel)) (fun _ h9 => h9) rfl dX12_brackets_68 ?_
    refine lv_dcmp hx hb dX12_brackets_71 ?_
    refine lv_topi (fun x_14 _ => ?_)
    refine lv_if_gt (tgt := 79) hx hb dX12_brackets_72 (by decide) (fun c_15 => ?_) (fun c_15 => ?_)
    · refine lv_iconst (v := 0) hx hb dX12_brackets_79 (by decide) ?_
      refine W.endD hd0 ?_
      exact W.zret (v := 0) hx hb hr (by decide) (fun t ht hW => ⟨⟨0, σ7, rfl, ⟨hIσ7, frσ7, Or.inl rfl⟩, ⟨by rw [ht]; exact hP, hD⟩⟩, hS.F ht⟩) hS.2.2 dX12_brackets_80
    · refine lv_iconst (v := 1) hx hb dX12_brackets_75 (by decide) ?_
      refine lv_goto (tgt := 80) hx hb dX12_brackets_76 (by decide) ?_
      refine W.endD hd0 ?_
      exact W.zret (v := 1) hx hb hr (by decide) (fun t ht hW => ⟨⟨1, σ7, rfl, ⟨hIσ7, frσ7, Or.inr rfl⟩, ⟨by rw [ht]; exact hP, hD⟩⟩, hS.F ht⟩) hS.2.2 dX12_brackets_80
set_option maxHeartbeats 8000000 in
set_option maxRecDepth 100000 in
theorem n_X12_between (l : Launch) (dC : Nat → ClassId) (dI : Nat → Nat → Nat) (ad : Nat → Nat) (cA : Nat → ClassId) (adK adV : Nat → Nat) (sz : Nat) (σ : gs) (hI : InvM σ) (p0 : Int32) : MetD lw_cs l yX12_between wsX12_between ({ frames := 0, cells := 0, slots := 0, locals := 0 }) (va_Pc [.ref (ad 0), .int p0] (gPre adK adV (dC, dI) (wM ad cA σ) (tM cA) sz)) (va_Qd (fun (r : UInt64) (τ : gs) => InvM τ ∧ σ = τ ∧ (True)) (fun τ t => gPost (dC, dI) (va_A (wM ad cA σ) sz) (wM ad cA τ) t) (va_A (wM ad cA σ) sz)) 0 0 (va_A (wM ad cA σ) sz) := by
  refine MetD.ofW (cc := cX12_between) (maxL := 4) (ret := (some .double)) (by decide) rfl ?_
  intro p e s m args below meth c s₁ B hml hv hd0
  obtain ⟨rfl, hsz, hP, hK, hD0, hT⟩ := hv
  have hx := B.exec
  have hb := B.bytes
  have hr := B.returns
  have hts0 := atoms_spec (ws := wsX12_between) B.pre
  have hK0 := hK
  have hown0 : s.vm.findClass RX12 = some m.cls := findClass_of_methodNamed B.named
  have hlocks := B.notSynchronized
  have hinX12 : ∀ w ∈ u_ws RX12 TX12 69, w ∈ wsX12_between := (fun _ h9 => List.mem_cons_of_mem _ (List.mem_append_right _ h9))
  subst hsz
  have hD := hD0.self (sz := s.heap.size)
  generalize hAe : va_A (wM ad cA σ) s.heap.size = A at hD hT ⊢
  have hA : ∀ q : Nat, s.heap.size ≤ q → A q := fun q h => by rw [← hAe]; exact Or.inr h
  have hS : va_S A s.heap s.heap [] := va_S.rf
  have hl := lv_entry ([.ref (ad 0), .int p0]) (n := 4) (Nat.le_of_ble_eq_true rfl)
  rw [lg_entry_eq]
  generalize (lg_sl ([.ref (ad 0), .int p0]) ++ List.replicate (4 - (lg_sl ([.ref (ad 0), .int p0])).length) Slot.unset).toArray = ls at hl ⊢
  have hl : lv_has ls 4 [(0, .ref (ad 0)), (1, .int p0)] := hl
  have hts := dr_words hts0 (s.drawn)
  have hK := gKd hK0 (s.drawn)
  have hown : (s.setDrawn (s.drawn)).vm.findClass RX12 = some m.cls := hown0
  refine lv_iload_n hx hb dX12_between_0 rfl (lv_at hl 1 rfl) ?_
  refine lv_iconst (v := 2) hx hb dX12_between_1 (by decide) ?_
  refine lv_irem hx hb dX12_between_2 (by decide) ?_
  refine lv_topi (fun x_1 ex_1 => ?_)
  refine lv_iconst (v := 1) hx hb dX12_between_3 (by decide) ?_
  refine lv_icmp_ne (tgt := 74) hx hb dX12_between_4 (by decide) (fun c_2 => ?_) (fun c_2 => ?_)
  · refine lv_aload_n hx hb dX12_between_74 rfl (lv_at hl 0 rfl) ?_
    refine va_get (D := (dC, dI)) (ci := 11) (v := .double ((σ 0).2.2.1 52)) (C := RX12) (T := TX12) (N := 69) hx hb hts hinX12 hown hK hP 0 (mat_11 rfl) rfl 52 (by decide) (hts (.fieldLink RX12 537 "BondCalendarsModel" "low" "D") (by decide +kernel)) (fun _ h9 => h9) rfl dX12_between_75 ?_
    refine lv_aload_n hx hb dX12_between_78 rfl (lv_at hl 0 rfl) ?_
    refine va_get (D := (dC, dI)) (ci := 11) (v := .double ((σ 0).2.2.1 53)) (C := RX12) (T := TX12) (N := 69) hx hb hts hinX12 hown hK hP 0 (mat_11 rfl) rfl 53 (by decide) (hts (.fieldLink RX12 540 "BondCalendarsModel" "high" "D") (by decide +kernel)) (fun _ h9 => h9) rfl dX12_between_79 ?_
    refine lv_dadd_any hd0 lw_bits hx hb dX12_between_82 (fun y_3 d_4 _ hd0 => ?_)
    have hts := dr_words hts0 (d_4)
    have hK := gKd hK0 (d_4)
    have hown : (s.setDrawn (d_4)).vm.findClass RX12 = some m.cls := hown0
    refine lv_ldc2d (v := 4611686018427387904) hx hb hown (hts (.constantDouble RX12 530 (4611686018427387904)) (by decide +kernel)) dX12_between_83 ?_
    refine lv_ddiv_any hd0 lw_bits hx hb dX12_between_86 (fun y_5 d_6 _ hd0 => ?_)
    have hts := dr_words hts0 (d_6)
    have hK := gKd hK0 (d_6)
    have hown : (s.setDrawn (d_6)).vm.findClass RX12 = some m.cls := hown0
    refine W.endD hd0 ?_
    exact W.dret (v := y_5) hx hb hr (fun t ht hW => ⟨⟨y_5, σ, rfl, ⟨hI, rfl, trivial⟩, ⟨by rw [ht]; exact hP, hD⟩⟩, hS.F ht⟩) hS.2.2 dX12_between_87
  · refine lv_aload_n hx hb dX12_between_7 rfl (lv_at hl 0 rfl) ?_
    refine va_get (D := (dC, dI)) (ci := 11) (v := .double ((σ 0).2.2.1 54)) (C := RX12) (T := TX12) (N := 69) hx hb hts hinX12 hown hK hP 0 (mat_11 rfl) rfl 54 (by decide) (hts (.fieldLink RX12 543 "BondCalendarsModel" "lowDirty" "D") (by decide +kernel)) (fun _ h9 => h9) rfl dX12_between_8 ?_
    refine lv_aload_n hx hb dX12_between_11 rfl (lv_at hl 0 rfl) ?_
    refine va_get (D := (dC, dI)) (ci := 11) (v := .double ((σ 0).2.2.1 55)) (C := RX12) (T := TX12) (N := 69) hx hb hts hinX12 hown hK hP 0 (mat_11 rfl) rfl 55 (by decide) (hts (.fieldLink RX12 546 "BondCalendarsModel" "highDirty" "D") (by decide +kernel)) (fun _ h9 => h9) rfl dX12_between_12 ?_
    refine lv_dcmp hx hb dX12_between_15 ?_
    refine lv_topi (fun x_7 _ => ?_)
    refine lv_if_le (tgt := 74) hx hb dX12_between_16 (by decide) (fun c_8 => ?_) (fun c_8 => ?_)
    · refine lv_aload_n hx hb dX12_between_74 rfl (lv_at hl 0 rfl) ?_
      refine va_get (D := (dC, dI)) (ci := 11) (v := .double ((σ 0).2.2.1 52)) (C := RX12) (T := TX12) (N := 69) hx hb hts hinX12 hown hK hP 0 (mat_11 rfl) rfl 52 (by decide) (hts (.fieldLink RX12 537 "BondCalendarsModel" "low" "D") (by decide +kernel)) (fun _ h9 => h9) rfl dX12_between_75 ?_
      refine lv_aload_n hx hb dX12_between_78 rfl (lv_at hl 0 rfl) ?_
      refine va_get (D := (dC, dI)) (ci := 11) (v := .double ((σ 0).2.2.1 53)) (C := RX12) (T := TX12) (N := 69) hx hb hts hinX12 hown hK hP 0 (mat_11 rfl) rfl 53 (by decide) (hts (.fieldLink RX12 540 "BondCalendarsModel" "high" "D") (by decide +kernel)) (fun _ h9 => h9) rfl dX12_between_79 ?_
      refine lv_dadd_any hd0 lw_bits hx hb dX12_between_82 (fun y_9 d_10 _ hd0 => ?_)
      have hts := dr_words hts0 (d_10)
      have hK := gKd hK0 (d_10)
      have hown : (s.setDrawn (d_10)).vm.findClass RX12 = some m.cls := hown0
      refine lv_ldc2d (v := 4611686018427387904) hx hb hown (hts (.constantDouble RX12 530 (4611686018427387904)) (by decide +kernel)) dX12_between_83 ?_
      refine lv_ddiv_any hd0 lw_bits hx hb dX12_between_86 (fun y_11 d_12 _ hd0 => ?_)
      have hts := dr_words hts0 (d_12)
      have hK := gKd hK0 (d_12)
      have hown : (s.setDrawn (d_12)).vm.findClass RX12 = some m.cls := hown0
      refine W.endD hd0 ?_
      exact W.dret (v := y_11) hx hb hr (fun t ht hW => ⟨⟨y_11, σ, rfl, ⟨hI, rfl, trivial⟩, ⟨by rw [ht]; exact hP, hD⟩⟩, hS.F ht⟩) hS.2.2 dX12_between_87
    · refine lv_aload_n hx hb dX12_between_19 rfl (lv_at hl 0 rfl) ?_
      refine va_get (D := (dC, dI)) (ci := 11) (v := .double ((σ 0).2.2.1 52)) (C := RX12) (T := TX12) (N := 69) hx hb hts hinX12 hown hK hP 0 (mat_11 rfl) rfl 52 (by decide) (hts (.fieldLink RX12 537 "BondCalendarsModel" "low" "D") (by decide +kernel)) (fun _ h9 => h9) rfl dX12_between_20 ?_
      refine lv_aload_n hx hb dX12_between_23 rfl (lv_at hl 0 rfl) ?_
      refine va_get (D := (dC, dI)) (ci := 11) (v := .double ((σ 0).2.2.1 53)) (C := RX12) (T := TX12) (N := 69) hx hb hts hinX12 hown hK hP 0 (mat_11 rfl) rfl 53 (by decide) (hts (.fieldLink RX12 540 "BondCalendarsModel" "high" "D") (by decide +kernel)) (fun _ h9 => h9) rfl dX12_between_24 ?_
      refine lv_aload_n hx hb dX12_between_27 rfl (lv_at hl 0 rfl) ?_
      refine va_get (D := (dC, dI)) (ci := 11) (v := .double ((σ 0).2.2.1 52)) (C := RX12) (T := TX12) (N := 69) hx hb hts hinX12 hown hK hP 0 (mat_11 rfl) rfl 52 (by decide) (hts (.fieldLink RX12 537 "BondCalendarsModel" "low" "D") (by decide +kernel)) (fun _ h9 => h9) rfl dX12_between_28 ?_
      refine lv_dsub_any hd0 lw_bits hx hb dX12_between_31 (fun y_13 d_14 _ hd0 => ?_)
      have hts := dr_words hts0 (d_14)
      have hK := gKd hK0 (d_14)
      have hown : (s.setDrawn (d_14)).vm.findClass RX12 = some m.cls := hown0
      refine lv_aload_n hx hb dX12_between_32 rfl (lv_at hl 0 rfl) ?_
      refine va_get (D := (dC, dI)) (ci := 11) (v := .double ((σ 0).2.2.1 54)) (C := RX12) (T := TX12) (N := 69) hx hb hts hinX12 hown hK hP 0 (mat_11 rfl) rfl 54 (by decide) (hts (.fieldLink RX12 543 "BondCalendarsModel" "lowDirty" "D") (by decide +kernel)) (fun _ h9 => h9) rfl dX12_between_33 ?_
      refine lv_aload_n hx hb dX12_between_36 rfl (lv_at hl 0 rfl) ?_
      refine va_get (D := (dC, dI)) (ci := 11) (v := .double ((σ 0).2.2.1 56)) (C := RX12) (T := TX12) (N := 69) hx hb hts hinX12 hown hK hP 0 (mat_11 rfl) rfl 56 (by decide) (hts (.fieldLink RX12 532 "BondCalendarsModel" "target" "D") (by decide +kernel)) (fun _ h9 => h9) rfl dX12_between_37 ?_
      refine lv_dsub_any hd0 lw_bits hx hb dX12_between_40 (fun y_15 d_16 _ hd0 => ?_)
      have hts := dr_words hts0 (d_16)
      have hK := gKd hK0 (d_16)
      have hown : (s.setDrawn (d_16)).vm.findClass RX12 = some m.cls := hown0
      refine lv_aload_n hx hb dX12_between_41 rfl (lv_at hl 0 rfl) ?_
      refine va_get (D := (dC, dI)) (ci := 11) (v := .double ((σ 0).2.2.1 54)) (C := RX12) (T := TX12) (N := 69) hx hb hts hinX12 hown hK hP 0 (mat_11 rfl) rfl 54 (by decide) (hts (.fieldLink RX12 543 "BondCalendarsModel" "lowDirty" "D") (by decide +kernel)) (fun _ h9 => h9) rfl dX12_between_42 ?_
      refine lv_aload_n hx hb dX12_between_45 rfl (lv_at hl 0 rfl) ?_
      refine va_get (D := (dC, dI)) (ci := 11) (v := .double ((σ 0).2.2.1 55)) (C := RX12) (T := TX12) (N := 69) hx hb hts hinX12 hown hK hP 0 (mat_11 rfl) rfl 55 (by decide) (hts (.fieldLink RX12 546 "BondCalendarsModel" "highDirty" "D") (by decide +kernel)) (fun _ h9 => h9) rfl dX12_between_46 ?_
      refine lv_dsub_any hd0 lw_bits hx hb dX12_between_49 (fun y_17 d_18 _ hd0 => ?_)
      have hts := dr_words hts0 (d_18)
      have hK := gKd hK0 (d_18)
      have hown : (s.setDrawn (d_18)).vm.findClass RX12 = some m.cls := hown0
      refine lv_ddiv_any hd0 lw_bits hx hb dX12_between_50 (fun y_19 d_20 _ hd0 => ?_)
      have hts := dr_words hts0 (d_20)
      have hK := gKd hK0 (d_20)
      have hown : (s.setDrawn (d_20)).vm.findClass RX12 = some m.cls := hown0
      refine lv_dmul_any hd0 lw_bits hx hb dX12_between_51 (fun y_21 d_22 _ hd0 => ?_)
      have hts := dr_words hts0 (d_22)
      have hK := gKd hK0 (d_22)
      have hown : (s.setDrawn (d_22)).vm.findClass RX12 = some m.cls := hown0
      refine lv_dadd_any hd0 lw_bits hx hb dX12_between_52 (fun y_23 d_24 _ hd0 => ?_)
      have hts := dr_words hts0 (d_24)
      have hK := gKd hK0 (d_24)
      have hown : (s.setDrawn (d_24)).vm.findClass RX12 = some m.cls := hown0
      refine lv_dstore_n (lv' := [(2, .double y_23), (0, .ref (ad 0)), (1, .int p0)]) hx hb dX12_between_53 rfl hl (by decide) rfl (fun ls hl => ?_)
      refine lv_dload_n hx hb dX12_between_54 rfl (lv_at hl 0 rfl) ?_
      refine lv_aload_n hx hb dX12_between_55 rfl (lv_at hl 1 rfl) ?_
      refine va_get (D := (dC, dI)) (ci := 11) (v := .double ((σ 0).2.2.1 52)) (C := RX12) (T := TX12) (N := 69) hx hb hts hinX12 hown hK hP 0 (mat_11 rfl) rfl 52 (by decide) (hts (.fieldLink RX12 537 "BondCalendarsModel" "low" "D") (by decide +kernel)) (fun _ h9 => h9) rfl dX12_between_56 ?_
      refine lv_dcmp hx hb dX12_between_59 ?_
      refine lv_topi (fun x_25 _ => ?_)
      refine lv_if_le (tgt := 74) hx hb dX12_between_60 (by decide) (fun c_26 => ?_) (fun c_26 => ?_)
      · refine lv_aload_n hx hb dX12_between_74 rfl (lv_at hl 1 rfl) ?_
        refine va_get (D := (dC, dI)) (ci := 11) (v := .double ((σ 0).2.2.1 52)) (C := RX12) (T := TX12) (N := 69) hx hb hts hinX12 hown hK hP 0 (mat_11 rfl) rfl 52 (by decide) (hts (.fieldLink RX12 537 "BondCalendarsModel" "low" "D") (by decide +kernel)) (fun _ h9 => h9) rfl dX12_between_75 ?_
        refine lv_aload_n hx hb dX12_between_78 rfl (lv_at hl 1 rfl) ?_
        refine va_get (D := (dC, dI)) (ci := 11) (v := .double ((σ 0).2.2.1 53)) (C := RX12) (T := TX12) (N := 69) hx hb hts hinX12 hown hK hP 0 (mat_11 rfl) rfl 53 (by decide) (hts (.fieldLink RX12 540 "BondCalendarsModel" "high" "D") (by decide +kernel)) (fun _ h9 => h9) rfl dX12_between_79 ?_
        refine lv_dadd_any hd0 lw_bits hx hb dX12_between_82 (fun y_27 d_28 _ hd0 => ?_)
        have hts := dr_words hts0 (d_28)
        have hK := gKd hK0 (d_28)
        have hown : (s.setDrawn (d_28)).vm.findClass RX12 = some m.cls := hown0
        refine lv_ldc2d (v := 4611686018427387904) hx hb hown (hts (.constantDouble RX12 530 (4611686018427387904)) (by decide +kernel)) dX12_between_83 ?_
        refine lv_ddiv_any hd0 lw_bits hx hb dX12_between_86 (fun y_29 d_30 _ hd0 => ?_)
        have hts := dr_words hts0 (d_30)
        have hK := gKd hK0 (d_30)
        have hown : (s.setDrawn (d_30)).vm.findClass RX12 = some m.cls := hown0
        refine W.endD hd0 ?_
        exact W.dret (v := y_29) hx hb hr (fun t ht hW => ⟨⟨y_29, σ, rfl, ⟨hI, rfl, trivial⟩, ⟨by rw [ht]; exact hP, hD⟩⟩, hS.F ht⟩) hS.2.2 dX12_between_87
      · refine lv_dload_n hx hb dX12_between_63 rfl (lv_at hl 0 rfl) ?_
        refine lv_aload_n hx hb dX12_between_64 rfl (lv_at hl 1 rfl) ?_
        refine va_get (D := (dC, dI)) (ci := 11) (v := .double ((σ 0).2.2.1 53)) (C := RX12) (T := TX12) (N := 69) hx hb hts hinX12 hown hK hP 0 (mat_11 rfl) rfl 53 (by decide) (hts (.fieldLink RX12 540 "BondCalendarsModel" "high" "D") (by decide +kernel)) (fun _ h9 => h9) rfl dX12_between_65 ?_
        refine lv_dcmp hx hb dX12_between_68 ?_
        refine lv_topi (fun x_31 _ => ?_)
        refine lv_if_ge (tgt := 74) hx hb dX12_between_69 (by decide) (fun c_32 => ?_) (fun c_32 => ?_)
        · refine lv_aload_n hx hb dX12_between_74 rfl (lv_at hl 1 rfl) ?_
          refine va_get (D := (dC, dI)) (ci := 11) (v := .double ((σ 0).2.2.1 52)) (C := RX12) (T := TX12) (N := 69) hx hb hts hinX12 hown hK hP 0 (mat_11 rfl) rfl 52 (by decide) (hts (.fieldLink RX12 537 "BondCalendarsModel" "low" "D") (by decide +kernel)) (fun _ h9 => h9) rfl dX12_between_75 ?_
          refine lv_aload_n hx hb dX12_between_78 rfl (lv_at hl 1 rfl) ?_
          refine va_get (D := (dC, dI)) (ci := 11) (v := .double ((σ 0).2.2.1 53)) (C := RX12) (T := TX12) (N := 69) hx hb hts hinX12 hown hK hP 0 (mat_11 rfl) rfl 53 (by decide) (hts (.fieldLink RX12 540 "BondCalendarsModel" "high" "D") (by decide +kernel)) (fun _ h9 => h9) rfl dX12_between_79 ?_
          refine lv_dadd_any hd0 lw_bits hx hb dX12_between_82 (fun y_33 d_34 _ hd0 => ?_)
          have hts := dr_words hts0 (d_34)
          have hK := gKd hK0 (d_34)
          have hown : (s.setDrawn (d_34)).vm.findClass RX12 = some m.cls := hown0
          refine lv_ldc2d (v := 4611686018427387904) hx hb hown (hts (.constantDouble RX12 530 (4611686018427387904)) (by decide +kernel)) dX12_between_83 ?_
          refine lv_ddiv_any hd0 lw_bits hx hb dX12_between_86 (fun y_35 d_36 _ hd0 => ?_)
          have hts := dr_words hts0 (d_36)
          have hK := gKd hK0 (d_36)
          have hown : (s.setDrawn (d_36)).vm.findClass RX12 = some m.cls := hown0
          refine W.endD hd0 ?_
          exact W.dret (v := y_35) hx hb hr (fun t ht hW => ⟨⟨y_35, σ, rfl, ⟨hI, rfl, trivial⟩, ⟨by rw [ht]; exact hP, hD⟩⟩, hS.F ht⟩) hS.2.2 dX12_between_87
        · refine lv_dload_n hx hb dX12_between_72 rfl (lv_at hl 0 rfl) ?_
          refine W.endD hd0 ?_
          exact W.dret (v := y_23) hx hb hr (fun t ht hW => ⟨⟨y_23, σ, rfl, ⟨hI, rfl, trivial⟩, ⟨by rw [ht]; exact hP, hD⟩⟩, hS.F ht⟩) hS.2.2 dX12_between_73
set_option maxHeartbeats 8000000 in
set_option maxRecDepth 100000 in
theorem n_X12_narrow (l : Launch) (dC : Nat → ClassId) (dI : Nat → Nat → Nat) (ad : Nat → Nat) (cA : Nat → ClassId) (adK adV : Nat → Nat) (sz : Nat) (σ : gs) (hI : InvM σ) (p0 : Int32) : MetD lw_cs l yX12_narrow wsX12_narrow ({ frames := 1, cells := 0, slots := 0, locals := 30 }) (va_Pc [.ref (ad 0), .int p0] (gPre adK adV (dC, dI) (wM ad cA σ) (tM cA) sz)) (va_Qv (fun (τ : gs) => InvM τ ∧ mFr [] [] σ τ ∧ (True)) (fun τ t => gPost (dC, dI) (va_A (wM ad cA σ) sz) (wM ad cA τ) t) (va_A (wM ad cA σ) sz)) 0 0 (va_A (wM ad cA σ) sz) := by
  refine MetD.ofW (cc := cX12_narrow) (maxL := 6) (ret := none) (by decide) rfl ?_
  intro p e s m args below meth c s₁ B hml hv hd0
  obtain ⟨rfl, hsz, hP, hK, hD0, hT⟩ := hv
  have hx := B.exec
  have hb := B.bytes
  have hr := B.returns
  have hts0 := atoms_spec (ws := wsX12_narrow) B.pre
  have hK0 := hK
  have hown0 : s.vm.findClass RX12 = some m.cls := findClass_of_methodNamed B.named
  have hlocks := B.notSynchronized
  have hinX12 : ∀ w ∈ u_ws RX12 TX12 69, w ∈ wsX12_narrow := (fun _ h9 => List.mem_cons_of_mem _ (List.mem_append_right _ h9))
  subst hsz
  have hD := hD0.self (sz := s.heap.size)
  generalize hAe : va_A (wM ad cA σ) s.heap.size = A at hD hT ⊢
  have hA : ∀ q : Nat, s.heap.size ≤ q → A q := fun q h => by rw [← hAe]; exact Or.inr h
  have hS : va_S A s.heap s.heap [] := va_S.rf
  have hl := lv_entry ([.ref (ad 0), .int p0]) (n := 6) (Nat.le_of_ble_eq_true rfl)
  rw [lg_entry_eq]
  generalize (lg_sl ([.ref (ad 0), .int p0]) ++ List.replicate (6 - (lg_sl ([.ref (ad 0), .int p0])).length) Slot.unset).toArray = ls at hl ⊢
  have hl : lv_has ls 6 [(0, .ref (ad 0)), (1, .int p0)] := hl
  have hts := dr_words hts0 (s.drawn)
  have hK := gKd hK0 (s.drawn)
  have hown : (s.setDrawn (s.drawn)).vm.findClass RX12 = some m.cls := hown0
  refine lv_aload_n hx hb dX12_narrow_0 rfl (lv_at hl 0 rfl) ?_
  refine lv_iload_n hx hb dX12_narrow_1 rfl (lv_at hl 1 rfl) ?_
  have hF := gFree hD hS hA
  refine va_calldD hd0 (va_runV_D (As := [.int p0]) (rest := []) ⟨hx, hb, hml, hown, hts⟩ (n_X12_between l dC dI ad cA adK adV s.heap.size σ hI p0) (cwV 1 hts gX12_narrow_X12_between rfl rfl rfl (by decide +kernel) ⟨Nat.le_of_ble_eq_true rfl, Nat.le_of_ble_eq_true rfl⟩) ⟨gBlind, va_recv hK hP (ci := 11) (q0 := 0) rfl (mat_11 rfl), gStart (As := [.ref (ad 0), .int p0]) hP hD hK0 hT hS hF (s.drawn)⟩ rfl rfl hl.1 rfl (lv_room (Nat.le_of_ble_eq_true rfl)) dX12_narrow_2 ⟨Nat.le_of_ble_eq_true rfl, Nat.le_of_ble_eq_true rfl⟩) hS (fun q _ h => hF q h) hF (fun r_1 σ1 t H locs ht hvm hw hB hz1 hk1 hS d_2 hd0 => ?_)
  have hts := dr_words hts0 (d_2)
  have hK := gKd hK0 (d_2)
  have hown : (s.setDrawn (d_2)).vm.findClass RX12 = some m.cls := hown0
  obtain ⟨hP, hD⟩ := gBack hF ht hB
  obtain ⟨hIσ1, hro, hp_3⟩ := hw
  subst hro
  refine lv_dstore_n (lv' := [(2, .double r_1), (0, .ref (ad 0)), (1, .int p0)]) hx hb dX12_narrow_5 rfl hl (by decide) rfl (fun ls hl => ?_)
  refine lv_aload_n hx hb dX12_narrow_6 rfl (lv_at hl 1 rfl) ?_
  refine lv_dload_n hx hb dX12_narrow_7 rfl (lv_at hl 0 rfl) ?_
  have hF := gFree hD hS hA
  refine va_calldD hd0 (va_runV_D (As := [.double r_1]) (rest := []) ⟨hx, hb, hml, hown, hts⟩ (n_X12_dirtyAt l dC dI ad cA adK adV H.size σ hI r_1) (cwV 1 hts gX12_narrow_X12_dirtyAt rfl rfl rfl (by decide +kernel) ⟨Nat.le_of_ble_eq_true rfl, Nat.le_of_ble_eq_true rfl⟩) ⟨gBlind, va_recv hK hP (ci := 11) (q0 := 0) rfl (mat_11 rfl), gStart (As := [.ref (ad 0), .double r_1]) hP hD hK0 hT hS hF (d_2)⟩ rfl rfl hl.1 rfl (lv_room (Nat.le_of_ble_eq_true rfl)) dX12_narrow_8 ⟨Nat.le_of_ble_eq_true rfl, Nat.le_of_ble_eq_true rfl⟩) hS (fun q _ h => hF q h) hF (fun r_4 σ2 t H locs ht hvm hw hB hz1 hk1 hS d_5 hd0 => ?_)
  have hts := dr_words hts0 (d_5)
  have hK := gKd hK0 (d_5)
  have hown : (s.setDrawn (d_5)).vm.findClass RX12 = some m.cls := hown0
  obtain ⟨hP, hD⟩ := gBack hF ht hB
  obtain ⟨hIσ2, hro, hp_6⟩ := hw
  subst hro
  refine lv_dstore (lv' := [(4, .double r_4), (2, .double r_1), (0, .ref (ad 0)), (1, .int p0)]) hx hb dX12_narrow_11 hl (by decide) rfl (fun ls hl => ?_)
  refine lv_dload hx hb dX12_narrow_13 (lv_at hl 0 rfl) ?_
  refine lv_aload_n hx hb dX12_narrow_15 rfl (lv_at hl 2 rfl) ?_
  refine va_get (D := (dC, dI)) (ci := 11) (v := .double ((σ 0).2.2.1 56)) (C := RX12) (T := TX12) (N := 69) hx hb hts hinX12 hown hK hP 0 (mat_11 rfl) rfl 56 (by decide) (hts (.fieldLink RX12 532 "BondCalendarsModel" "target" "D") (by decide +kernel)) (fun _ h9 => h9) rfl dX12_narrow_16 ?_
  refine lv_dcmp hx hb dX12_narrow_19 ?_
  refine lv_topi (fun x_7 _ => ?_)
  refine lv_if_lt (tgt := 37) hx hb dX12_narrow_20 (by decide) (fun c_8 => ?_) (fun c_8 => ?_)
  · refine lv_aload_n hx hb dX12_narrow_37 rfl (lv_at hl 2 rfl) ?_
    refine lv_dload_n hx hb dX12_narrow_38 rfl (lv_at hl 1 rfl) ?_
    refine va_put (D := (dC, dI)) (ci := 11) (v := .double r_1) (C := RX12) (T := TX12) (N := 69) hx hb hts hinX12 tyX12 tyX12_ok nmX12 hown hK hP hD hS 0 (mat_11 rfl) rfl 53 (by decide) (hts (.fieldLink RX12 540 "BondCalendarsModel" "high" "D") (by decide +kernel)) (fun _ h9 => h9) rfl (ty := .double) (by decide +kernel) rfl rfl (Nat.le_of_ble_eq_true rfl) dX12_narrow_39 (fun H locs hP hD hS => ?_)
    obtain ⟨σ3, eσ3, hP, hD⟩ := gPut (mse_11_53 rfl) hP hD
    have hIσ3 : InvM σ3 := by rw [eσ3]; exact minv_D hI
    have frσ3 : mFr [] [] σ σ3 := by rw [eσ3]; exact mFr.oD (mFr.rfl (L := []) (F := []) (σ := σ))
    refine lv_aload_n hx hb dX12_narrow_42 rfl (lv_at hl 2 rfl) ?_
    refine lv_dload hx hb dX12_narrow_43 (lv_at hl 0 rfl) ?_
    refine va_put (D := (dC, dI)) (ci := 11) (v := .double r_4) (C := RX12) (T := TX12) (N := 69) hx hb hts hinX12 tyX12 tyX12_ok nmX12 hown hK hP hD hS 0 (mat_11 rfl) rfl 55 (by decide) (hts (.fieldLink RX12 546 "BondCalendarsModel" "highDirty" "D") (by decide +kernel)) (fun _ h9 => h9) rfl (ty := .double) (by decide +kernel) rfl rfl (Nat.le_of_ble_eq_true rfl) dX12_narrow_45 (fun H locs hP hD hS => ?_)
    obtain ⟨σ4, eσ4, hP, hD⟩ := gPut (mse_11_55 rfl) hP hD
    have hIσ4 : InvM σ4 := by rw [eσ4]; exact minv_D hIσ3
    have frσ4 : mFr [] [] σ σ4 := by rw [eσ4]; exact mFr.oD frσ3
    refine W.endD hd0 ?_
    exact W.vret hx hb hr (fun t ht hW => ⟨⟨σ4, rfl, ⟨hIσ4, frσ4, trivial⟩, ⟨by rw [ht]; exact hP, hD⟩⟩, hS.F ht⟩) hS.2.2 dX12_narrow_48
  · refine lv_aload_n hx hb dX12_narrow_23 rfl (lv_at hl 2 rfl) ?_
    refine lv_dload_n hx hb dX12_narrow_24 rfl (lv_at hl 1 rfl) ?_
    refine va_put (D := (dC, dI)) (ci := 11) (v := .double r_1) (C := RX12) (T := TX12) (N := 69) hx hb hts hinX12 tyX12 tyX12_ok nmX12 hown hK hP hD hS 0 (mat_11 rfl) rfl 52 (by decide) (hts (.fieldLink RX12 537 "BondCalendarsModel" "low" "D") (by decide +kernel)) (fun _ h9 => h9) rfl (ty := .double) (by decide +kernel) rfl rfl (Nat.le_of_ble_eq_true rfl) dX12_narrow_25 (fun H locs hP hD hS => ?_)
    obtain ⟨σ5, eσ5, hP, hD⟩ := gPut (mse_11_52 rfl) hP hD
    have hIσ5 : InvM σ5 := by rw [eσ5]; exact minv_D hI
    have frσ5 : mFr [] [] σ σ5 := by rw [eσ5]; exact mFr.oD (mFr.rfl (L := []) (F := []) (σ := σ))
    refine lv_aload_n hx hb dX12_narrow_28 rfl (lv_at hl 2 rfl) ?_
    refine lv_dload hx hb dX12_narrow_29 (lv_at hl 0 rfl) ?_
    refine va_put (D := (dC, dI)) (ci := 11) (v := .double r_4) (C := RX12) (T := TX12) (N := 69) hx hb hts hinX12 tyX12 tyX12_ok nmX12 hown hK hP hD hS 0 (mat_11 rfl) rfl 54 (by decide) (hts (.fieldLink RX12 543 "BondCalendarsModel" "lowDirty" "D") (by decide +kernel)) (fun _ h9 => h9) rfl (ty := .double) (by decide +kernel) rfl rfl (Nat.le_of_ble_eq_true rfl) dX12_narrow_31 (fun H locs hP hD hS => ?_)
    obtain ⟨σ6, eσ6, hP, hD⟩ := gPut (mse_11_54 rfl) hP hD
    have hIσ6 : InvM σ6 := by rw [eσ6]; exact minv_D hIσ5
    have frσ6 : mFr [] [] σ σ6 := by rw [eσ6]; exact mFr.oD frσ5
    refine lv_goto (tgt := 48) hx hb dX12_narrow_34 (by decide) ?_
    refine W.endD hd0 ?_
    exact W.vret hx hb hr (fun t ht hW => ⟨⟨σ6, rfl, ⟨hIσ6, frσ6, trivial⟩, ⟨by rw [ht]; exact hP, hD⟩⟩, hS.F ht⟩) hS.2.2 dX12_narrow_48
set_option maxHeartbeats 8000000 in
set_option maxRecDepth 100000 in
theorem n_X12_bracket (l : Launch) (dC : Nat → ClassId) (dI : Nat → Nat → Nat) (ad : Nat → Nat) (cA : Nat → ClassId) (adK adV : Nat → Nat) (sz : Nat) (σ : gs) (hI : InvM σ) (p0 : Int32) (p1 : Int32) (p2 : Int32) (p3 : Int32) (p4 : Int32) (hh0 : Deep σ) : MetD lw_cs l yX12_bracket wsX12_bracket ({ frames := 7, cells := 0, slots := 0, locals := 181 }) (va_Pc [.ref (ad 0), .int p0, .int p1, .int p2, .int p3, .int p4] (gPre adK adV (dC, dI) (wM ad cA σ) (tM cA) sz)) (va_Ql (fun (r : Int64) (τ : gs) => InvM τ ∧ mFr [] [0, 1, 2, 47, 48, 49] σ τ ∧ (True)) (fun τ t => gPost (dC, dI) (va_A (wM ad cA σ) sz) (wM ad cA τ) t) (va_A (wM ad cA σ) sz)) 0 0 (va_A (wM ad cA σ) sz) := by
  refine MetD.ofW (cc := cX12_bracket) (maxL := 8) (ret := (some .long)) (by decide) rfl ?_
  intro p e s m args below meth c s₁ B hml hv hd0
  obtain ⟨rfl, hsz, hP, hK, hD0, hT⟩ := hv
  have hx := B.exec
  have hb := B.bytes
  have hr := B.returns
  have hts0 := atoms_spec (ws := wsX12_bracket) B.pre
  have hK0 := hK
  have hown0 : s.vm.findClass RX12 = some m.cls := findClass_of_methodNamed B.named
  have hlocks := B.notSynchronized
  have hinX12 : ∀ w ∈ u_ws RX12 TX12 69, w ∈ wsX12_bracket := (fun _ h9 => List.mem_cons_of_mem _ (List.mem_append_right _ h9))
  subst hsz
  have hD := hD0.self (sz := s.heap.size)
  generalize hAe : va_A (wM ad cA σ) s.heap.size = A at hD hT ⊢
  have hA : ∀ q : Nat, s.heap.size ≤ q → A q := fun q h => by rw [← hAe]; exact Or.inr h
  have hS : va_S A s.heap s.heap [] := va_S.rf
  have hl := lv_entry ([.ref (ad 0), .int p0, .int p1, .int p2, .int p3, .int p4]) (n := 8) (Nat.le_of_ble_eq_true rfl)
  rw [lg_entry_eq]
  generalize (lg_sl ([.ref (ad 0), .int p0, .int p1, .int p2, .int p3, .int p4]) ++ List.replicate (8 - (lg_sl ([.ref (ad 0), .int p0, .int p1, .int p2, .int p3, .int p4])).length) Slot.unset).toArray = ls at hl ⊢
  have hl : lv_has ls 8 [(0, .ref (ad 0)), (1, .int p0), (2, .int p1), (3, .int p2), (4, .int p3), (5, .int p4)] := hl
  have hts := dr_words hts0 (s.drawn)
  have hK := gKd hK0 (s.drawn)
  have hown : (s.setDrawn (s.drawn)).vm.findClass RX12 = some m.cls := hown0
  refine lv_aload_n hx hb dX12_bracket_0 rfl (lv_at hl 0 rfl) ?_
  refine lv_iconst (v := 0) hx hb dX12_bracket_1 (by decide) ?_
  refine va_put (D := (dC, dI)) (ci := 11) (v := .int 0) (C := RX12) (T := TX12) (N := 69) hx hb hts hinX12 tyX12 tyX12_ok nmX12 hown hK hP hD hS 0 (mat_11 rfl) rfl 0 (by decide) (hts (.fieldLink RX12 107 "BondCalendarsModel" "thrown" "I") (by decide +kernel)) (fun _ h9 => h9) rfl (ty := .int) (by decide +kernel) rfl rfl (Nat.le_of_ble_eq_true rfl) dX12_bracket_2 (fun H locs hP hD hS => ?_)
  obtain ⟨σ1, eσ1, hP, hD⟩ := gPut (mse_11_0 rfl) hP hD
  have hIσ1 : InvM σ1 := by rw [eσ1]; exact minv_I hI (mok_11_0 rfl _)
  have frσ1 : mFr [] [0, 1, 2, 47, 48, 49] σ σ1 := by rw [eσ1]; exact mFr.oI (mFr.rfl (L := []) (F := [0, 1, 2, 47, 48, 49]) (σ := σ)) (by decide)
  refine lv_aload_n hx hb dX12_bracket_5 rfl (lv_at hl 0 rfl) ?_
  refine lv_iload_n hx hb dX12_bracket_6 rfl (lv_at hl 1 rfl) ?_
  refine lv_iload_n hx hb dX12_bracket_7 rfl (lv_at hl 2 rfl) ?_
  refine lv_iload_n hx hb dX12_bracket_8 rfl (lv_at hl 3 rfl) ?_
  refine lv_iconst (v := 1) hx hb dX12_bracket_9 (by decide) ?_
  refine lv_ldcw (v := 99999) hx hb hown (hts (.constant RX12 348 (99999)) (by decide +kernel)) dX12_bracket_10 ?_
  have hF := gFree (w := []) (hx_D0 (A := A)) hS hA
  have hKe := hK.sub (tys' := []) [] rfl
  refine va_calli (va_runS (As := [.int p2, .int 1, .int 99999]) (rest := [.int p1, .int p0, .ref (ad 0)]) ⟨hx, hb, hml, hown, hts⟩ (k_X12_in l dC dI H.size p2 1 99999 ) (va_cwS 3 hts gX12_bracket_X12_in rfl rfl rfl (by decide +kernel) ⟨Nat.le_of_ble_eq_true rfl, Nat.le_of_ble_eq_true rfl⟩) ⟨fun a U g mk q => by obtain ⟨q0, q1, qP, qK, qD⟩ := q; exact ⟨q0, q1, qP, va_K.moved (u := U) (U := U.calling g mk a) (Vm.Alike.refl U.vm) qK, qD⟩, fun U hU hW => ⟨rfl, by rw [hU], hx_P0, va_K.moved hW.alike hKe, hx_D0⟩⟩ rfl rfl hl.1 rfl (lv_room (Nat.le_of_ble_eq_true rfl)) dX12_bracket_13 ⟨Nat.le_of_ble_eq_true rfl, Nat.le_of_ble_eq_true rfl⟩) hS (fun q _ h => hF q h) hF (fun r_1 u t H locs ht hvm hw hB hz1 hk1 hS => ?_)
  have hP := gKeep hP hk1
  have in_2 : r_1 = f_X12_in p2 1 99999 := hw
  have bin_2 : r_1 = 0 ∨ r_1 = 1 := by rw [in_2]; exact in01 _ _ _
  refine lv_if_eq (tgt := 34) hx hb dX12_bracket_16 (by decide) (fun c_3 => ?_) (fun c_3 => ?_)
  · refine lv_iconst (v := 0) hx hb dX12_bracket_34 (by decide) ?_
    have hF := gFree hD hS hA
    refine va_calliD hd0 (va_runV_D (As := [.int p0, .int p1, .int 0]) (rest := []) ⟨hx, hb, hml, hown, hts⟩ (n_X12_refusesBy l dC dI ad cA adK adV H.size σ1 hIσ1 p0 p1 0) (cwV 3 hts gX12_bracket_X12_refusesBy rfl rfl rfl (by decide +kernel) ⟨Nat.le_of_ble_eq_true rfl, Nat.le_of_ble_eq_true rfl⟩) ⟨gBlind, va_recv hK hP (ci := 11) (q0 := 0) rfl (mat_11 rfl), gStart (As := [.ref (ad 0), .int p0, .int p1, .int 0]) hP hD hK0 hT hS hF (s.drawn)⟩ rfl rfl hl.1 rfl (lv_room (Nat.le_of_ble_eq_true rfl)) dX12_bracket_35 ⟨Nat.le_of_ble_eq_true rfl, Nat.le_of_ble_eq_true rfl⟩) hS (fun q _ h => hF q h) hF (fun r_4 σ2 t H locs ht hvm hw hB hz1 hk1 hS d_5 hd0 => ?_)
    have hts := dr_words hts0 (d_5)
    have hK := gKd hK0 (d_5)
    have hown : (s.setDrawn (d_5)).vm.findClass RX12 = some m.cls := hown0
    obtain ⟨hP, hD⟩ := gBack hF ht hB
    obtain ⟨hIσ2, hro, hp_6⟩ := hw
    subst hro
    have bd_7 := mrd_11_20 (c := 0) hI rfl
    have im_8 : (r_4 : Int32) ≤ (0 : Int32) → (p0 : Int32) < ((σ 0).1 20 : Int32) := fun h9 => lt_ch (Eq.refl _).symm (show ((σ1 0).1 20 : Int32) = ((σ 0).1 20 : Int32) from by rw [eσ1, gI_oth _ _ _ (by decide)]).symm (hp_6.2.1 (le_ch (Eq.refl _) (Eq.refl _) h9))
    have im_9 : (r_4 : Int32) ≤ (0 : Int32) → (p1 : Int32) < ((σ 4).1 p0.toNatClampNeg : Int32) := fun h9 => lt_ch (Eq.refl _).symm (show ((σ1 4).1 p0.toNatClampNeg : Int32) = ((σ 4).1 p0.toNatClampNeg : Int32) from by rw [eσ1, gI_ne _ _ _ (by decide)]).symm (hp_6.2.2 (le_ch (Eq.refl _) (Eq.refl _) h9))
    refine lv_istore (lv' := [(6, .int r_4), (0, .ref (ad 0)), (1, .int p0), (2, .int p1), (3, .int p2), (4, .int p3), (5, .int p4)]) hx hb dX12_bracket_38 hl (by decide) rfl (fun ls hl => ?_)
    refine lv_iload hx hb dX12_bracket_40 (lv_at hl 0 rfl) ?_
    refine lv_if_le (tgt := 55) hx hb dX12_bracket_42 (by decide) (fun c_10 => ?_) (fun c_10 => ?_)
    · refine lv_aload_n hx hb dX12_bracket_55 rfl (lv_at hl 1 rfl) ?_
      refine lv_iload_n hx hb dX12_bracket_56 rfl (lv_at hl 2 rfl) ?_
      refine lv_iload_n hx hb dX12_bracket_57 rfl (lv_at hl 3 rfl) ?_
      have hF := gFree hD hS hA
      refine va_callvD hd0 (va_runV_D (As := [.int p0, .int p1]) (rest := []) ⟨hx, hb, hml, hown, hts⟩ (n_X12_settles l dC dI ad cA adK adV H.size σ1 hIσ1 p0 p1 ((hp_6.1) c_10) (Int32.lt_of_lt_of_le (im_8 c_10) bd_7.2) ((Deep.fr hh0 (by rw [eσ1, gI_ne _ _ _ (by decide)]) (by rw [eσ1, gI_ne _ _ _ (by decide)]) (by rw [eσ1, gI_ne _ _ _ (by decide)]) (by rw [eσ1, gI_ne _ _ _ (by decide)]) (by rw [eσ1, gI_ne _ _ _ (by decide)]) (by rw [eσ1, gI_ne _ _ _ (by decide)]) (by rw [eσ1, gI_ne _ _ _ (by decide)]) (by rw [eσ1, gI_oth _ _ _ (by decide)]) (by rw [eσ1, gI_oth _ _ _ (by decide)]) (by rw [eσ1, gI_oth _ _ _ (by decide)]) (by rw [eσ1, gI_oth _ _ _ (by decide)]) (by rw [eσ1, gI_oth _ _ _ (by decide)]) (by rw [eσ1, gI_oth _ _ _ (by decide)])).1 _ (nc_lt ((hp_6.1) c_10) (lt_ch (Eq.refl _) (show ((σ1 0).1 20 : Int32) = ((σ 0).1 20 : Int32) from by rw [eσ1, gI_oth _ _ _ (by decide)]) (im_8 c_10)))).1 ((Deep.fr hh0 (by rw [eσ1, gI_ne _ _ _ (by decide)]) (by rw [eσ1, gI_ne _ _ _ (by decide)]) (by rw [eσ1, gI_ne _ _ _ (by decide)]) (by rw [eσ1, gI_ne _ _ _ (by decide)]) (by rw [eσ1, gI_ne _ _ _ (by decide)]) (by rw [eσ1, gI_ne _ _ _ (by decide)]) (by rw [eσ1, gI_ne _ _ _ (by decide)]) (by rw [eσ1, gI_oth _ _ _ (by decide)]) (by rw [eσ1, gI_oth _ _ _ (by decide)]) (by rw [eσ1, gI_oth _ _ _ (by decide)]) (by rw [eσ1, gI_oth _ _ _ (by decide)]) (by rw [eσ1, gI_oth _ _ _ (by decide)]) (by rw [eσ1, gI_oth _ _ _ (by decide)])).1 _ (nc_lt ((hp_6.1) c_10) (lt_ch (Eq.refl _) (show ((σ1 0).1 20 : Int32) = ((σ 0).1 20 : Int32) from by rw [eσ1, gI_oth _ _ _ (by decide)]) (im_8 c_10)))).2.1 (lt_ch (Eq.refl _) (show ((σ1 4).1 p0.toNatClampNeg : Int32) = ((σ 4).1 p0.toNatClampNeg : Int32) from by rw [eσ1, gI_ne _ _ _ (by decide)]) (im_9 c_10))) (cwV 2 hts gX12_bracket_X12_settles rfl rfl rfl (by decide +kernel) ⟨Nat.le_of_ble_eq_true rfl, Nat.le_of_ble_eq_true rfl⟩) ⟨gBlind, va_recv hK hP (ci := 11) (q0 := 0) rfl (mat_11 rfl), gStart (As := [.ref (ad 0), .int p0, .int p1]) hP hD hK0 hT hS hF (d_5)⟩ rfl rfl hl.1 rfl (lv_room (Nat.le_of_ble_eq_true rfl)) dX12_bracket_58 ⟨Nat.le_of_ble_eq_true rfl, Nat.le_of_ble_eq_true rfl⟩) hS (fun q _ h => hF q h) hF (fun σ3 t H locs ht hvm hw hB hz1 hk1 hS d_12 hd0 => ?_)
      have hts := dr_words hts0 (d_12)
      have hK := gKd hK0 (d_12)
      have hown : (s.setDrawn (d_12)).vm.findClass RX12 = some m.cls := hown0
      obtain ⟨hP, hD⟩ := gBack hF ht hB
      obtain ⟨hIσ3, fcσ3, hp_13⟩ := hw
      refine lv_aload_n hx hb dX12_bracket_61 rfl (lv_at hl 1 rfl) ?_
      refine lv_iload_n hx hb dX12_bracket_62 rfl (lv_at hl 4 rfl) ?_
      have hF := gFree hD hS hA
      refine va_calliD hd0 (va_runV_D (As := [.int p2]) (rest := []) ⟨hx, hb, hml, hown, hts⟩ (n_X12_brackets l dC dI ad cA adK adV H.size σ3 hIσ3 p2) (cwV 1 hts gX12_bracket_X12_brackets rfl rfl rfl (by decide +kernel) ⟨Nat.le_of_ble_eq_true rfl, Nat.le_of_ble_eq_true rfl⟩) ⟨gBlind, va_recv hK hP (ci := 11) (q0 := 0) rfl (mat_11 rfl), gStart (As := [.ref (ad 0), .int p2]) hP hD hK0 hT hS hF (d_12)⟩ rfl rfl hl.1 rfl (lv_room (Nat.le_of_ble_eq_true rfl)) dX12_bracket_63 ⟨Nat.le_of_ble_eq_true rfl, Nat.le_of_ble_eq_true rfl⟩) hS (fun q _ h => hF q h) hF (fun r_14 σ4 t H locs ht hvm hw hB hz1 hk1 hS d_15 hd0 => ?_)
      have hts := dr_words hts0 (d_15)
      have hK := gKd hK0 (d_15)
      have hown : (s.setDrawn (d_15)).vm.findClass RX12 = some m.cls := hown0
      obtain ⟨hP, hD⟩ := gBack hF ht hB
      obtain ⟨hIσ4, fcσ4, hp_16⟩ := hw
      refine lv_if_ne (tgt := 78) hx hb dX12_bracket_66 (by decide) (fun c_17 => ?_) (fun c_17 => ?_)
      · refine lv_iconst (v := 0) hx hb dX12_bracket_78 (by decide) ?_
        refine lv_istore (lv' := [(7, .int 0), (6, .int r_4), (0, .ref (ad 0)), (1, .int p0), (2, .int p1), (3, .int p2), (4, .int p3), (5, .int p4)]) hx hb dX12_bracket_79 hl (by decide) rfl (fun ls hl => ?_)
        refine (fun (h : ∀ (n : Nat) (i7 : Int32) (σ81x : gs) (d81 : Drawn) (H : Heap) (locs : List Loc) (ls : Array Slot), ((p3 : Int32).toInt - i7.toInt).toNat < n → 0 ≤ i7 → InvM σ81x → mFr [] [0, 1, 2, 47, 48, 49] σ σ81x → s.drawn.sameBut d81 lw_cs → va_P (dC, dI) vwCl (wM ad cA σ81x) H → va_D A (wM ad cA σ81x) → va_S A s.heap H locs → lv_has ls 8 [(7, .int i7), (6, .int r_4), (0, .ref (ad 0)), (1, .int p0), (2, .int p1), (3, .int p2), (4, .int p3), (5, .int p4)] → W p l e _ (s.setDrawn d81) m _ below meth c H locs _ _ _ (F0 m 81 ls [])) => h _ 0 σ4 _ _ _ _ (Nat.lt_succ_self _) (by decide) hIσ4 (mFr.tr (mFr.tr frσ1 fcσ3 (by decide) (by decide)) fcσ4 (by decide) (by decide)) hd0 hP hD hS (lv_sub hl [0, 1, 2, 3, 4, 5, 6, 7] rfl)) ?_
        intro n81
        induction n81 with
        | zero => intro i7 σ81x d81 H locs ls hm; exact absurd hm (Nat.not_lt_zero _)
        | succ n81 ih81 =>
          intro i7 σ81x d81 H locs ls hm81 iv81_0 hIσ81x frσ81x hd0 hP hD hS hl
          have hts := dr_words hts0 (d81)
          have hK := gKd hK0 (d81)
          have hown : (s.setDrawn (d81)).vm.findClass RX12 = some m.cls := hown0
          refine lv_iload hx hb dX12_bracket_81 (lv_at hl 0 rfl) ?_
          refine lv_iload hx hb dX12_bracket_83 (lv_at hl 6 rfl) ?_
          refine lv_icmp_ge (tgt := 100) hx hb dX12_bracket_85 (by decide) (fun c_18 => ?_) (fun c_18 => ?_)
          · refine lv_aload_n hx hb dX12_bracket_100 rfl (lv_at hl 2 rfl) ?_
            refine lv_iload hx hb dX12_bracket_101 (lv_at hl 7 rfl) ?_
            refine lv_if_eq (tgt := 113) hx hb dX12_bracket_103 (by decide) (fun c_19 => ?_) (fun c_19 => ?_)
            · refine lv_aload_n hx hb dX12_bracket_113 rfl (lv_at hl 2 rfl) ?_
              refine va_get (D := (dC, dI)) (ci := 11) (v := .double ((σ81x 0).2.2.1 52)) (C := RX12) (T := TX12) (N := 69) hx hb hts hinX12 hown hK hP 0 (mat_11 rfl) rfl 52 (by decide) (hts (.fieldLink RX12 537 "BondCalendarsModel" "low" "D") (by decide +kernel)) (fun _ h9 => h9) rfl dX12_bracket_114 ?_
              have hF := gFree hD hS hA
              refine va_calllD hd0 (va_runV_D (As := [.double ((σ81x 0).2.2.1 52)]) (rest := []) ⟨hx, hb, hml, hown, hts⟩ (n_X12_goodBits l dC dI ad cA adK adV H.size σ81x hIσ81x ((σ81x 0).2.2.1 52)) (cwV 1 hts gX12_bracket_X12_goodBits rfl rfl rfl (by decide +kernel) ⟨Nat.le_of_ble_eq_true rfl, Nat.le_of_ble_eq_true rfl⟩) ⟨gBlind, va_recv hK hP (ci := 11) (q0 := 0) rfl (mat_11 rfl), gStart (As := [.ref (ad 0), .double ((σ81x 0).2.2.1 52)]) hP hD hK0 hT hS hF (d81)⟩ rfl rfl hl.1 rfl (lv_room (Nat.le_of_ble_eq_true rfl)) dX12_bracket_117 ⟨Nat.le_of_ble_eq_true rfl, Nat.le_of_ble_eq_true rfl⟩) hS (fun q _ h => hF q h) hF (fun r_20 σ5 t H locs ht hvm hw hB hz1 hk1 hS d_21 hd0 => ?_)
              have hts := dr_words hts0 (d_21)
              have hK := gKd hK0 (d_21)
              have hown : (s.setDrawn (d_21)).vm.findClass RX12 = some m.cls := hown0
              obtain ⟨hP, hD⟩ := gBack hF ht hB
              obtain ⟨hIσ5, fcσ5, hp_22⟩ := hw
              refine W.endD hd0 ?_
              exact W.lret (v := r_20) hx hb hr (fun t ht hW => ⟨⟨r_20, σ5, rfl, ⟨hIσ5, (mFr.tr frσ81x fcσ5 (by decide) (by decide)), trivial⟩, ⟨by rw [ht]; exact hP, hD⟩⟩, hS.F ht⟩) hS.2.2 dX12_bracket_120
            · refine lv_aload_n hx hb dX12_bracket_106 rfl (lv_at hl 2 rfl) ?_
              refine va_get (D := (dC, dI)) (ci := 11) (v := .double ((σ81x 0).2.2.1 53)) (C := RX12) (T := TX12) (N := 69) hx hb hts hinX12 hown hK hP 0 (mat_11 rfl) rfl 53 (by decide) (hts (.fieldLink RX12 540 "BondCalendarsModel" "high" "D") (by decide +kernel)) (fun _ h9 => h9) rfl dX12_bracket_107 ?_
              refine lv_goto (tgt := 117) hx hb dX12_bracket_110 (by decide) ?_
              have hF := gFree hD hS hA
              refine va_calllD hd0 (va_runV_D (As := [.double ((σ81x 0).2.2.1 53)]) (rest := []) ⟨hx, hb, hml, hown, hts⟩ (n_X12_goodBits l dC dI ad cA adK adV H.size σ81x hIσ81x ((σ81x 0).2.2.1 53)) (cwV 1 hts gX12_bracket_X12_goodBits rfl rfl rfl (by decide +kernel) ⟨Nat.le_of_ble_eq_true rfl, Nat.le_of_ble_eq_true rfl⟩) ⟨gBlind, va_recv hK hP (ci := 11) (q0 := 0) rfl (mat_11 rfl), gStart (As := [.ref (ad 0), .double ((σ81x 0).2.2.1 53)]) hP hD hK0 hT hS hF (d81)⟩ rfl rfl hl.1 rfl (lv_room (Nat.le_of_ble_eq_true rfl)) dX12_bracket_117 ⟨Nat.le_of_ble_eq_true rfl, Nat.le_of_ble_eq_true rfl⟩) hS (fun q _ h => hF q h) hF (fun r_23 σ6 t H locs ht hvm hw hB hz1 hk1 hS d_24 hd0 => ?_)
              have hts := dr_words hts0 (d_24)
              have hK := gKd hK0 (d_24)
              have hown : (s.setDrawn (d_24)).vm.findClass RX12 = some m.cls := hown0
              obtain ⟨hP, hD⟩ := gBack hF ht hB
              obtain ⟨hIσ6, fcσ6, hp_25⟩ := hw
              refine W.endD hd0 ?_
              exact W.lret (v := r_23) hx hb hr (fun t ht hW => ⟨⟨r_23, σ6, rfl, ⟨hIσ6, (mFr.tr frσ81x fcσ6 (by decide) (by decide)), trivial⟩, ⟨by rw [ht]; exact hP, hD⟩⟩, hS.F ht⟩) hS.2.2 dX12_bracket_120
          · refine lv_aload_n hx hb dX12_bracket_88 rfl (lv_at hl 2 rfl) ?_
            refine lv_iload hx hb dX12_bracket_89 (lv_at hl 0 rfl) ?_
            have hF := gFree hD hS hA
            refine va_callvD hd0 (va_runV_D (As := [.int i7]) (rest := []) ⟨hx, hb, hml, hown, hts⟩ (n_X12_narrow l dC dI ad cA adK adV H.size σ81x hIσ81x i7) (cwV 1 hts gX12_bracket_X12_narrow rfl rfl rfl (by decide +kernel) ⟨Nat.le_of_ble_eq_true rfl, Nat.le_of_ble_eq_true rfl⟩) ⟨gBlind, va_recv hK hP (ci := 11) (q0 := 0) rfl (mat_11 rfl), gStart (As := [.ref (ad 0), .int i7]) hP hD hK0 hT hS hF (d81)⟩ rfl rfl hl.1 rfl (lv_room (Nat.le_of_ble_eq_true rfl)) dX12_bracket_91 ⟨Nat.le_of_ble_eq_true rfl, Nat.le_of_ble_eq_true rfl⟩) hS (fun q _ h => hF q h) hF (fun σ7 t H locs ht hvm hw hB hz1 hk1 hS d_27 hd0 => ?_)
            have hts := dr_words hts0 (d_27)
            have hK := gKd hK0 (d_27)
            have hown : (s.setDrawn (d_27)).vm.findClass RX12 = some m.cls := hown0
            obtain ⟨hP, hD⟩ := gBack hF ht hB
            obtain ⟨hIσ7, fcσ7, hp_28⟩ := hw
            obtain ⟨x_29, ex_29⟩ : ∃ zz : Int32, zz = i7 + 1 := ⟨_, rfl⟩
            refine lv_iinc (v := x_29) (lv' := [(7, .int x_29), (6, .int r_4), (0, .ref (ad 0)), (1, .int p0), (2, .int p1), (3, .int p2), (4, .int p3), (5, .int p4)]) hx hb dX12_bracket_94 hl (k := 0) rfl (by rw [ex_29]; rfl) (by decide) rfl (fun ls hl => ?_)
            refine lv_goto (tgt := 81) hx hb dX12_bracket_97 (by decide) ?_
            exact ih81 x_29 σ7 _ _ _ _ (cnt_m iv81_0 (Int32.not_le.mp c_18) hm81 ex_29) (cnt_0 iv81_0 (Int32.not_le.mp c_18) ex_29) hIσ7 (mFr.tr frσ81x fcσ7 (by decide) (by decide)) hd0 hP hD hS (lv_sub hl [0, 1, 2, 3, 4, 5, 6, 7] rfl)
      · refine lv_aload_n hx hb dX12_bracket_69 rfl (lv_at hl 1 rfl) ?_
        refine lv_iconst (v := 5) hx hb dX12_bracket_70 (by decide) ?_
        refine lv_ldc2 (v := (-9223372036854775808)) hx hb hown (hts (.constantLong RX12 482 (-9223372036854775808)) (by decide +kernel)) dX12_bracket_71 ?_
        have hF := gFree hD hS hA
        refine va_calllD hd0 (va_runV_D (As := [.int 5, .long (-9223372036854775808)]) (rest := []) ⟨hx, hb, hml, hown, hts⟩ (n_X12_refusedLong l dC dI ad cA adK adV H.size σ4 hIσ4 5 (-9223372036854775808)) (cwV 2 hts gX12_bracket_X12_refusedLong rfl rfl rfl (by decide +kernel) ⟨Nat.le_of_ble_eq_true rfl, Nat.le_of_ble_eq_true rfl⟩) ⟨gBlind, va_recv hK hP (ci := 11) (q0 := 0) rfl (mat_11 rfl), gStart (As := [.ref (ad 0), .int 5, .long (-9223372036854775808)]) hP hD hK0 hT hS hF (d_15)⟩ rfl rfl hl.1 rfl (lv_room (Nat.le_of_ble_eq_true rfl)) dX12_bracket_74 ⟨Nat.le_of_ble_eq_true rfl, Nat.le_of_ble_eq_true rfl⟩) hS (fun q _ h => hF q h) hF (fun r_30 σ8 t H locs ht hvm hw hB hz1 hk1 hS d_31 hd0 => ?_)
        have hts := dr_words hts0 (d_31)
        have hK := gKd hK0 (d_31)
        have hown : (s.setDrawn (d_31)).vm.findClass RX12 = some m.cls := hown0
        obtain ⟨hP, hD⟩ := gBack hF ht hB
        obtain ⟨hIσ8, fcσ8, hp_32⟩ := hw
        refine W.endD hd0 ?_
        exact W.lret (v := r_30) hx hb hr (fun t ht hW => ⟨⟨r_30, σ8, rfl, ⟨hIσ8, (mFr.tr (mFr.tr (mFr.tr frσ1 fcσ3 (by decide) (by decide)) fcσ4 (by decide) (by decide)) fcσ8 (by decide) (by decide)), trivial⟩, ⟨by rw [ht]; exact hP, hD⟩⟩, hS.F ht⟩) hS.2.2 dX12_bracket_77
    · refine lv_aload_n hx hb dX12_bracket_45 rfl (lv_at hl 1 rfl) ?_
      refine lv_iload hx hb dX12_bracket_46 (lv_at hl 0 rfl) ?_
      refine lv_ldc2 (v := (-9223372036854775808)) hx hb hown (hts (.constantLong RX12 482 (-9223372036854775808)) (by decide +kernel)) dX12_bracket_48 ?_
      have hF := gFree hD hS hA
      refine va_calllD hd0 (va_runV_D (As := [.int r_4, .long (-9223372036854775808)]) (rest := []) ⟨hx, hb, hml, hown, hts⟩ (n_X12_refusedLong l dC dI ad cA adK adV H.size σ1 hIσ1 r_4 (-9223372036854775808)) (cwV 2 hts gX12_bracket_X12_refusedLong rfl rfl rfl (by decide +kernel) ⟨Nat.le_of_ble_eq_true rfl, Nat.le_of_ble_eq_true rfl⟩) ⟨gBlind, va_recv hK hP (ci := 11) (q0 := 0) rfl (mat_11 rfl), gStart (As := [.ref (ad 0), .int r_4, .long (-9223372036854775808)]) hP hD hK0 hT hS hF (d_5)⟩ rfl rfl hl.1 rfl (lv_room (Nat.le_of_ble_eq_true rfl)) dX12_bracket_51 ⟨Nat.le_of_ble_eq_true rfl, Nat.le_of_ble_eq_true rfl⟩) hS (fun q _ h => hF q h) hF (fun r_33 σ9 t H locs ht hvm hw hB hz1 hk1 hS d_34 hd0 => ?_)
      have hts := dr_words hts0 (d_34)
      have hK := gKd hK0 (d_34)
      have hown : (s.setDrawn (d_34)).vm.findClass RX12 = some m.cls := hown0
      obtain ⟨hP, hD⟩ := gBack hF ht hB
      obtain ⟨hIσ9, fcσ9, hp_35⟩ := hw
      refine W.endD hd0 ?_
      exact W.lret (v := r_33) hx hb hr (fun t ht hW => ⟨⟨r_33, σ9, rfl, ⟨hIσ9, (mFr.tr frσ1 fcσ9 (by decide) (by decide)), trivial⟩, ⟨by rw [ht]; exact hP, hD⟩⟩, hS.F ht⟩) hS.2.2 dX12_bracket_54
  · refine lv_iload hx hb dX12_bracket_19 (lv_at hl 4 rfl) ?_
    refine lv_iconst (v := 0) hx hb dX12_bracket_21 (by decide) ?_
    refine lv_bipush (v := 60) hx hb dX12_bracket_22 (by decide) ?_
    have hF := gFree (w := []) (hx_D0 (A := A)) hS hA
    have hKe := hK.sub (tys' := []) [] rfl
    refine va_calli (va_runS (As := [.int p3, .int 0, .int 60]) (rest := [.int p1, .int p0, .ref (ad 0)]) ⟨hx, hb, hml, hown, hts⟩ (k_X12_in l dC dI H.size p3 0 60 ) (va_cwS 3 hts gX12_bracket_X12_in rfl rfl rfl (by decide +kernel) ⟨Nat.le_of_ble_eq_true rfl, Nat.le_of_ble_eq_true rfl⟩) ⟨fun a U g mk q => by obtain ⟨q0, q1, qP, qK, qD⟩ := q; exact ⟨q0, q1, qP, va_K.moved (u := U) (U := U.calling g mk a) (Vm.Alike.refl U.vm) qK, qD⟩, fun U hU hW => ⟨rfl, by rw [hU], hx_P0, va_K.moved hW.alike hKe, hx_D0⟩⟩ rfl rfl hl.1 rfl (lv_room (Nat.le_of_ble_eq_true rfl)) dX12_bracket_24 ⟨Nat.le_of_ble_eq_true rfl, Nat.le_of_ble_eq_true rfl⟩) hS (fun q _ h => hF q h) hF (fun r_36 u t H locs ht hvm hw hB hz1 hk1 hS => ?_)
    have hP := gKeep hP hk1
    have in_37 : r_36 = f_X12_in p3 0 60 := hw
    have bin_37 : r_36 = 0 ∨ r_36 = 1 := by rw [in_37]; exact in01 _ _ _
    refine lv_if_eq (tgt := 34) hx hb dX12_bracket_27 (by decide) (fun c_38 => ?_) (fun c_38 => ?_)
    · refine lv_iconst (v := 0) hx hb dX12_bracket_34 (by decide) ?_
      have hF := gFree hD hS hA
      refine va_calliD hd0 (va_runV_D (As := [.int p0, .int p1, .int 0]) (rest := []) ⟨hx, hb, hml, hown, hts⟩ (n_X12_refusesBy l dC dI ad cA adK adV H.size σ1 hIσ1 p0 p1 0) (cwV 3 hts gX12_bracket_X12_refusesBy rfl rfl rfl (by decide +kernel) ⟨Nat.le_of_ble_eq_true rfl, Nat.le_of_ble_eq_true rfl⟩) ⟨gBlind, va_recv hK hP (ci := 11) (q0 := 0) rfl (mat_11 rfl), gStart (As := [.ref (ad 0), .int p0, .int p1, .int 0]) hP hD hK0 hT hS hF (s.drawn)⟩ rfl rfl hl.1 rfl (lv_room (Nat.le_of_ble_eq_true rfl)) dX12_bracket_35 ⟨Nat.le_of_ble_eq_true rfl, Nat.le_of_ble_eq_true rfl⟩) hS (fun q _ h => hF q h) hF (fun r_39 σ10 t H locs ht hvm hw hB hz1 hk1 hS d_40 hd0 => ?_)
      have hts := dr_words hts0 (d_40)
      have hK := gKd hK0 (d_40)
      have hown : (s.setDrawn (d_40)).vm.findClass RX12 = some m.cls := hown0
      obtain ⟨hP, hD⟩ := gBack hF ht hB
      obtain ⟨hIσ10, hro, hp_41⟩ := hw
      subst hro
      have bd_42 := mrd_11_20 (c := 0) hI rfl
      have im_43 : (r_39 : Int32) ≤ (0 : Int32) → (p0 : Int32) < ((σ 0).1 20 : Int32) := fun h9 => lt_ch (Eq.refl _).symm (show ((σ1 0).1 20 : Int32) = ((σ 0).1 20 : Int32) from by rw [eσ1, gI_oth _ _ _ (by decide)]).symm (hp_41.2.1 (le_ch (Eq.refl _) (Eq.refl _) h9))
      have im_44 : (r_39 : Int32) ≤ (0 : Int32) → (p1 : Int32) < ((σ 4).1 p0.toNatClampNeg : Int32) := fun h9 => lt_ch (Eq.refl _).symm (show ((σ1 4).1 p0.toNatClampNeg : Int32) = ((σ 4).1 p0.toNatClampNeg : Int32) from by rw [eσ1, gI_ne _ _ _ (by decide)]).symm (hp_41.2.2 (le_ch (Eq.refl _) (Eq.refl _) h9))
      refine lv_istore (lv' := [(6, .int r_39), (0, .ref (ad 0)), (1, .int p0), (2, .int p1), (3, .int p2), (4, .int p3), (5, .int p4)]) hx hb dX12_bracket_38 hl (by decide) rfl (fun ls hl => ?_)
      refine lv_iload hx hb dX12_bracket_40 (lv_at hl 0 rfl) ?_
      refine lv_if_le (tgt := 55) hx hb dX12_bracket_42 (by decide) (fun c_45 => ?_) (fun c_45 => ?_)
      · refine lv_aload_n hx hb dX12_bracket_55 rfl (lv_at hl 1 rfl) ?_
        refine lv_iload_n hx hb dX12_bracket_56 rfl (lv_at hl 2 rfl) ?_
        refine lv_iload_n hx hb dX12_bracket_57 rfl (lv_at hl 3 rfl) ?_
        have hF := gFree hD hS hA
        refine va_callvD hd0 (va_runV_D (As := [.int p0, .int p1]) (rest := []) ⟨hx, hb, hml, hown, hts⟩ (n_X12_settles l dC dI ad cA adK adV H.size σ1 hIσ1 p0 p1 ((hp_41.1) c_45) (Int32.lt_of_lt_of_le (im_43 c_45) bd_42.2) ((Deep.fr hh0 (by rw [eσ1, gI_ne _ _ _ (by decide)]) (by rw [eσ1, gI_ne _ _ _ (by decide)]) (by rw [eσ1, gI_ne _ _ _ (by decide)]) (by rw [eσ1, gI_ne _ _ _ (by decide)]) (by rw [eσ1, gI_ne _ _ _ (by decide)]) (by rw [eσ1, gI_ne _ _ _ (by decide)]) (by rw [eσ1, gI_ne _ _ _ (by decide)]) (by rw [eσ1, gI_oth _ _ _ (by decide)]) (by rw [eσ1, gI_oth _ _ _ (by decide)]) (by rw [eσ1, gI_oth _ _ _ (by decide)]) (by rw [eσ1, gI_oth _ _ _ (by decide)]) (by rw [eσ1, gI_oth _ _ _ (by decide)]) (by rw [eσ1, gI_oth _ _ _ (by decide)])).1 _ (nc_lt ((hp_41.1) c_45) (lt_ch (Eq.refl _) (show ((σ1 0).1 20 : Int32) = ((σ 0).1 20 : Int32) from by rw [eσ1, gI_oth _ _ _ (by decide)]) (im_43 c_45)))).1 ((Deep.fr hh0 (by rw [eσ1, gI_ne _ _ _ (by decide)]) (by rw [eσ1, gI_ne _ _ _ (by decide)]) (by rw [eσ1, gI_ne _ _ _ (by decide)]) (by rw [eσ1, gI_ne _ _ _ (by decide)]) (by rw [eσ1, gI_ne _ _ _ (by decide)]) (by rw [eσ1, gI_ne _ _ _ (by decide)]) (by rw [eσ1, gI_ne _ _ _ (by decide)]) (by rw [eσ1, gI_oth _ _ _ (by decide)]) (by rw [eσ1, gI_oth _ _ _ (by decide)]) (by rw [eσ1, gI_oth _ _ _ (by decide)]) (by rw [eσ1, gI_oth _ _ _ (by decide)]) (by rw [eσ1, gI_oth _ _ _ (by decide)]) (by rw [eσ1, gI_oth _ _ _ (by decide)])).1 _ (nc_lt ((hp_41.1) c_45) (lt_ch (Eq.refl _) (show ((σ1 0).1 20 : Int32) = ((σ 0).1 20 : Int32) from by rw [eσ1, gI_oth _ _ _ (by decide)]) (im_43 c_45)))).2.1 (lt_ch (Eq.refl _) (show ((σ1 4).1 p0.toNatClampNeg : Int32) = ((σ 4).1 p0.toNatClampNeg : Int32) from by rw [eσ1, gI_ne _ _ _ (by decide)]) (im_44 c_45))) (cwV 2 hts gX12_bracket_X12_settles rfl rfl rfl (by decide +kernel) ⟨Nat.le_of_ble_eq_true rfl, Nat.le_of_ble_eq_true rfl⟩) ⟨gBlind, va_recv hK hP (ci := 11) (q0 := 0) rfl (mat_11 rfl), gStart (As := [.ref (ad 0), .int p0, .int p1]) hP hD hK0 hT hS hF (d_40)⟩ rfl rfl hl.1 rfl (lv_room (Nat.le_of_ble_eq_true rfl)) dX12_bracket_58 ⟨Nat.le_of_ble_eq_true rfl, Nat.le_of_ble_eq_true rfl⟩) hS (fun q _ h => hF q h) hF (fun σ11 t H locs ht hvm hw hB hz1 hk1 hS d_47 hd0 => ?_)
        have hts := dr_words hts0 (d_47)
        have hK := gKd hK0 (d_47)
        have hown : (s.setDrawn (d_47)).vm.findClass RX12 = some m.cls := hown0
        obtain ⟨hP, hD⟩ := gBack hF ht hB
        obtain ⟨hIσ11, fcσ11, hp_48⟩ := hw
        refine lv_aload_n hx hb dX12_bracket_61 rfl (lv_at hl 1 rfl) ?_
        refine lv_iload_n hx hb dX12_bracket_62 rfl (lv_at hl 4 rfl) ?_
        have hF := gFree hD hS hA
        refine va_calliD hd0 (va_runV_D (As := [.int p2]) (rest := []) ⟨hx, hb, hml, hown, hts⟩ (n_X12_brackets l dC dI ad cA adK adV H.size σ11 hIσ11 p2) (cwV 1 hts gX12_bracket_X12_brackets rfl rfl rfl (by decide +kernel) ⟨Nat.le_of_ble_eq_true rfl, Nat.le_of_ble_eq_true rfl⟩) ⟨gBlind, va_recv hK hP (ci := 11) (q0 := 0) rfl (mat_11 rfl), gStart (As := [.ref (ad 0), .int p2]) hP hD hK0 hT hS hF (d_47)⟩ rfl rfl hl.1 rfl (lv_room (Nat.le_of_ble_eq_true rfl)) dX12_bracket_63 ⟨Nat.le_of_ble_eq_true rfl, Nat.le_of_ble_eq_true rfl⟩) hS (fun q _ h => hF q h) hF (fun r_49 σ12 t H locs ht hvm hw hB hz1 hk1 hS d_50 hd0 => ?_)
        have hts := dr_words hts0 (d_50)
        have hK := gKd hK0 (d_50)
        have hown : (s.setDrawn (d_50)).vm.findClass RX12 = some m.cls := hown0
        obtain ⟨hP, hD⟩ := gBack hF ht hB
        obtain ⟨hIσ12, fcσ12, hp_51⟩ := hw
        refine lv_if_ne (tgt := 78) hx hb dX12_bracket_66 (by decide) (fun c_52 => ?_) (fun c_52 => ?_)
        · refine lv_iconst (v := 0) hx hb dX12_bracket_78 (by decide) ?_
          refine lv_istore (lv' := [(7, .int 0), (6, .int r_39), (0, .ref (ad 0)), (1, .int p0), (2, .int p1), (3, .int p2), (4, .int p3), (5, .int p4)]) hx hb dX12_bracket_79 hl (by decide) rfl (fun ls hl => ?_)
          refine (fun (h : ∀ (n : Nat) (i7 : Int32) (σ81x : gs) (d81 : Drawn) (H : Heap) (locs : List Loc) (ls : Array Slot), ((p3 : Int32).toInt - i7.toInt).toNat < n → 0 ≤ i7 → InvM σ81x → mFr [] [0, 1, 2, 47, 48, 49] σ σ81x → s.drawn.sameBut d81 lw_cs → va_P (dC, dI) vwCl (wM ad cA σ81x) H → va_D A (wM ad cA σ81x) → va_S A s.heap H locs → lv_has ls 8 [(7, .int i7), (6, .int r_39), (0, .ref (ad 0)), (1, .int p0), (2, .int p1), (3, .int p2), (4, .int p3), (5, .int p4)] → W p l e _ (s.setDrawn d81) m _ below meth c H locs _ _ _ (F0 m 81 ls [])) => h _ 0 σ12 _ _ _ _ (Nat.lt_succ_self _) (by decide) hIσ12 (mFr.tr (mFr.tr frσ1 fcσ11 (by decide) (by decide)) fcσ12 (by decide) (by decide)) hd0 hP hD hS (lv_sub hl [0, 1, 2, 3, 4, 5, 6, 7] rfl)) ?_
          intro n81
          induction n81 with
          | zero => intro i7 σ81x d81 H locs ls hm; exact absurd hm (Nat.not_lt_zero _)
          | succ n81 ih81 =>
            intro i7 σ81x d81 H locs ls hm81 iv81_0 hIσ81x frσ81x hd0 hP hD hS hl
            have hts := dr_words hts0 (d81)
            have hK := gKd hK0 (d81)
            have hown : (s.setDrawn (d81)).vm.findClass RX12 = some m.cls := hown0
            refine lv_iload hx hb dX12_bracket_81 (lv_at hl 0 rfl) ?_
            refine lv_iload hx hb dX12_bracket_83 (lv_at hl 6 rfl) ?_
            refine lv_icmp_ge (tgt := 100) hx hb dX12_bracket_85 (by decide) (fun c_53 => ?_) (fun c_53 => ?_)
            · refine lv_aload_n hx hb dX12_bracket_100 rfl (lv_at hl 2 rfl) ?_
              refine lv_iload hx hb dX12_bracket_101 (lv_at hl 7 rfl) ?_
              refine lv_if_eq (tgt := 113) hx hb dX12_bracket_103 (by decide) (fun c_54 => ?_) (fun c_54 => ?_)
              · refine lv_aload_n hx hb dX12_bracket_113 rfl (lv_at hl 2 rfl) ?_
                refine va_get (D := (dC, dI)) (ci := 11) (v := .double ((σ81x 0).2.2.1 52)) (C := RX12) (T := TX12) (N := 69) hx hb hts hinX12 hown hK hP 0 (mat_11 rfl) rfl 52 (by decide) (hts (.fieldLink RX12 537 "BondCalendarsModel" "low" "D") (by decide +kernel)) (fun _ h9 => h9) rfl dX12_bracket_114 ?_
                have hF := gFree hD hS hA
                refine va_calllD hd0 (va_runV_D (As := [.double ((σ81x 0).2.2.1 52)]) (rest := []) ⟨hx, hb, hml, hown, hts⟩ (n_X12_goodBits l dC dI ad cA adK adV H.size σ81x hIσ81x ((σ81x 0).2.2.1 52)) (cwV 1 hts gX12_bracket_X12_goodBits rfl rfl rfl (by decide +kernel) ⟨Nat.le_of_ble_eq_true rfl, Nat.le_of_ble_eq_true rfl⟩) ⟨gBlind, va_recv hK hP (ci := 11) (q0 := 0) rfl (mat_11 rfl), gStart (As := [.ref (ad 0), .double ((σ81x 0).2.2.1 52)]) hP hD hK0 hT hS hF (d81)⟩ rfl rfl hl.1 rfl (lv_room (Nat.le_of_ble_eq_true rfl)) dX12_bracket_117 ⟨Nat.le_of_ble_eq_true rfl, Nat.le_of_ble_eq_true rfl⟩) hS (fun q _ h => hF q h) hF (fun r_55 σ13 t H locs ht hvm hw hB hz1 hk1 hS d_56 hd0 => ?_)
                have hts := dr_words hts0 (d_56)
                have hK := gKd hK0 (d_56)
                have hown : (s.setDrawn (d_56)).vm.findClass RX12 = some m.cls := hown0
                obtain ⟨hP, hD⟩ := gBack hF ht hB
                obtain ⟨hIσ13, fcσ13, hp_57⟩ := hw
                refine W.endD hd0 ?_
                exact W.lret (v := r_55) hx hb hr (fun t ht hW => ⟨⟨r_55, σ13, rfl, ⟨hIσ13, (mFr.tr frσ81x fcσ13 (by decide) (by decide)), trivial⟩, ⟨by rw [ht]; exact hP, hD⟩⟩, hS.F ht⟩) hS.2.2 dX12_bracket_120
              · refine lv_aload_n hx hb dX12_bracket_106 rfl (lv_at hl 2 rfl) ?_
                refine va_get (D := (dC, dI)) (ci := 11) (v := .double ((σ81x 0).2.2.1 53)) (C := RX12) (T := TX12) (N := 69) hx hb hts hinX12 hown hK hP 0 (mat_11 rfl) rfl 53 (by decide) (hts (.fieldLink RX12 540 "BondCalendarsModel" "high" "D") (by decide +kernel)) (fun _ h9 => h9) rfl dX12_bracket_107 ?_
                refine lv_goto (tgt := 117) hx hb dX12_bracket_110 (by decide) ?_
                have hF := gFree hD hS hA
                refine va_calllD hd0 (va_runV_D (As := [.double ((σ81x 0).2.2.1 53)]) (rest := []) ⟨hx, hb, hml, hown, hts⟩ (n_X12_goodBits l dC dI ad cA adK adV H.size σ81x hIσ81x ((σ81x 0).2.2.1 53)) (cwV 1 hts gX12_bracket_X12_goodBits rfl rfl rfl (by decide +kernel) ⟨Nat.le_of_ble_eq_true rfl, Nat.le_of_ble_eq_true rfl⟩) ⟨gBlind, va_recv hK hP (ci := 11) (q0 := 0) rfl (mat_11 rfl), gStart (As := [.ref (ad 0), .double ((σ81x 0).2.2.1 53)]) hP hD hK0 hT hS hF (d81)⟩ rfl rfl hl.1 rfl (lv_room (Nat.le_of_ble_eq_true rfl)) dX12_bracket_117 ⟨Nat.le_of_ble_eq_true rfl, Nat.le_of_ble_eq_true rfl⟩) hS (fun q _ h => hF q h) hF (fun r_58 σ14 t H locs ht hvm hw hB hz1 hk1 hS d_59 hd0 => ?_)
                have hts := dr_words hts0 (d_59)
                have hK := gKd hK0 (d_59)
                have hown : (s.setDrawn (d_59)).vm.findClass RX12 = some m.cls := hown0
                obtain ⟨hP, hD⟩ := gBack hF ht hB
                obtain ⟨hIσ14, fcσ14, hp_60⟩ := hw
                refine W.endD hd0 ?_
                exact W.lret (v := r_58) hx hb hr (fun t ht hW => ⟨⟨r_58, σ14, rfl, ⟨hIσ14, (mFr.tr frσ81x fcσ14 (by decide) (by decide)), trivial⟩, ⟨by rw [ht]; exact hP, hD⟩⟩, hS.F ht⟩) hS.2.2 dX12_bracket_120
            · refine lv_aload_n hx hb dX12_bracket_88 rfl (lv_at hl 2 rfl) ?_
              refine lv_iload hx hb dX12_bracket_89 (lv_at hl 0 rfl) ?_
              have hF := gFree hD hS hA
              refine va_callvD hd0 (va_runV_D (As := [.int i7]) (rest := []) ⟨hx, hb, hml, hown, hts⟩ (n_X12_narrow l dC dI ad cA adK adV H.size σ81x hIσ81x i7) (cwV 1 hts gX12_bracket_X12_narrow rfl rfl rfl (by decide +kernel) ⟨Nat.le_of_ble_eq_true rfl, Nat.le_of_ble_eq_true rfl⟩) ⟨gBlind, va_recv hK hP (ci := 11) (q0 := 0) rfl (mat_11 rfl), gStart (As := [.ref (ad 0), .int i7]) hP hD hK0 hT hS hF (d81)⟩ rfl rfl hl.1 rfl (lv_room (Nat.le_of_ble_eq_true rfl)) dX12_bracket_91 ⟨Nat.le_of_ble_eq_true rfl, Nat.le_of_ble_eq_true rfl⟩) hS (fun q _ h => hF q h) hF (fun σ15 t H locs ht hvm hw hB hz1 hk1 hS d_62 hd0 => ?_)
              have hts := dr_words hts0 (d_62)
              have hK := gKd hK0 (d_62)
              have hown : (s.setDrawn (d_62)).vm.findClass RX12 = some m.cls := hown0
              obtain ⟨hP, hD⟩ := gBack hF ht hB
              obtain ⟨hIσ15, fcσ15, hp_63⟩ := hw
              obtain ⟨x_64, ex_64⟩ : ∃ zz : Int32, zz = i7 + 1 := ⟨_, rfl⟩
              refine lv_iinc (v := x_64) (lv' := [(7, .int x_64), (6, .int r_39), (0, .ref (ad 0)), (1, .int p0), (2, .int p1), (3, .int p2), (4, .int p3), (5, .int p4)]) hx hb dX12_bracket_94 hl (k := 0) rfl (by rw [ex_64]; rfl) (by decide) rfl (fun ls hl => ?_)
              refine lv_goto (tgt := 81) hx hb dX12_bracket_97 (by decide) ?_
              exact ih81 x_64 σ15 _ _ _ _ (cnt_m iv81_0 (Int32.not_le.mp c_53) hm81 ex_64) (cnt_0 iv81_0 (Int32.not_le.mp c_53) ex_64) hIσ15 (mFr.tr frσ81x fcσ15 (by decide) (by decide)) hd0 hP hD hS (lv_sub hl [0, 1, 2, 3, 4, 5, 6, 7] rfl)
        · refine lv_aload_n hx hb dX12_bracket_69 rfl (lv_at hl 1 rfl) ?_
          refine lv_iconst (v := 5) hx hb dX12_bracket_70 (by decide) ?_
          refine lv_ldc2 (v := (-9223372036854775808)) hx hb hown (hts (.constantLong RX12 482 (-9223372036854775808)) (by decide +kernel)) dX12_bracket_71 ?_
          have hF := gFree hD hS hA
          refine va_calllD hd0 (va_runV_D (As := [.int 5, .long (-9223372036854775808)]) (rest := []) ⟨hx, hb, hml, hown, hts⟩ (n_X12_refusedLong l dC dI ad cA adK adV H.size σ12 hIσ12 5 (-9223372036854775808)) (cwV 2 hts gX12_bracket_X12_refusedLong rfl rfl rfl (by decide +kernel) ⟨Nat.le_of_ble_eq_true rfl, Nat.le_of_ble_eq_true rfl⟩) ⟨gBlind, va_recv hK hP (ci := 11) (q0 := 0) rfl (mat_11 rfl), gStart (As := [.ref (ad 0), .int 5, .long (-9223372036854775808)]) hP hD hK0 hT hS hF (d_50)⟩ rfl rfl hl.1 rfl (lv_room (Nat.le_of_ble_eq_true rfl)) dX12_bracket_74 ⟨Nat.le_of_ble_eq_true rfl, Nat.le_of_ble_eq_true rfl⟩) hS (fun q _ h => hF q h) hF (fun r_65 σ16 t H locs ht hvm hw hB hz1 hk1 hS d_66 hd0 => ?_)
          have hts := dr_words hts0 (d_66)
          have hK := gKd hK0 (d_66)
          have hown : (s.setDrawn (d_66)).vm.findClass RX12 = some m.cls := hown0
          obtain ⟨hP, hD⟩ := gBack hF ht hB
          obtain ⟨hIσ16, fcσ16, hp_67⟩ := hw
          refine W.endD hd0 ?_
          exact W.lret (v := r_65) hx hb hr (fun t ht hW => ⟨⟨r_65, σ16, rfl, ⟨hIσ16, (mFr.tr (mFr.tr (mFr.tr frσ1 fcσ11 (by decide) (by decide)) fcσ12 (by decide) (by decide)) fcσ16 (by decide) (by decide)), trivial⟩, ⟨by rw [ht]; exact hP, hD⟩⟩, hS.F ht⟩) hS.2.2 dX12_bracket_77
      · refine lv_aload_n hx hb dX12_bracket_45 rfl (lv_at hl 1 rfl) ?_
        refine lv_iload hx hb dX12_bracket_46 (lv_at hl 0 rfl) ?_
        refine lv_ldc2 (v := (-9223372036854775808)) hx hb hown (hts (.constantLong RX12 482 (-9223372036854775808)) (by decide +kernel)) dX12_bracket_48 ?_
        have hF := gFree hD hS hA
        refine va_calllD hd0 (va_runV_D (As := [.int r_39, .long (-9223372036854775808)]) (rest := []) ⟨hx, hb, hml, hown, hts⟩ (n_X12_refusedLong l dC dI ad cA adK adV H.size σ1 hIσ1 r_39 (-9223372036854775808)) (cwV 2 hts gX12_bracket_X12_refusedLong rfl rfl rfl (by decide +kernel) ⟨Nat.le_of_ble_eq_true rfl, Nat.le_of_ble_eq_true rfl⟩) ⟨gBlind, va_recv hK hP (ci := 11) (q0 := 0) rfl (mat_11 rfl), gStart (As := [.ref (ad 0), .int r_39, .long (-9223372036854775808)]) hP hD hK0 hT hS hF (d_40)⟩ rfl rfl hl.1 rfl (lv_room (Nat.le_of_ble_eq_true rfl)) dX12_bracket_51 ⟨Nat.le_of_ble_eq_true rfl, Nat.le_of_ble_eq_true rfl⟩) hS (fun q _ h => hF q h) hF (fun r_68 σ17 t H locs ht hvm hw hB hz1 hk1 hS d_69 hd0 => ?_)
        have hts := dr_words hts0 (d_69)
        have hK := gKd hK0 (d_69)
        have hown : (s.setDrawn (d_69)).vm.findClass RX12 = some m.cls := hown0
        obtain ⟨hP, hD⟩ := gBack hF ht hB
        obtain ⟨hIσ17, fcσ17, hp_70⟩ := hw
        refine W.endD hd0 ?_
        exact W.lret (v := r_68) hx hb hr (fun t ht hW => ⟨⟨r_68, σ17, rfl, ⟨hIσ17, (mFr.tr frσ1 fcσ17 (by decide) (by decide)), trivial⟩, ⟨by rw [ht]; exact hP, hD⟩⟩, hS.F ht⟩) hS.2.2 dX12_bracket_54
    · refine lv_iconst (v := 1) hx hb dX12_bracket_30 (by decide) ?_
      refine lv_goto (tgt := 35) hx hb dX12_bracket_31 (by decide) ?_
      have hF := gFree hD hS hA
      refine va_calliD hd0 (va_runV_D (As := [.int p0, .int p1, .int 1]) (rest := []) ⟨hx, hb, hml, hown, hts⟩ (n_X12_refusesBy l dC dI ad cA adK adV H.size σ1 hIσ1 p0 p1 1) (cwV 3 hts gX12_bracket_X12_refusesBy rfl rfl rfl (by decide +kernel) ⟨Nat.le_of_ble_eq_true rfl, Nat.le_of_ble_eq_true rfl⟩) ⟨gBlind, va_recv hK hP (ci := 11) (q0 := 0) rfl (mat_11 rfl), gStart (As := [.ref (ad 0), .int p0, .int p1, .int 1]) hP hD hK0 hT hS hF (s.drawn)⟩ rfl rfl hl.1 rfl (lv_room (Nat.le_of_ble_eq_true rfl)) dX12_bracket_35 ⟨Nat.le_of_ble_eq_true rfl, Nat.le_of_ble_eq_true rfl⟩) hS (fun q _ h => hF q h) hF (fun r_71 σ18 t H locs ht hvm hw hB hz1 hk1 hS d_72 hd0 => ?_)
      have hts := dr_words hts0 (d_72)
      have hK := gKd hK0 (d_72)
      have hown : (s.setDrawn (d_72)).vm.findClass RX12 = some m.cls := hown0
      obtain ⟨hP, hD⟩ := gBack hF ht hB
      obtain ⟨hIσ18, hro, hp_73⟩ := hw
      subst hro
      have bd_74 := mrd_11_20 (c := 0) hI rfl
      have im_75 : (r_71 : Int32) ≤ (0 : Int32) → (p0 : Int32) < ((σ 0).1 20 : Int32) := fun h9 => lt_ch (Eq.refl _).symm (show ((σ1 0).1 20 : Int32) = ((σ 0).1 20 : Int32) from by rw [eσ1, gI_oth _ _ _ (by decide)]).symm (hp_73.2.1 (le_ch (Eq.refl _) (Eq.refl _) h9))
      have im_76 : (r_71 : Int32) ≤ (0 : Int32) → (p1 : Int32) < ((σ 4).1 p0.toNatClampNeg : Int32) := fun h9 => lt_ch (Eq.refl _).symm (show ((σ1 4).1 p0.toNatClampNeg : Int32) = ((σ 4).1 p0.toNatClampNeg : Int32) from by rw [eσ1, gI_ne _ _ _ (by decide)]).symm (hp_73.2.2 (le_ch (Eq.refl _) (Eq.refl _) h9))
      refine lv_istore (lv' := [(6, .int r_71), (0, .ref (ad 0)), (1, .int p0), (2, .int p1), (3, .int p2), (4, .int p3), (5, .int p4)]) hx hb dX12_bracket_38 hl (by decide) rfl (fun ls hl => ?_)
      refine lv_iload hx hb dX12_bracket_40 (lv_at hl 0 rfl) ?_
      refine lv_if_le (tgt := 55) hx hb dX12_bracket_42 (by decide) (fun c_77 => ?_) (fun c_77 => ?_)
      · refine lv_aload_n hx hb dX12_bracket_55 rfl (lv_at hl 1 rfl) ?_
        refine lv_iload_n hx hb dX12_bracket_56 rfl (lv_at hl 2 rfl) ?_
        refine lv_iload_n hx hb dX12_bracket_57 rfl (lv_at hl 3 rfl) ?_
        have hF := gFree hD hS hA
        refine va_callvD hd0 (va_runV_D (As := [.int p0, .int p1]) (rest := []) ⟨hx, hb, hml, hown, hts⟩ (n_X12_settles l dC dI ad cA adK adV H.size σ1 hIσ1 p0 p1 ((hp_73.1) c_77) (Int32.lt_of_lt_of_le (im_75 c_77) bd_74.2) ((Deep.fr hh0 (by rw [eσ1, gI_ne _ _ _ (by decide)]) (by rw [eσ1, gI_ne _ _ _ (by decide)]) (by rw [eσ1, gI_ne _ _ _ (by decide)]) (by rw [eσ1, gI_ne _ _ _ (by decide)]) (by rw [eσ1, gI_ne _ _ _ (by decide)]) (by rw [eσ1, gI_ne _ _ _ (by decide)]) (by rw [eσ1, gI_ne _ _ _ (by decide)]) (by rw [eσ1, gI_oth _ _ _ (by decide)]) (by rw [eσ1, gI_oth _ _ _ (by decide)]) (by rw [eσ1, gI_oth _ _ _ (by decide)]) (by rw [eσ1, gI_oth _ _ _ (by decide)]) (by rw [eσ1, gI_oth _ _ _ (by decide)]) (by rw [eσ1, gI_oth _ _ _ (by decide)])).1 _ (nc_lt ((hp_73.1) c_77) (lt_ch (Eq.refl _) (show ((σ1 0).1 20 : Int32) = ((σ 0).1 20 : Int32) from by rw [eσ1, gI_oth _ _ _ (by decide)]) (im_75 c_77)))).1 ((Deep.fr hh0 (by rw [eσ1, gI_ne _ _ _ (by decide)]) (by rw [eσ1, gI_ne _ _ _ (by decide)]) (by rw [eσ1, gI_ne _ _ _ (by decide)]) (by rw [eσ1, gI_ne _ _ _ (by decide)]) (by rw [eσ1, gI_ne _ _ _ (by decide)]) (by rw [eσ1, gI_ne _ _ _ (by decide)]) (by rw [eσ1, gI_ne _ _ _ (by decide)]) (by rw [eσ1, gI_oth _ _ _ (by decide)]) (by rw [eσ1, gI_oth _ _ _ (by decide)]) (by rw [eσ1, gI_oth _ _ _ (by decide)]) (by rw [eσ1, gI_oth _ _ _ (by decide)]) (by rw [eσ1, gI_oth _ _ _ (by decide)]) (by rw [eσ1, gI_oth _ _ _ (by decide)])).1 _ (nc_lt ((hp_73.1) c_77) (lt_ch (Eq.refl _) (show ((σ1 0).1 20 : Int32) = ((σ 0).1 20 : Int32) from by rw [eσ1, gI_oth _ _ _ (by decide)]) (im_75 c_77)))).2.1 (lt_ch (Eq.refl _) (show ((σ1 4).1 p0.toNatClampNeg : Int32) = ((σ 4).1 p0.toNatClampNeg : Int32) from by rw [eσ1, gI_ne _ _ _ (by decide)]) (im_76 c_77))) (cwV 2 hts gX12_bracket_X12_settles rfl rfl rfl (by decide +kernel) ⟨Nat.le_of_ble_eq_true rfl, Nat.le_of_ble_eq_true rfl⟩) ⟨gBlind, va_recv hK hP (ci := 11) (q0 := 0) rfl (mat_11 rfl), gStart (As := [.ref (ad 0), .int p0, .int p1]) hP hD hK0 hT hS hF (d_72)⟩ rfl rfl hl.1 rfl (lv_room (Nat.le_of_ble_eq_true rfl)) dX12_bracket_58 ⟨Nat.le_of_ble_eq_true rfl, Nat.le_of_ble_eq_true rfl⟩) hS (fun q _ h => hF q h) hF (fun σ19 t H locs ht hvm hw hB hz1 hk1 hS d_79 hd0 => ?_)
        have hts := dr_words hts0 (d_79)
        have hK := gKd hK0 (d_79)
        have hown : (s.setDrawn (d_79)).vm.findClass RX12 = some m.cls := hown0
        obtain ⟨hP, hD⟩ := gBack hF ht hB
        obtain ⟨hIσ19, fcσ19, hp_80⟩ := hw
        refine lv_aload_n hx hb dX12_bracket_61 rfl (lv_at hl 1 rfl) ?_
        refine lv_iload_n hx hb dX12_bracket_62 rfl (lv_at hl 4 rfl) ?_
        have hF := gFree hD hS hA
        refine va_calliD hd0 (va_runV_D (As := [.int p2]) (rest := []) ⟨hx, hb, hml, hown, hts⟩ (n_X12_brackets l dC dI ad cA adK adV H.size σ19 hIσ19 p2) (cwV 1 hts gX12_bracket_X12_brackets rfl rfl rfl (by decide +kernel) ⟨Nat.le_of_ble_eq_true rfl, Nat.le_of_ble_eq_true rfl⟩) ⟨gBlind, va_recv hK hP (ci := 11) (q0 := 0) rfl (mat_11 rfl), gStart (As := [.ref (ad 0), .int p2]) hP hD hK0 hT hS hF (d_79)⟩ rfl rfl hl.1 rfl (lv_room (Nat.le_of_ble_eq_true rfl)) dX12_bracket_63 ⟨Nat.le_of_ble_eq_true rfl, Nat.le_of_ble_eq_true rfl⟩) hS (fun q _ h => hF q h) hF (fun r_81 σ20 t H locs ht hvm hw hB hz1 hk1 hS d_82 hd0 => ?_)
        have hts := dr_words hts0 (d_82)
        have hK := gKd hK0 (d_82)
        have hown : (s.setDrawn (d_82)).vm.findClass RX12 = some m.cls := hown0
        obtain ⟨hP, hD⟩ := gBack hF ht hB
        obtain ⟨hIσ20, fcσ20, hp_83⟩ := hw
        refine lv_if_ne (tgt := 78) hx hb dX12_bracket_66 (by decide) (fun c_84 => ?_) (fun c_84 => ?_)
        · refine lv_iconst (v := 0) hx hb dX12_bracket_78 (by decide) ?_
          refine lv_istore (lv' := [(7, .int 0), (6, .int r_71), (0, .ref (ad 0)), (1, .int p0), (2, .int p1), (3, .int p2), (4, .int p3), (5, .int p4)]) hx hb dX12_bracket_79 hl (by decide) rfl (fun ls hl => ?_)
          refine (fun (h : ∀ (n : Nat) (i7 : Int32) (σ81x : gs) (d81 : Drawn) (H : Heap) (locs : List Loc) (ls : Array Slot), ((p3 : Int32).toInt - i7.toInt).toNat < n → 0 ≤ i7 → InvM σ81x → mFr [] [0, 1, 2, 47, 48, 49] σ σ81x → s.drawn.sameBut d81 lw_cs → va_P (dC, dI) vwCl (wM ad cA σ81x) H → va_D A (wM ad cA σ81x) → va_S A s.heap H locs → lv_has ls 8 [(7, .int i7), (6, .int r_71), (0, .ref (ad 0)), (1, .int p0), (2, .int p1), (3, .int p2), (4, .int p3), (5, .int p4)] → W p l e _ (s.setDrawn d81) m _ below meth c H locs _ _ _ (F0 m 81 ls [])) => h _ 0 σ20 _ _ _ _ (Nat.lt_succ_self _) (by decide) hIσ20 (mFr.tr (mFr.tr frσ1 fcσ19 (by decide) (by decide)) fcσ20 (by decide) (by decide)) hd0 hP hD hS (lv_sub hl [0, 1, 2, 3, 4, 5, 6, 7] rfl)) ?_
          intro n81
          induction n81 with
          | zero => intro i7 σ81x d81 H locs ls hm; exact absurd hm (Nat.not_lt_zero _)
          | succ n81 ih81 =>
            intro i7 σ81x d81 H locs ls hm81 iv81_0 hIσ81x frσ81x hd0 hP hD hS hl
            have hts := dr_words hts0 (d81)
            have hK := gKd hK0 (d81)
            have hown : (s.setDrawn (d81)).vm.findClass RX12 = some m.cls := hown0
            refine lv_iload hx hb dX12_bracket_81 (lv_at hl 0 rfl) ?_
            refine lv_iload hx hb dX12_bracket_83 (lv_at hl 6 rfl) ?_
            refine lv_icmp_ge (tgt := 100) hx hb dX12_bracket_85 (by decide) (fun c_85 => ?_) (fun c_85 => ?_)
            · refine lv_aload_n hx hb dX12_bracket_100 rfl (lv_at hl 2 rfl) ?_
              refine lv_iload hx hb dX12_bracket_101 (lv_at hl 7 rfl) ?_
              refine lv_if_eq (tgt := 113) hx hb dX12_bracket_103 (by decide) (fun c_86 => ?_) (fun c_86 => ?_)
              · refine lv_aload_n hx hb dX12_bracket_113 rfl (lv_at hl 2 rfl) ?_
                refine va_get (D := (dC, dI)) (ci := 11) (v := .double ((σ81x 0).2.2.1 52)) (C := RX12) (T := TX12) (N := 69) hx hb hts hinX12 hown hK hP 0 (mat_11 rfl) rfl 52 (by decide) (hts (.fieldLink RX12 537 "BondCalendarsModel" "low" "D") (by decide +kernel)) (fun _ h9 => h9) rfl dX12_bracket_114 ?_
                have hF := gFree hD hS hA
                refine va_calllD hd0 (va_runV_D (As := [.double ((σ81x 0).2.2.1 52)]) (rest := []) ⟨hx, hb, hml, hown, hts⟩ (n_X12_goodBits l dC dI ad cA adK adV H.size σ81x hIσ81x ((σ81x 0).2.2.1 52)) (cwV 1 hts gX12_bracket_X12_goodBits rfl rfl rfl (by decide +kernel) ⟨Nat.le_of_ble_eq_true rfl, Nat.le_of_ble_eq_true rfl⟩) ⟨gBlind, va_recv hK hP (ci := 11) (q0 := 0) rfl (mat_11 rfl), gStart (As := [.ref (ad 0), .double ((σ81x 0).2.2.1 52)]) hP hD hK0 hT hS hF (d81)⟩ rfl rfl hl.1 rfl (lv_room (Nat.le_of_ble_eq_true rfl)) dX12_bracket_117 ⟨Nat.le_of_ble_eq_true rfl, Nat.le_of_ble_eq_true rfl⟩) hS (fun q _ h => hF q h) hF (fun r_87 σ21 t H locs ht hvm hw hB hz1 hk1 hS d_88 hd0 => ?_)
                have hts := dr_words hts0 (d_88)
                have hK := gKd hK0 (d_88)
                have hown : (s.setDrawn (d_88)).vm.findClass RX12 = some m.cls := hown0
                obtain ⟨hP, hD⟩ := gBack hF ht hB
                obtain ⟨hIσ21, fcσ21, hp_89⟩ := hw
                refine W.endD hd0 ?_
                exact W.lret (v := r_87) hx hb hr (fun t ht hW => ⟨⟨r_87, σ21, rfl, ⟨hIσ21, (mFr.tr frσ81x fcσ21 (by decide) (by decide)), trivial⟩, ⟨by rw [ht]; exact hP, hD⟩⟩, hS.F ht⟩) hS.2.2 dX12_bracket_120
              · refine lv_aload_n hx hb dX12_bracket_106 rfl (lv_at hl 2 rfl) ?_
                refine va_get (D := (dC, dI)) (ci := 11) (v := .double ((σ81x 0).2.2.1 53)) (C := RX12) (T := TX12) (N := 69) hx hb hts hinX12 hown hK hP 0 (mat_11 rfl) rfl 53 (by decide) (hts (.fieldLink RX12 540 "BondCalendarsModel" "high" "D") (by decide +kernel)) (fun _ h9 => h9) rfl dX12_bracket_107 ?_
                refine lv_goto (tgt := 117) hx hb dX12_bracket_110 (by decide) ?_
                have hF := gFree hD hS hA
                refine va_calllD hd0 (va_runV_D (As := [.double ((σ81x 0).2.2.1 53)]) (rest := []) ⟨hx, hb, hml, hown, hts⟩ (n_X12_goodBits l dC dI ad cA adK adV H.size σ81x hIσ81x ((σ81x 0).2.2.1 53)) (cwV 1 hts gX12_bracket_X12_goodBits rfl rfl rfl (by decide +kernel) ⟨Nat.le_of_ble_eq_true rfl, Nat.le_of_ble_eq_true rfl⟩) ⟨gBlind, va_recv hK hP (ci := 11) (q0 := 0) rfl (mat_11 rfl), gStart (As := [.ref (ad 0), .double ((σ81x 0).2.2.1 53)]) hP hD hK0 hT hS hF (d81)⟩ rfl rfl hl.1 rfl (lv_room (Nat.le_of_ble_eq_true rfl)) dX12_bracket_117 ⟨Nat.le_of_ble_eq_true rfl, Nat.le_of_ble_eq_true rfl⟩) hS (fun q _ h => hF q h) hF (fun r_90 σ22 t H locs ht hvm hw hB hz1 hk1 hS d_91 hd0 => ?_)
                have hts := dr_words hts0 (d_91)
                have hK := gKd hK0 (d_91)
                have hown : (s.setDrawn (d_91)).vm.findClass RX12 = some m.cls := hown0
                obtain ⟨hP, hD⟩ := gBack hF ht hB
                obtain ⟨hIσ22, fcσ22, hp_92⟩ := hw
                refine W.endD hd0 ?_
                exact W.lret (v := r_90) hx hb hr (fun t ht hW => ⟨⟨r_90, σ22, rfl, ⟨hIσ22, (mFr.tr frσ81x fcσ22 (by decide) (by decide)), trivial⟩, ⟨by rw [ht]; exact hP, hD⟩⟩, hS.F ht⟩) hS.2.2 dX12_bracket_120
            · refine lv_aload_n hx hb dX12_bracket_88 rfl (lv_at hl 2 rfl) ?_
              refine lv_iload hx hb dX12_bracket_89 (lv_at hl 0 rfl) ?_
              have hF := gFree hD hS hA
              refine va_callvD hd0 (va_runV_D (As := [.int i7]) (rest := []) ⟨hx, hb, hml, hown, hts⟩ (n_X12_narrow l dC dI ad cA adK adV H.size σ81x hIσ81x i7) (cwV 1 hts gX12_bracket_X12_narrow rfl rfl rfl (by decide +kernel) ⟨Nat.le_of_ble_eq_true rfl, Nat.le_of_ble_eq_true rfl⟩) ⟨gBlind, va_recv hK hP (ci := 11) (q0 := 0) rfl (mat_11 rfl), gStart (As := [.ref (ad 0), .int i7]) hP hD hK0 hT hS hF (d81)⟩ rfl rfl hl.1 rfl (lv_room (Nat.le_of_ble_eq_true rfl)) dX12_bracket_91 ⟨Nat.le_of_ble_eq_true rfl, Nat.le_of_ble_eq_true rfl⟩) hS (fun q _ h => hF q h) hF (fun σ23 t H locs ht hvm hw hB hz1 hk1 hS d_94 hd0 => ?_)
              have hts := dr_words hts0 (d_94)
              have hK := gKd hK0 (d_94)
              have hown : (s.setDrawn (d_94)).vm.findClass RX12 = some m.cls := hown0
              obtain ⟨hP, hD⟩ := gBack hF ht hB
              obtain ⟨hIσ23, fcσ23, hp_95⟩ := hw
              obtain ⟨x_96, ex_96⟩ : ∃ zz : Int32, zz = i7 + 1 := ⟨_, rfl⟩
              refine lv_iinc (v := x_96) (lv' := [(7, .int x_96), (6, .int r_71), (0, .ref (ad 0)), (1, .int p0), (2, .int p1), (3, .int p2), (4, .int p3), (5, .int p4)]) hx hb dX12_bracket_94 hl (k := 0) rfl (by rw [ex_96]; rfl) (by decide) rfl (fun ls hl => ?_)
              refine lv_goto (tgt := 81) hx hb dX12_bracket_97 (by decide) ?_
              exact ih81 x_96 σ23 _ _ _ _ (cnt_m iv81_0 (Int32.not_le.mp c_85) hm81 ex_96) (cnt_0 iv81_0 (Int32.not_le.mp c_85) ex_96) hIσ23 (mFr.tr frσ81x fcσ23 (by decide) (by decide)) hd0 hP hD hS (lv_sub hl [0, 1, 2, 3, 4, 5, 6, 7] rfl)
        · refine lv_aload_n hx hb dX12_bracket_69 rfl (lv_at hl 1 rfl) ?_
          refine lv_iconst (v := 5) hx hb dX12_bracket_70 (by decide) ?_
          refine lv_ldc2 (v := (-9223372036854775808)) hx hb hown (hts (.constantLong RX12 482 (-9223372036854775808)) (by decide +kernel)) dX12_bracket_71 ?_
          have hF := gFree hD hS hA
          refine va_calllD hd0 (va_runV_D (As := [.int 5, .long (-9223372036854775808)]) (rest := []) ⟨hx, hb, hml, hown, hts⟩ (n_X12_refusedLong l dC dI ad cA adK adV H.size σ20 hIσ20 5 (-9223372036854775808)) (cwV 2 hts gX12_bracket_X12_refusedLong rfl rfl rfl (by decide +kernel) ⟨Nat.le_of_ble_eq_true rfl, Nat.le_of_ble_eq_true rfl⟩) ⟨gBlind, va_recv hK hP (ci := 11) (q0 := 0) rfl (mat_11 rfl), gStart (As := [.ref (ad 0), .int 5, .long (-9223372036854775808)]) hP hD hK0 hT hS hF (d_82)⟩ rfl rfl hl.1 rfl (lv_room (Nat.le_of_ble_eq_true rfl)) dX12_bracket_74 ⟨Nat.le_of_ble_eq_true rfl, Nat.le_of_ble_eq_true rfl⟩) hS (fun q _ h => hF q h) hF (fun r_97 σ24 t H locs ht hvm hw hB hz1 hk1 hS d_98 hd0 => ?_)
          have hts := dr_words hts0 (d_98)
          have hK := gKd hK0 (d_98)
          have hown : (s.setDrawn (d_98)).vm.findClass RX12 = some m.cls := hown0
          obtain ⟨hP, hD⟩ := gBack hF ht hB
          obtain ⟨hIσ24, fcσ24, hp_99⟩ := hw
          refine W.endD hd0 ?_
          exact W.lret (v := r_97) hx hb hr (fun t ht hW => ⟨⟨r_97, σ24, rfl, ⟨hIσ24, (mFr.tr (mFr.tr (mFr.tr frσ1 fcσ19 (by decide) (by decide)) fcσ20 (by decide) (by decide)) fcσ24 (by decide) (by decide)), trivial⟩, ⟨by rw [ht]; exact hP, hD⟩⟩, hS.F ht⟩) hS.2.2 dX12_bracket_77
      · refine lv_aload_n hx hb dX12_bracket_45 rfl (lv_at hl 1 rfl) ?_
        refine lv_iload hx hb dX12_bracket_46 (lv_at hl 0 rfl) ?_
        refine lv_ldc2 (v := (-9223372036854775808)) hx hb hown (hts (.constantLong RX12 482 (-9223372036854775808)) (by decide +kernel)) dX12_bracket_48 ?_
        have hF := gFree hD hS hA
        refine va_calllD hd0 (va_runV_D (As := [.int r_71, .long (-9223372036854775808)]) (rest := []) ⟨hx, hb, hml, hown, hts⟩ (n_X12_refusedLong l dC dI ad cA adK adV H.size σ1 hIσ1 r_71 (-9223372036854775808)) (cwV 2 hts gX12_bracket_X12_refusedLong rfl rfl rfl (by decide +kernel) ⟨Nat.le_of_ble_eq_true rfl, Nat.le_of_ble_eq_true rfl⟩) ⟨gBlind, va_recv hK hP (ci := 11) (q0 := 0) rfl (mat_11 rfl), gStart (As := [.ref (ad 0), .int r_71, .long (-9223372036854775808)]) hP hD hK0 hT hS hF (d_72)⟩ rfl rfl hl.1 rfl (lv_room (Nat.le_of_ble_eq_true rfl)) dX12_bracket_51 ⟨Nat.le_of_ble_eq_true rfl, Nat.le_of_ble_eq_true rfl⟩) hS (fun q _ h => hF q h) hF (fun r_100 σ25 t H locs ht hvm hw hB hz1 hk1 hS d_101 hd0 => ?_)
        have hts := dr_words hts0 (d_101)
        have hK := gKd hK0 (d_101)
        have hown : (s.setDrawn (d_101)).vm.findClass RX12 = some m.cls := hown0
        obtain ⟨hP, hD⟩ := gBack hF ht hB
        obtain ⟨hIσ25, fcσ25, hp_102⟩ := hw
        refine W.endD hd0 ?_
        exact W.lret (v := r_100) hx hb hr (fun t ht hW => ⟨⟨r_100, σ25, rfl, ⟨hIσ25, (mFr.tr frσ1 fcσ25 (by decide) (by decide)), trivial⟩, ⟨by rw [ht]; exact hP, hD⟩⟩, hS.F ht⟩) hS.2.2 dX12_bracket_54
set_option maxHeartbeats 8000000 in
set_option maxRecDepth 100000 in
theorem n_X12_narrows (l : Launch) (dC : Nat → ClassId) (dI : Nat → Nat → Nat) (ad : Nat → Nat) (cA : Nat → ClassId) (adK adV : Nat → Nat) (sz : Nat) (σ : gs) (hI : InvM σ) (p0 : Int32) (p1 : Int32) (p2 : Int32) (hh0 : Deep σ) : MetD lw_cs l yX12_narrows wsX12_narrows ({ frames := 7, cells := 0, slots := 0, locals := 181 }) (va_Pc [.ref (ad 0), .int p0, .int p1, .int p2] (gPre adK adV (dC, dI) (wM ad cA σ) (tM cA) sz)) (va_Qi (fun (r : Int32) (τ : gs) => InvM τ ∧ mFr [] [0, 1, 2, 47, 48, 49] σ τ ∧ (True)) (fun τ t => gPost (dC, dI) (va_A (wM ad cA σ) sz) (wM ad cA τ) t) (va_A (wM ad cA σ) sz)) 0 0 (va_A (wM ad cA σ) sz) := by
  refine MetD.ofW (cc := cX12_narrows) (maxL := 6) (ret := (some .int)) (by decide) rfl ?_
  intro p e s m args below meth c s₁ B hml hv hd0
  obtain ⟨rfl, hsz, hP, hK, hD0, hT⟩ := hv
  have hx := B.exec
  have hb := B.bytes
  have hr := B.returns
  have hts0 := atoms_spec (ws := wsX12_narrows) B.pre
  have hK0 := hK
  have hown0 : s.vm.findClass RX12 = some m.cls := findClass_of_methodNamed B.named
  have hlocks := B.notSynchronized
  have hinX12 : ∀ w ∈ u_ws RX12 TX12 69, w ∈ wsX12_narrows := (fun _ h9 => List.mem_cons_of_mem _ (List.mem_append_right _ h9))
  subst hsz
  have hD := hD0.self (sz := s.heap.size)
  generalize hAe : va_A (wM ad cA σ) s.heap.size = A at hD hT ⊢
  have hA : ∀ q : Nat, s.heap.size ≤ q → A q := fun q h => by rw [← hAe]; exact Or.inr h
  have hS : va_S A s.heap s.heap [] := va_S.rf
  have hl := lv_entry ([.ref (ad 0), .int p0, .int p1, .int p2]) (n := 6) (Nat.le_of_ble_eq_true rfl)
  rw [lg_entry_eq]
  generalize (lg_sl ([.ref (ad 0), .int p0, .int p1, .int p2]) ++ List.replicate (6 - (lg_sl ([.ref (ad 0), .int p0, .int p1, .int p2])).length) Slot.unset).toArray = ls at hl ⊢
  have hl : lv_has ls 6 [(0, .ref (ad 0)), (1, .int p0), (2, .int p1), (3, .int p2)] := hl
  have hts := dr_words hts0 (s.drawn)
  have hK := gKd hK0 (s.drawn)
  have hown : (s.setDrawn (s.drawn)).vm.findClass RX12 = some m.cls := hown0
  refine lv_aload_n hx hb dX12_narrows_0 rfl (lv_at hl 0 rfl) ?_
  refine lv_iconst (v := 0) hx hb dX12_narrows_1 (by decide) ?_
  refine va_put (D := (dC, dI)) (ci := 11) (v := .int 0) (C := RX12) (T := TX12) (N := 69) hx hb hts hinX12 tyX12 tyX12_ok nmX12 hown hK hP hD hS 0 (mat_11 rfl) rfl 0 (by decide) (hts (.fieldLink RX12 107 "BondCalendarsModel" "thrown" "I") (by decide +kernel)) (fun _ h9 => h9) rfl (ty := .int) (by decide +kernel) rfl rfl (Nat.le_of_ble_eq_true rfl) dX12_narrows_2 (fun H locs hP hD hS => ?_)
  obtain ⟨σ1, eσ1, hP, hD⟩ := gPut (mse_11_0 rfl) hP hD
  have hIσ1 : InvM σ1 := by rw [eσ1]; exact minv_I hI (mok_11_0 rfl _)
  have frσ1 : mFr [] [0, 1, 2, 47, 48, 49] σ σ1 := by rw [eσ1]; exact mFr.oI (mFr.rfl (L := []) (F := [0, 1, 2, 47, 48, 49]) (σ := σ)) (by decide)
  refine lv_aload_n hx hb dX12_narrows_5 rfl (lv_at hl 0 rfl) ?_
  refine lv_iload_n hx hb dX12_narrows_6 rfl (lv_at hl 1 rfl) ?_
  refine lv_iload_n hx hb dX12_narrows_7 rfl (lv_at hl 2 rfl) ?_
  refine lv_iload_n hx hb dX12_narrows_8 rfl (lv_at hl 3 rfl) ?_
  refine lv_iconst (v := 1) hx hb dX12_narrows_9 (by decide) ?_
  refine lv_ldcw (v := 99999) hx hb hown (hts (.constant RX12 348 (99999)) (by decide +kernel)) dX12_narrows_10 ?_
  have hF := gFree (w := []) (hx_D0 (A := A)) hS hA
  have hKe := hK.sub (tys' := []) [] rfl
  refine va_calli (va_runS (As := [.int p2, .int 1, .int 99999]) (rest := [.int p1, .int p0, .ref (ad 0)]) ⟨hx, hb, hml, hown, hts⟩ (k_X12_in l dC dI H.size p2 1 99999 ) (va_cwS 3 hts gX12_narrows_X12_in rfl rfl rfl (by decide +kernel) ⟨Nat.le_of_ble_eq_true rfl, Nat.le_of_ble_eq_true rfl⟩) ⟨fun a U g mk q => by obtain ⟨q0, q1, qP, qK, qD⟩ := q; exact ⟨q0, q1, qP, va_K.moved (u := U) (U := U.calling g mk a) (Vm.Alike.refl U.vm) qK, qD⟩, fun U hU hW => ⟨rfl, by rw [hU], hx_P0, va_K.moved hW.alike hKe, hx_D0⟩⟩ rfl rfl hl.1 rfl (lv_room (Nat.le_of_ble_eq_true rfl)) dX12_narrows_13 ⟨Nat.le_of_ble_eq_true rfl, Nat.le_of_ble_eq_true rfl⟩) hS (fun q _ h => hF q h) hF (fun r_1 u t H locs ht hvm hw hB hz1 hk1 hS => ?_)
  have hP := gKeep hP hk1
  have in_2 : r_1 = f_X12_in p2 1 99999 := hw
  have bin_2 : r_1 = 0 ∨ r_1 = 1 := by rw [in_2]; exact in01 _ _ _
  have hF := gFree hD hS hA
  refine va_calliD hd0 (va_runV_D (As := [.int p0, .int p1, .int r_1]) (rest := []) ⟨hx, hb, hml, hown, hts⟩ (n_X12_refusesBy l dC dI ad cA adK adV H.size σ1 hIσ1 p0 p1 r_1) (cwV 3 hts gX12_narrows_X12_refusesBy rfl rfl rfl (by decide +kernel) ⟨Nat.le_of_ble_eq_true rfl, Nat.le_of_ble_eq_true rfl⟩) ⟨gBlind, va_recv hK hP (ci := 11) (q0 := 0) rfl (mat_11 rfl), gStart (As := [.ref (ad 0), .int p0, .int p1, .int r_1]) hP hD hK0 hT hS hF (s.drawn)⟩ rfl rfl hl.1 rfl (lv_room (Nat.le_of_ble_eq_true rfl)) dX12_narrows_16 ⟨Nat.le_of_ble_eq_true rfl, Nat.le_of_ble_eq_true rfl⟩) hS (fun q _ h => hF q h) hF (fun r_3 σ2 t H locs ht hvm hw hB hz1 hk1 hS d_4 hd0 => ?_)
  have hts := dr_words hts0 (d_4)
  have hK := gKd hK0 (d_4)
  have hown : (s.setDrawn (d_4)).vm.findClass RX12 = some m.cls := hown0
  obtain ⟨hP, hD⟩ := gBack hF ht hB
  obtain ⟨hIσ2, hro, hp_5⟩ := hw
  subst hro
  have bd_6 := mrd_11_20 (c := 0) hI rfl
  have im_7 : (r_3 : Int32) ≤ (0 : Int32) → (p0 : Int32) < ((σ 0).1 20 : Int32) := fun h9 => lt_ch (Eq.refl _).symm (show ((σ1 0).1 20 : Int32) = ((σ 0).1 20 : Int32) from by rw [eσ1, gI_oth _ _ _ (by decide)]).symm (hp_5.2.1 (le_ch (Eq.refl _) (Eq.refl _) h9))
  have im_8 : (r_3 : Int32) ≤ (0 : Int32) → (p1 : Int32) < ((σ 4).1 p0.toNatClampNeg : Int32) := fun h9 => lt_ch (Eq.refl _).symm (show ((σ1 4).1 p0.toNatClampNeg : Int32) = ((σ 4).1 p0.toNatClampNeg : Int32) from by rw [eσ1, gI_ne _ _ _ (by decide)]).symm (hp_5.2.2 (le_ch (Eq.refl _) (Eq.refl _) h9))
  refine lv_istore (lv' := [(4, .int r_3), (0, .ref (ad 0)), (1, .int p0), (2, .int p1), (3, .int p2)]) hx hb dX12_narrows_19 hl (by decide) rfl (fun ls hl => ?_)
  refine lv_iload hx hb dX12_narrows_21 (lv_at hl 0 rfl) ?_
  refine lv_if_le (tgt := 33) hx hb dX12_narrows_23 (by decide) (fun c_9 => ?_) (fun c_9 => ?_)
  · refine lv_aload_n hx hb dX12_narrows_33 rfl (lv_at hl 1 rfl) ?_
    refine lv_iload_n hx hb dX12_narrows_34 rfl (lv_at hl 2 rfl) ?_
    refine lv_iload_n hx hb dX12_narrows_35 rfl (lv_at hl 3 rfl) ?_
    have hF := gFree hD hS hA
    refine va_callvD hd0 (va_runV_D (As := [.int p0, .int p1]) (rest := []) ⟨hx, hb, hml, hown, hts⟩ (n_X12_settles l dC dI ad cA adK adV H.size σ1 hIσ1 p0 p1 ((hp_5.1) c_9) (Int32.lt_of_lt_of_le (im_7 c_9) bd_6.2) ((Deep.fr hh0 (by rw [eσ1, gI_ne _ _ _ (by decide)]) (by rw [eσ1, gI_ne _ _ _ (by decide)]) (by rw [eσ1, gI_ne _ _ _ (by decide)]) (by rw [eσ1, gI_ne _ _ _ (by decide)]) (by rw [eσ1, gI_ne _ _ _ (by decide)]) (by rw [eσ1, gI_ne _ _ _ (by decide)]) (by rw [eσ1, gI_ne _ _ _ (by decide)]) (by rw [eσ1, gI_oth _ _ _ (by decide)]) (by rw [eσ1, gI_oth _ _ _ (by decide)]) (by rw [eσ1, gI_oth _ _ _ (by decide)]) (by rw [eσ1, gI_oth _ _ _ (by decide)]) (by rw [eσ1, gI_oth _ _ _ (by decide)]) (by rw [eσ1, gI_oth _ _ _ (by decide)])).1 _ (nc_lt ((hp_5.1) c_9) (lt_ch (Eq.refl _) (show ((σ1 0).1 20 : Int32) = ((σ 0).1 20 : Int32) from by rw [eσ1, gI_oth _ _ _ (by decide)]) (im_7 c_9)))).1 ((Deep.fr hh0 (by rw [eσ1, gI_ne _ _ _ (by decide)]) (by rw [eσ1, gI_ne _ _ _ (by decide)]) (by rw [eσ1, gI_ne _ _ _ (by decide)]) (by rw [eσ1, gI_ne _ _ _ (by decide)]) (by rw [eσ1, gI_ne _ _ _ (by decide)]) (by rw [eσ1, gI_ne _ _ _ (by decide)]) (by rw [eσ1, gI_ne _ _ _ (by decide)]) (by rw [eσ1, gI_oth _ _ _ (by decide)]) (by rw [eσ1, gI_oth _ _ _ (by decide)]) (by rw [eσ1, gI_oth _ _ _ (by decide)]) (by rw [eσ1, gI_oth _ _ _ (by decide)]) (by rw [eσ1, gI_oth _ _ _ (by decide)]) (by rw [eσ1, gI_oth _ _ _ (by decide)])).1 _ (nc_lt ((hp_5.1) c_9) (lt_ch (Eq.refl _) (show ((σ1 0).1 20 : Int32) = ((σ 0).1 20 : Int32) from by rw [eσ1, gI_oth _ _ _ (by decide)]) (im_7 c_9)))).2.1 (lt_ch (Eq.refl _) (show ((σ1 4).1 p0.toNatClampNeg : Int32) = ((σ 4).1 p0.toNatClampNeg : Int32) from by rw [eσ1, gI_ne _ _ _ (by decide)]) (im_8 c_9))) (cwV 2 hts gX12_narrows_X12_settles rfl rfl rfl (by decide +kernel) ⟨Nat.le_of_ble_eq_true rfl, Nat.le_of_ble_eq_true rfl⟩) ⟨gBlind, va_recv hK hP (ci := 11) (q0 := 0) rfl (mat_11 rfl), gStart (As := [.ref (ad 0), .int p0, .int p1]) hP hD hK0 hT hS hF (d_4)⟩ rfl rfl hl.1 rfl (lv_room (Nat.le_of_ble_eq_true rfl)) dX12_narrows_36 ⟨Nat.le_of_ble_eq_true rfl, Nat.le_of_ble_eq_true rfl⟩) hS (fun q _ h => hF q h) hF (fun σ3 t H locs ht hvm hw hB hz1 hk1 hS d_11 hd0 => ?_)
    have hts := dr_words hts0 (d_11)
    have hK := gKd hK0 (d_11)
    have hown : (s.setDrawn (d_11)).vm.findClass RX12 = some m.cls := hown0
    obtain ⟨hP, hD⟩ := gBack hF ht hB
    obtain ⟨hIσ3, fcσ3, hp_12⟩ := hw
    refine lv_aload_n hx hb dX12_narrows_39 rfl (lv_at hl 1 rfl) ?_
    refine lv_iload_n hx hb dX12_narrows_40 rfl (lv_at hl 4 rfl) ?_
    have hF := gFree hD hS hA
    refine va_calliD hd0 (va_runV_D (As := [.int p2]) (rest := []) ⟨hx, hb, hml, hown, hts⟩ (n_X12_brackets l dC dI ad cA adK adV H.size σ3 hIσ3 p2) (cwV 1 hts gX12_narrows_X12_brackets rfl rfl rfl (by decide +kernel) ⟨Nat.le_of_ble_eq_true rfl, Nat.le_of_ble_eq_true rfl⟩) ⟨gBlind, va_recv hK hP (ci := 11) (q0 := 0) rfl (mat_11 rfl), gStart (As := [.ref (ad 0), .int p2]) hP hD hK0 hT hS hF (d_11)⟩ rfl rfl hl.1 rfl (lv_room (Nat.le_of_ble_eq_true rfl)) dX12_narrows_41 ⟨Nat.le_of_ble_eq_true rfl, Nat.le_of_ble_eq_true rfl⟩) hS (fun q _ h => hF q h) hF (fun r_13 σ4 t H locs ht hvm hw hB hz1 hk1 hS d_14 hd0 => ?_)
    have hts := dr_words hts0 (d_14)
    have hK := gKd hK0 (d_14)
    have hown : (s.setDrawn (d_14)).vm.findClass RX12 = some m.cls := hown0
    obtain ⟨hP, hD⟩ := gBack hF ht hB
    obtain ⟨hIσ4, fcσ4, hp_15⟩ := hw
    refine lv_if_ne (tgt := 53) hx hb dX12_narrows_44 (by decide) (fun c_16 => ?_) (fun c_16 => ?_)
    · refine lv_iconst (v := 0) hx hb dX12_narrows_53 (by decide) ?_
      refine lv_istore (lv' := [(5, .int 0), (4, .int r_3), (0, .ref (ad 0)), (1, .int p0), (2, .int p1), (3, .int p2)]) hx hb dX12_narrows_54 hl (by decide) rfl (fun ls hl => ?_)
      refine (fun (h : ∀ (n : Nat) (i5 : Int32) (σ56x : gs) (d56 : Drawn) (H : Heap) (locs : List Loc) (ls : Array Slot), ((61 : Int32).toInt - i5.toInt).toNat < n → 0 ≤ i5 → InvM σ56x → mFr [] [0, 1, 2, 47, 48, 49] σ σ56x → s.drawn.sameBut d56 lw_cs → va_P (dC, dI) vwCl (wM ad cA σ56x) H → va_D A (wM ad cA σ56x) → va_S A s.heap H locs → lv_has ls 6 [(5, .int i5), (4, .int r_3), (0, .ref (ad 0)), (1, .int p0), (2, .int p1), (3, .int p2)] → W p l e _ (s.setDrawn d56) m _ below meth c H locs _ _ _ (F0 m 56 ls [])) => h _ 0 σ4 _ _ _ _ (Nat.lt_succ_self _) (by decide) hIσ4 (mFr.tr (mFr.tr frσ1 fcσ3 (by decide) (by decide)) fcσ4 (by decide) (by decide)) hd0 hP hD hS (lv_sub hl [0, 1, 2, 3, 4, 5] rfl)) ?_
      intro n56
      induction n56 with
      | zero => intro i5 σ56x d56 H locs ls hm; exact absurd hm (Nat.not_lt_zero _)
      | succ n56 ih56 =>
        intro i5 σ56x d56 H locs ls hm56 iv56_0 hIσ56x frσ56x hd0 hP hD hS hl
        have hts := dr_words hts0 (d56)
        have hK := gKd hK0 (d56)
        have hown : (s.setDrawn (d56)).vm.findClass RX12 = some m.cls := hown0
        refine lv_iload hx hb dX12_narrows_56 (lv_at hl 0 rfl) ?_
        refine lv_bipush (v := 60) hx hb dX12_narrows_58 (by decide) ?_
        refine lv_icmp_gt (tgt := 98) hx hb dX12_narrows_60 (by decide) (fun c_17 => ?_) (fun c_17 => ?_)
        · refine lv_aload_n hx hb dX12_narrows_98 rfl (lv_at hl 2 rfl) ?_
          refine lv_bipush (v := (-2)) hx hb dX12_narrows_99 (by decide) ?_
          have hF := gFree hD hS hA
          refine va_calliD hd0 (va_runV_D (As := [.int (-2)]) (rest := []) ⟨hx, hb, hml, hown, hts⟩ (n_X12_good l dC dI ad cA adK adV H.size σ56x hIσ56x (-2)) (cwV 1 hts gX12_narrows_X12_good rfl rfl rfl (by decide +kernel) ⟨Nat.le_of_ble_eq_true rfl, Nat.le_of_ble_eq_true rfl⟩) ⟨gBlind, va_recv hK hP (ci := 11) (q0 := 0) rfl (mat_11 rfl), gStart (As := [.ref (ad 0), .int (-2)]) hP hD hK0 hT hS hF (d56)⟩ rfl rfl hl.1 rfl (lv_room (Nat.le_of_ble_eq_true rfl)) dX12_narrows_101 ⟨Nat.le_of_ble_eq_true rfl, Nat.le_of_ble_eq_true rfl⟩) hS (fun q _ h => hF q h) hF (fun r_18 σ5 t H locs ht hvm hw hB hz1 hk1 hS d_19 hd0 => ?_)
          have hts := dr_words hts0 (d_19)
          have hK := gKd hK0 (d_19)
          have hown : (s.setDrawn (d_19)).vm.findClass RX12 = some m.cls := hown0
          obtain ⟨hP, hD⟩ := gBack hF ht hB
          obtain ⟨hIσ5, fcσ5, hp_20⟩ := hw
          refine W.endD hd0 ?_
          exact W.iret (v := r_18) hx hb hr (fun t ht hW => ⟨⟨r_18, σ5, rfl, ⟨hIσ5, (mFr.tr frσ56x fcσ5 (by decide) (by decide)), trivial⟩, ⟨by rw [ht]; exact hP, hD⟩⟩, hS.F ht⟩) hS.2.2 dX12_narrows_104
        · refine lv_aload_n hx hb dX12_narrows_63 rfl (lv_at hl 2 rfl) ?_
          refine va_get (D := (dC, dI)) (ci := 11) (v := .double ((σ56x 0).2.2.1 53)) (C := RX12) (T := TX12) (N := 69) hx hb hts hinX12 hown hK hP 0 (mat_11 rfl) rfl 53 (by decide) (hts (.fieldLink RX12 540 "BondCalendarsModel" "high" "D") (by decide +kernel)) (fun _ h9 => h9) rfl dX12_narrows_64 ?_
          refine lv_aload_n hx hb dX12_narrows_67 rfl (lv_at hl 2 rfl) ?_
          refine va_get (D := (dC, dI)) (ci := 11) (v := .double ((σ56x 0).2.2.1 52)) (C := RX12) (T := TX12) (N := 69) hx hb hts hinX12 hown hK hP 0 (mat_11 rfl) rfl 52 (by decide) (hts (.fieldLink RX12 537 "BondCalendarsModel" "low" "D") (by decide +kernel)) (fun _ h9 => h9) rfl dX12_narrows_68 ?_
          refine lv_dsub_any hd0 lw_bits hx hb dX12_narrows_71 (fun y_21 d_22 _ hd0 => ?_)
          have hts := dr_words hts0 (d_22)
          have hK := gKd hK0 (d_22)
          have hown : (s.setDrawn (d_22)).vm.findClass RX12 = some m.cls := hown0
          refine lv_ldc2d (v := 4517329193108106637) hx hb hown (hts (.constantDouble RX12 558 (4517329193108106637)) (by decide +kernel)) dX12_narrows_72 ?_
          refine lv_dcmp hx hb dX12_narrows_75 ?_
          refine lv_topi (fun x_23 _ => ?_)
          refine lv_if_gt (tgt := 86) hx hb dX12_narrows_76 (by decide) (fun c_24 => ?_) (fun c_24 => ?_)
          · refine lv_aload_n hx hb dX12_narrows_86 rfl (lv_at hl 2 rfl) ?_
            refine lv_iload hx hb dX12_narrows_87 (lv_at hl 0 rfl) ?_
            have hF := gFree hD hS hA
            refine va_callvD hd0 (va_runV_D (As := [.int i5]) (rest := []) ⟨hx, hb, hml, hown, hts⟩ (n_X12_narrow l dC dI ad cA adK adV H.size σ56x hIσ56x i5) (cwV 1 hts gX12_narrows_X12_narrow rfl rfl rfl (by decide +kernel) ⟨Nat.le_of_ble_eq_true rfl, Nat.le_of_ble_eq_true rfl⟩) ⟨gBlind, va_recv hK hP (ci := 11) (q0 := 0) rfl (mat_11 rfl), gStart (As := [.ref (ad 0), .int i5]) hP hD hK0 hT hS hF (d_22)⟩ rfl rfl hl.1 rfl (lv_room (Nat.le_of_ble_eq_true rfl)) dX12_narrows_89 ⟨Nat.le_of_ble_eq_true rfl, Nat.le_of_ble_eq_true rfl⟩) hS (fun q _ h => hF q h) hF (fun σ6 t H locs ht hvm hw hB hz1 hk1 hS d_26 hd0 => ?_)
            have hts := dr_words hts0 (d_26)
            have hK := gKd hK0 (d_26)
            have hown : (s.setDrawn (d_26)).vm.findClass RX12 = some m.cls := hown0
            obtain ⟨hP, hD⟩ := gBack hF ht hB
            obtain ⟨hIσ6, fcσ6, hp_27⟩ := hw
            obtain ⟨x_28, ex_28⟩ : ∃ zz : Int32, zz = i5 + 1 := ⟨_, rfl⟩
            refine lv_iinc (v := x_28) (lv' := [(5, .int x_28), (4, .int r_3), (0, .ref (ad 0)), (1, .int p0), (2, .int p1), (3, .int p2)]) hx hb dX12_narrows_92 hl (k := 0) rfl (by rw [ex_28]; rfl) (by decide) rfl (fun ls hl => ?_)
            refine lv_goto (tgt := 56) hx hb dX12_narrows_95 (by decide) ?_
            exact ih56 x_28 σ6 _ _ _ _ (cnt_m iv56_0 (Int32.lt_of_le_of_lt (Int32.not_lt.mp c_17) (show (60 : Int32) < 61 by decide)) hm56 ex_28) (cnt_0 iv56_0 (Int32.lt_of_le_of_lt (Int32.not_lt.mp c_17) (show (60 : Int32) < 61 by decide)) ex_28) hIσ6 (mFr.tr frσ56x fcσ6 (by decide) (by decide)) hd0 hP hD hS (lv_sub hl [0, 1, 2, 3, 4, 5] rfl)
          · refine lv_aload_n hx hb dX12_narrows_79 rfl (lv_at hl 2 rfl) ?_
            refine lv_iload hx hb dX12_narrows_80 (lv_at hl 0 rfl) ?_
            have hF := gFree hD hS hA
            refine va_calliD hd0 (va_runV_D (As := [.int i5]) (rest := []) ⟨hx, hb, hml, hown, hts⟩ (n_X12_good l dC dI ad cA adK adV H.size σ56x hIσ56x i5) (cwV 1 hts gX12_narrows_X12_good rfl rfl rfl (by decide +kernel) ⟨Nat.le_of_ble_eq_true rfl, Nat.le_of_ble_eq_true rfl⟩) ⟨gBlind, va_recv hK hP (ci := 11) (q0 := 0) rfl (mat_11 rfl), gStart (As := [.ref (ad 0), .int i5]) hP hD hK0 hT hS hF (d_22)⟩ rfl rfl hl.1 rfl (lv_room (Nat.le_of_ble_eq_true rfl)) dX12_narrows_82 ⟨Nat.le_of_ble_eq_true rfl, Nat.le_of_ble_eq_true rfl⟩) hS (fun q _ h => hF q h) hF (fun r_29 σ7 t H locs ht hvm hw hB hz1 hk1 hS d_30 hd0 => ?_)
            have hts := dr_words hts0 (d_30)
            have hK := gKd hK0 (d_30)
            have hown : (s.setDrawn (d_30)).vm.findClass RX12 = some m.cls := hown0
            obtain ⟨hP, hD⟩ := gBack hF ht hB
            obtain ⟨hIσ7, fcσ7, hp_31⟩ := hw
            refine W.endD hd0 ?_
            exact W.iret (v := r_29) hx hb hr (fun t ht hW => ⟨⟨r_29, σ7, rfl, ⟨hIσ7, (mFr.tr frσ56x fcσ7 (by decide) (by decide)), trivial⟩, ⟨by rw [ht]; exact hP, hD⟩⟩, hS.F ht⟩) hS.2.2 dX12_narrows_85
    · refine lv_aload_n hx hb dX12_narrows_47 rfl (lv_at hl 1 rfl) ?_
      refine lv_iconst (v := 5) hx hb dX12_narrows_48 (by decide) ?_
      have hF := gFree hD hS hA
      refine va_calliD hd0 (va_runV_D (As := [.int 5]) (rest := []) ⟨hx, hb, hml, hown, hts⟩ (n_X12_refused l dC dI ad cA adK adV H.size σ4 hIσ4 5) (cwV 1 hts gX12_narrows_X12_refused rfl rfl rfl (by decide +kernel) ⟨Nat.le_of_ble_eq_true rfl, Nat.le_of_ble_eq_true rfl⟩) ⟨gBlind, va_recv hK hP (ci := 11) (q0 := 0) rfl (mat_11 rfl), gStart (As := [.ref (ad 0), .int 5]) hP hD hK0 hT hS hF (d_14)⟩ rfl rfl hl.1 rfl (lv_room (Nat.le_of_ble_eq_true rfl)) dX12_narrows_49 ⟨Nat.le_of_ble_eq_true rfl, Nat.le_of_ble_eq_true rfl⟩) hS (fun q _ h => hF q h) hF (fun r_32 σ8 t H locs ht hvm hw hB hz1 hk1 hS d_33 hd0 => ?_)
      have hts := dr_words hts0 (d_33)
      have hK := gKd hK0 (d_33)
      have hown : (s.setDrawn (d_33)).vm.findClass RX12 = some m.cls := hown0
      obtain ⟨hP, hD⟩ := gBack hF ht hB
      obtain ⟨hIσ8, fcσ8, hp_34⟩ := hw
      refine W.endD hd0 ?_
      exact W.iret (v := r_32) hx hb hr (fun t ht hW => ⟨⟨r_32, σ8, rfl, ⟨hIσ8, (mFr.tr (mFr.tr (mFr.tr frσ1 fcσ3 (by decide) (by decide)) fcσ4 (by decide) (by decide)) fcσ8 (by decide) (by decide)), trivial⟩, ⟨by rw [ht]; exact hP, hD⟩⟩, hS.F ht⟩) hS.2.2 dX12_narrows_52
  · refine lv_aload_n hx hb dX12_narrows_26 rfl (lv_at hl 1 rfl) ?_
    refine lv_iload hx hb dX12_narrows_27 (lv_at hl 0 rfl) ?_
    have hF := gFree hD hS hA
    refine va_calliD hd0 (va_runV_D (As := [.int r_3]) (rest := []) ⟨hx, hb, hml, hown, hts⟩ (n_X12_refused l dC dI ad cA adK adV H.size σ1 hIσ1 r_3) (cwV 1 hts gX12_narrows_X12_refused rfl rfl rfl (by decide +kernel) ⟨Nat.le_of_ble_eq_true rfl, Nat.le_of_ble_eq_true rfl⟩) ⟨gBlind, va_recv hK hP (ci := 11) (q0 := 0) rfl (mat_11 rfl), gStart (As := [.ref (ad 0), .int r_3]) hP hD hK0 hT hS hF (d_4)⟩ rfl rfl hl.1 rfl (lv_room (Nat.le_of_ble_eq_true rfl)) dX12_narrows_29 ⟨Nat.le_of_ble_eq_true rfl, Nat.le_of_ble_eq_true rfl⟩) hS (fun q _ h => hF q h) hF (fun r_35 σ9 t H locs ht hvm hw hB hz1 hk1 hS d_36 hd0 => ?_)
    have hts := dr_words hts0 (d_36)
    have hK := gKd hK0 (d_36)
    have hown : (s.setDrawn (d_36)).vm.findClass RX12 = some m.cls := hown0
    obtain ⟨hP, hD⟩ := gBack hF ht hB
    obtain ⟨hIσ9, fcσ9, hp_37⟩ := hw
    refine W.endD hd0 ?_
    exact W.iret (v := r_35) hx hb hr (fun t ht hW => ⟨⟨r_35, σ9, rfl, ⟨hIσ9, (mFr.tr frσ1 fcσ9 (by decide) (by decide)), trivial⟩, ⟨by rw [ht]; exact hP, hD⟩⟩, hS.F ht⟩) hS.2.2 dX12_narrows_32
set_option maxHeartbeats 8000000 in
set_option maxRecDepth 100000 in
theorem n_X12_pointsAt (l : Launch) (dC : Nat → ClassId) (dI : Nat → Nat → Nat) (ad : Nat → Nat) (cA : Nat → ClassId) (adK adV : Nat → Nat) (sz : Nat) (σ : gs) (hI : InvM σ) (p0 : Int32) (p1 : Int32) (p2 : Int32) (hh0 : Deep σ) : MetD lw_cs l yX12_pointsAt wsX12_pointsAt ({ frames := 7, cells := 0, slots := 0, locals := 181 }) (va_Pc [.ref (ad 0), .int p0, .int p1, .int p2] (gPre adK adV (dC, dI) (wM ad cA σ) (tM cA) sz)) (va_Qi (fun (r : Int32) (τ : gs) => InvM τ ∧ mFr [] [0, 1, 2, 47, 48, 49] σ τ ∧ (True)) (fun τ t => gPost (dC, dI) (va_A (wM ad cA σ) sz) (wM ad cA τ) t) (va_A (wM ad cA σ) sz)) 0 0 (va_A (wM ad cA σ) sz) := by
  refine MetD.ofW (cc := cX12_pointsAt) (maxL := 10) (ret := (some .int)) (by decide) rfl ?_
  intro p e s m args below meth c s₁ B hml hv hd0
  obtain ⟨rfl, hsz, hP, hK, hD0, hT⟩ := hv
  have hx := B.exec
  have hb := B.bytes
  have hr := B.returns
  have hts0 := atoms_spec (ws := wsX12_pointsAt) B.pre
  have hK0 := hK
  have hown0 : s.vm.findClass RX12 = some m.cls := findClass_of_methodNamed B.named
  have hlocks := B.notSynchronized
  have hinX12 : ∀ w ∈ u_ws RX12 TX12 69, w ∈ wsX12_pointsAt := (fun _ h9 => List.mem_cons_of_mem _ (List.mem_append_right _ h9))
  subst hsz
  have hD := hD0.self (sz := s.heap.size)
  generalize hAe : va_A (wM ad cA σ) s.heap.size = A at hD hT ⊢
  have hA : ∀ q : Nat, s.heap.size ≤ q → A q := fun q h => by rw [← hAe]; exact Or.inr h
  have hS : va_S A s.heap s.heap [] := va_S.rf
  have hl := lv_entry ([.ref (ad 0), .int p0, .int p1, .int p2]) (n := 10) (Nat.le_of_ble_eq_true rfl)
  rw [lg_entry_eq]
  generalize (lg_sl ([.ref (ad 0), .int p0, .int p1, .int p2]) ++ List.replicate (10 - (lg_sl ([.ref (ad 0), .int p0, .int p1, .int p2])).length) Slot.unset).toArray = ls at hl ⊢
  have hl : lv_has ls 10 [(0, .ref (ad 0)), (1, .int p0), (2, .int p1), (3, .int p2)] := hl
  have hts := dr_words hts0 (s.drawn)
  have hK := gKd hK0 (s.drawn)
  have hown : (s.setDrawn (s.drawn)).vm.findClass RX12 = some m.cls := hown0
  refine lv_aload_n hx hb dX12_pointsAt_0 rfl (lv_at hl 0 rfl) ?_
  refine lv_iconst (v := 0) hx hb dX12_pointsAt_1 (by decide) ?_
  refine va_put (D := (dC, dI)) (ci := 11) (v := .int 0) (C := RX12) (T := TX12) (N := 69) hx hb hts hinX12 tyX12 tyX12_ok nmX12 hown hK hP hD hS 0 (mat_11 rfl) rfl 0 (by decide) (hts (.fieldLink RX12 107 "BondCalendarsModel" "thrown" "I") (by decide +kernel)) (fun _ h9 => h9) rfl (ty := .int) (by decide +kernel) rfl rfl (Nat.le_of_ble_eq_true rfl) dX12_pointsAt_2 (fun H locs hP hD hS => ?_)
  obtain ⟨σ1, eσ1, hP, hD⟩ := gPut (mse_11_0 rfl) hP hD
  have hIσ1 : InvM σ1 := by rw [eσ1]; exact minv_I hI (mok_11_0 rfl _)
  have frσ1 : mFr [] [0, 1, 2, 47, 48, 49] σ σ1 := by rw [eσ1]; exact mFr.oI (mFr.rfl (L := []) (F := [0, 1, 2, 47, 48, 49]) (σ := σ)) (by decide)
  refine lv_aload_n hx hb dX12_pointsAt_5 rfl (lv_at hl 0 rfl) ?_
  refine lv_iload_n hx hb dX12_pointsAt_6 rfl (lv_at hl 1 rfl) ?_
  refine lv_iload_n hx hb dX12_pointsAt_7 rfl (lv_at hl 2 rfl) ?_
  refine lv_iload_n hx hb dX12_pointsAt_8 rfl (lv_at hl 3 rfl) ?_
  refine lv_iconst (v := 1) hx hb dX12_pointsAt_9 (by decide) ?_
  refine lv_ldcw (v := 99999) hx hb hown (hts (.constant RX12 348 (99999)) (by decide +kernel)) dX12_pointsAt_10 ?_
  have hF := gFree (w := []) (hx_D0 (A := A)) hS hA
  have hKe := hK.sub (tys' := []) [] rfl
  refine va_calli (va_runS (As := [.int p2, .int 1, .int 99999]) (rest := [.int p1, .int p0, .ref (ad 0)]) ⟨hx, hb, hml, hown, hts⟩ (k_X12_in l dC dI H.size p2 1 99999 ) (va_cwS 3 hts gX12_pointsAt_X12_in rfl rfl rfl (by decide +kernel) ⟨Nat.le_of_ble_eq_true rfl, Nat.le_of_ble_eq_true rfl⟩) ⟨fun a U g mk q => by obtain ⟨q0, q1, qP, qK, qD⟩ := q; exact ⟨q0, q1, qP, va_K.moved (u := U) (U := U.calling g mk a) (Vm.Alike.refl U.vm) qK, qD⟩, fun U hU hW => ⟨rfl, by rw [hU], hx_P0, va_K.moved hW.alike hKe, hx_D0⟩⟩ rfl rfl hl.1 rfl (lv_room (Nat.le_of_ble_eq_true rfl)) dX12_pointsAt_13 ⟨Nat.le_of_ble_eq_true rfl, Nat.le_of_ble_eq_true rfl⟩) hS (fun q _ h => hF q h) hF (fun r_1 u t H locs ht hvm hw hB hz1 hk1 hS => ?_)
  have hP := gKeep hP hk1
  have in_2 : r_1 = f_X12_in p2 1 99999 := hw
  have bin_2 : r_1 = 0 ∨ r_1 = 1 := by rw [in_2]; exact in01 _ _ _
  have hF := gFree hD hS hA
  refine va_calliD hd0 (va_runV_D (As := [.int p0, .int p1, .int r_1]) (rest := []) ⟨hx, hb, hml, hown, hts⟩ (n_X12_refusesBy l dC dI ad cA adK adV H.size σ1 hIσ1 p0 p1 r_1) (cwV 3 hts gX12_pointsAt_X12_refusesBy rfl rfl rfl (by decide +kernel) ⟨Nat.le_of_ble_eq_true rfl, Nat.le_of_ble_eq_true rfl⟩) ⟨gBlind, va_recv hK hP (ci := 11) (q0 := 0) rfl (mat_11 rfl), gStart (As := [.ref (ad 0), .int p0, .int p1, .int r_1]) hP hD hK0 hT hS hF (s.drawn)⟩ rfl rfl hl.1 rfl (lv_room (Nat.le_of_ble_eq_true rfl)) dX12_pointsAt_16 ⟨Nat.le_of_ble_eq_true rfl, Nat.le_of_ble_eq_true rfl⟩) hS (fun q _ h => hF q h) hF (fun r_3 σ2 t H locs ht hvm hw hB hz1 hk1 hS d_4 hd0 => ?_)
  have hts := dr_words hts0 (d_4)
  have hK := gKd hK0 (d_4)
  have hown : (s.setDrawn (d_4)).vm.findClass RX12 = some m.cls := hown0
  obtain ⟨hP, hD⟩ := gBack hF ht hB
  obtain ⟨hIσ2, hro, hp_5⟩ := hw
  subst hro
  have bd_6 := mrd_11_20 (c := 0) hI rfl
  have im_7 : (r_3 : Int32) ≤ (0 : Int32) → (p0 : Int32) < ((σ 0).1 20 : Int32) := fun h9 => lt_ch (Eq.refl _).symm (show ((σ1 0).1 20 : Int32) = ((σ 0).1 20 : Int32) from by rw [eσ1, gI_oth _ _ _ (by decide)]).symm (hp_5.2.1 (le_ch (Eq.refl _) (Eq.refl _) h9))
  have im_8 : (r_3 : Int32) ≤ (0 : Int32) → (p1 : Int32) < ((σ 4).1 p0.toNatClampNeg : Int32) := fun h9 => lt_ch (Eq.refl _).symm (show ((σ1 4).1 p0.toNatClampNeg : Int32) = ((σ 4).1 p0.toNatClampNeg : Int32) from by rw [eσ1, gI_ne _ _ _ (by decide)]).symm (hp_5.2.2 (le_ch (Eq.refl _) (Eq.refl _) h9))
  refine lv_istore (lv' := [(4, .int r_3), (0, .ref (ad 0)), (1, .int p0), (2, .int p1), (3, .int p2)]) hx hb dX12_pointsAt_19 hl (by decide) rfl (fun ls hl => ?_)
  refine lv_iload hx hb dX12_pointsAt_21 (lv_at hl 0 rfl) ?_
  refine lv_if_le (tgt := 37) hx hb dX12_pointsAt_23 (by decide) (fun c_9 => ?_) (fun c_9 => ?_)
  · refine lv_aload_n hx hb dX12_pointsAt_37 rfl (lv_at hl 1 rfl) ?_
    refine lv_iload_n hx hb dX12_pointsAt_38 rfl (lv_at hl 2 rfl) ?_
    refine lv_iload_n hx hb dX12_pointsAt_39 rfl (lv_at hl 3 rfl) ?_
    have hF := gFree hD hS hA
    refine va_callvD hd0 (va_runV_D (As := [.int p0, .int p1]) (rest := []) ⟨hx, hb, hml, hown, hts⟩ (n_X12_settles l dC dI ad cA adK adV H.size σ1 hIσ1 p0 p1 ((hp_5.1) c_9) (Int32.lt_of_lt_of_le (im_7 c_9) bd_6.2) ((Deep.fr hh0 (by rw [eσ1, gI_ne _ _ _ (by decide)]) (by rw [eσ1, gI_ne _ _ _ (by decide)]) (by rw [eσ1, gI_ne _ _ _ (by decide)]) (by rw [eσ1, gI_ne _ _ _ (by decide)]) (by rw [eσ1, gI_ne _ _ _ (by decide)]) (by rw [eσ1, gI_ne _ _ _ (by decide)]) (by rw [eσ1, gI_ne _ _ _ (by decide)]) (by rw [eσ1, gI_oth _ _ _ (by decide)]) (by rw [eσ1, gI_oth _ _ _ (by decide)]) (by rw [eσ1, gI_oth _ _ _ (by decide)]) (by rw [eσ1, gI_oth _ _ _ (by decide)]) (by rw [eσ1, gI_oth _ _ _ (by decide)]) (by rw [eσ1, gI_oth _ _ _ (by decide)])).1 _ (nc_lt ((hp_5.1) c_9) (lt_ch (Eq.refl _) (show ((σ1 0).1 20 : Int32) = ((σ 0).1 20 : Int32) from by rw [eσ1, gI_oth _ _ _ (by decide)]) (im_7 c_9)))).1 ((Deep.fr hh0 (by rw [eσ1, gI_ne _ _ _ (by decide)]) (by rw [eσ1, gI_ne _ _ _ (by decide)]) (by rw [eσ1, gI_ne _ _ _ (by decide)]) (by rw [eσ1, gI_ne _ _ _ (by decide)]) (by rw [eσ1, gI_ne _ _ _ (by decide)]) (by rw [eσ1, gI_ne _ _ _ (by decide)]) (by rw [eσ1, gI_ne _ _ _ (by decide)]) (by rw [eσ1, gI_oth _ _ _ (by decide)]) (by rw [eσ1, gI_oth _ _ _ (by decide)]) (by rw [eσ1, gI_oth _ _ _ (by decide)]) (by rw [eσ1, gI_oth _ _ _ (by decide)]) (by rw [eσ1, gI_oth _ _ _ (by decide)]) (by rw [eσ1, gI_oth _ _ _ (by decide)])).1 _ (nc_lt ((hp_5.1) c_9) (lt_ch (Eq.refl _) (show ((σ1 0).1 20 : Int32) = ((σ 0).1 20 : Int32) from by rw [eσ1, gI_oth _ _ _ (by decide)]) (im_7 c_9)))).2.1 (lt_ch (Eq.refl _) (show ((σ1 4).1 p0.toNatClampNeg : Int32) = ((σ 4).1 p0.toNatClampNeg : Int32) from by rw [eσ1, gI_ne _ _ _ (by decide)]) (im_8 c_9))) (cwV 2 hts gX12_pointsAt_X12_settles rfl rfl rfl (by decide +kernel) ⟨Nat.le_of_ble_eq_true rfl, Nat.le_of_ble_eq_true rfl⟩) ⟨gBlind, va_recv hK hP (ci := 11) (q0 := 0) rfl (mat_11 rfl), gStart (As := [.ref (ad 0), .int p0, .int p1]) hP hD hK0 hT hS hF (d_4)⟩ rfl rfl hl.1 rfl (lv_room (Nat.le_of_ble_eq_true rfl)) dX12_pointsAt_40 ⟨Nat.le_of_ble_eq_true rfl, Nat.le_of_ble_eq_true rfl⟩) hS (fun q _ h => hF q h) hF (fun σ3 t H locs ht hvm hw hB hz1 hk1 hS d_11 hd0 => ?_)
    have hts := dr_words hts0 (d_11)
    have hK := gKd hK0 (d_11)
    have hown : (s.setDrawn (d_11)).vm.findClass RX12 = some m.cls := hown0
    obtain ⟨hP, hD⟩ := gBack hF ht hB
    obtain ⟨hIσ3, fcσ3, hp_12⟩ := hw
    refine lv_iload_n hx hb dX12_pointsAt_43 rfl (lv_at hl 4 rfl) ?_
    refine lv_i2d hx hb dX12_pointsAt_44 ?_
    refine lv_topd (fun y_13 _ => ?_)
    refine lv_ldc2d (v := 4636737291354636288) hx hb hown (hts (.constantDouble RX12 503 (4636737291354636288)) (by decide +kernel)) dX12_pointsAt_45 ?_
    refine lv_ddiv_any hd0 lw_bits hx hb dX12_pointsAt_48 (fun y_14 d_15 _ hd0 => ?_)
    have hts := dr_words hts0 (d_15)
    have hK := gKd hK0 (d_15)
    have hown : (s.setDrawn (d_15)).vm.findClass RX12 = some m.cls := hown0
    refine lv_dstore (lv' := [(5, .double y_14), (4, .int r_3), (0, .ref (ad 0)), (1, .int p0), (2, .int p1), (3, .int p2)]) hx hb dX12_pointsAt_49 hl (by decide) rfl (fun ls hl => ?_)
    refine lv_sipush (v := (-2001)) hx hb dX12_pointsAt_51 (by decide) ?_
    refine lv_istore (lv' := [(7, .int (-2001)), (5, .double y_14), (4, .int r_3), (0, .ref (ad 0)), (1, .int p0), (2, .int p1), (3, .int p2)]) hx hb dX12_pointsAt_54 hl (by decide) rfl (fun ls hl => ?_)
    refine lv_sipush (v := 10001) hx hb dX12_pointsAt_56 (by decide) ?_
    refine lv_istore (lv' := [(8, .int 10001), (7, .int (-2001)), (5, .double y_14), (4, .int r_3), (0, .ref (ad 0)), (1, .int p0), (2, .int p1), (3, .int p2)]) hx hb dX12_pointsAt_59 hl (by decide) rfl (fun ls hl => ?_)
    refine (fun (h : ∀ (n : Nat) (bw : Int32) (av : Int32) (σ61x : gs) (d61 : Drawn) (H : Heap) (locs : List Loc) (ls : Array Slot), (av.toInt - bw.toInt).toNat < n → -2001 ≤ bw → av ≤ 10001 → bw < av → InvM σ61x → mFr [] [0, 1, 2, 47, 48, 49] σ σ61x → s.drawn.sameBut d61 lw_cs → va_P (dC, dI) vwCl (wM ad cA σ61x) H → va_D A (wM ad cA σ61x) → va_S A s.heap H locs → lv_has ls 10 [(8, .int av), (7, .int bw), (5, .double y_14), (4, .int r_3), (0, .ref (ad 0)), (1, .int p0), (2, .int p1), (3, .int p2)] → W p l e _ (s.setDrawn d61) m _ below meth c H locs _ _ _ (F0 m 61 ls [])) => h _ (-2001) 10001 σ3 _ _ _ _ (Nat.lt_succ_self _) (by decide) (by decide) (by decide) hIσ3 (mFr.tr frσ1 fcσ3 (by decide) (by decide)) hd0 hP hD hS (lv_sub hl [0, 1, 2, 3, 4, 5, 6, 7] rfl)) ?_
    intro n61
    induction n61 with
    | zero => intro bw av σ61x d61 H locs ls hm; exact absurd hm (Nat.not_lt_zero _)
    | succ n61 ih61 =>
      intro bw av σ61x d61 H locs ls hm61 iv61_0 iv61_1 iv61_2 hIσ61x frσ61x hd0 hP hD hS hl
      have hts := dr_words hts0 (d61)
      have hK := gKd hK0 (d61)
      have hown : (s.setDrawn (d61)).vm.findClass RX12 = some m.cls := hown0
      refine lv_iload hx hb dX12_pointsAt_61 (lv_at hl 0 rfl) ?_
      refine lv_iload hx hb dX12_pointsAt_63 (lv_at hl 1 rfl) ?_
      refine lv_isub hx hb dX12_pointsAt_65 ?_
      refine lv_topi (fun x_16 ex_16 => ?_)
      refine lv_iconst (v := 1) hx hb dX12_pointsAt_66 (by decide) ?_
      refine lv_icmp_le (tgt := 105) hx hb dX12_pointsAt_67 (by decide) (fun c_17 => ?_) (fun c_17 => ?_)
      · refine lv_aload_n hx hb dX12_pointsAt_105 rfl (lv_at hl 4 rfl) ?_
        refine lv_iload hx hb dX12_pointsAt_106 (lv_at hl 1 rfl) ?_
        refine lv_sipush (v := (-2000)) hx hb dX12_pointsAt_108 (by decide) ?_
        refine lv_icmp_ge (tgt := 120) hx hb dX12_pointsAt_111 (by decide) (fun c_18 => ?_) (fun c_18 => ?_)
        · refine lv_iload hx hb dX12_pointsAt_120 (lv_at hl 1 rfl) ?_
          have hF := gFree hD hS hA
          refine va_calliD hd0 (va_runV_D (As := [.int bw]) (rest := []) ⟨hx, hb, hml, hown, hts⟩ (n_X12_good l dC dI ad cA adK adV H.size σ61x hIσ61x bw) (cwV 1 hts gX12_pointsAt_X12_good rfl rfl rfl (by decide +kernel) ⟨Nat.le_of_ble_eq_true rfl, Nat.le_of_ble_eq_true rfl⟩) ⟨gBlind, va_recv hK hP (ci := 11) (q0 := 0) rfl (mat_11 rfl), gStart (As := [.ref (ad 0), .int bw]) hP hD hK0 hT hS hF (d61)⟩ rfl rfl hl.1 rfl (lv_room (Nat.le_of_ble_eq_true rfl)) dX12_pointsAt_122 ⟨Nat.le_of_ble_eq_true rfl, Nat.le_of_ble_eq_true rfl⟩) hS (fun q _ h => hF q h) hF (fun r_19 σ4 t H locs ht hvm hw hB hz1 hk1 hS d_20 hd0 => ?_)
          have hts := dr_words hts0 (d_20)
          have hK := gKd hK0 (d_20)
          have hown : (s.setDrawn (d_20)).vm.findClass RX12 = some m.cls := hown0
          obtain ⟨hP, hD⟩ := gBack hF ht hB
          obtain ⟨hIσ4, fcσ4, hp_21⟩ := hw
          refine W.endD hd0 ?_
          exact W.iret (v := r_19) hx hb hr (fun t ht hW => ⟨⟨r_19, σ4, rfl, ⟨hIσ4, (mFr.tr frσ61x fcσ4 (by decide) (by decide)), trivial⟩, ⟨by rw [ht]; exact hP, hD⟩⟩, hS.F ht⟩) hS.2.2 dX12_pointsAt_125
        · refine lv_ldcw (v := (-2147483648)) hx hb hown (hts (.constant RX12 424 (-2147483648)) (by decide +kernel)) dX12_pointsAt_114 ?_
          refine lv_goto (tgt := 122) hx hb dX12_pointsAt_117 (by decide) ?_
          have hF := gFree hD hS hA
          refine va_calliD hd0 (va_runV_D (As := [.int (-2147483648)]) (rest := []) ⟨hx, hb, hml, hown, hts⟩ (n_X12_good l dC dI ad cA adK adV H.size σ61x hIσ61x (-2147483648)) (cwV 1 hts gX12_pointsAt_X12_good rfl rfl rfl (by decide +kernel) ⟨Nat.le_of_ble_eq_true rfl, Nat.le_of_ble_eq_true rfl⟩) ⟨gBlind, va_recv hK hP (ci := 11) (q0 := 0) rfl (mat_11 rfl), gStart (As := [.ref (ad 0), .int (-2147483648)]) hP hD hK0 hT hS hF (d61)⟩ rfl rfl hl.1 rfl (lv_room (Nat.le_of_ble_eq_true rfl)) dX12_pointsAt_122 ⟨Nat.le_of_ble_eq_true rfl, Nat.le_of_ble_eq_true rfl⟩) hS (fun q _ h => hF q h) hF (fun r_22 σ5 t H locs ht hvm hw hB hz1 hk1 hS d_23 hd0 => ?_)
          have hts := dr_words hts0 (d_23)
          have hK := gKd hK0 (d_23)
          have hown : (s.setDrawn (d_23)).vm.findClass RX12 = some m.cls := hown0
          obtain ⟨hP, hD⟩ := gBack hF ht hB
          obtain ⟨hIσ5, fcσ5, hp_24⟩ := hw
          refine W.endD hd0 ?_
          exact W.iret (v := r_22) hx hb hr (fun t ht hW => ⟨⟨r_22, σ5, rfl, ⟨hIσ5, (mFr.tr frσ61x fcσ5 (by decide) (by decide)), trivial⟩, ⟨by rw [ht]; exact hP, hD⟩⟩, hS.F ht⟩) hS.2.2 dX12_pointsAt_125
      · refine lv_iload hx hb dX12_pointsAt_70 (lv_at hl 1 rfl) ?_
        refine lv_iload hx hb dX12_pointsAt_72 (lv_at hl 0 rfl) ?_
        refine lv_iadd hx hb dX12_pointsAt_74 ?_
        refine lv_topi (fun x_25 ex_25 => ?_)
        refine lv_iconst (v := 2) hx hb dX12_pointsAt_75 (by decide) ?_
        refine lv_idiv hx hb dX12_pointsAt_76 (by decide) ?_
        refine lv_topi (fun x_26 ex_26 => ?_)
        refine lv_istore (lv' := [(9, .int x_26), (8, .int av), (7, .int bw), (5, .double y_14), (4, .int r_3), (0, .ref (ad 0)), (1, .int p0), (2, .int p1), (3, .int p2)]) hx hb dX12_pointsAt_77 hl (by decide) rfl (fun ls hl => ?_)
        refine lv_aload_n hx hb dX12_pointsAt_79 rfl (lv_at hl 5 rfl) ?_
        refine lv_iload hx hb dX12_pointsAt_80 (lv_at hl 0 rfl) ?_
        have hF := gFree hD hS hA
        refine va_calldD hd0 (va_runV_D (As := [.int x_26]) (rest := []) ⟨hx, hb, hml, hown, hts⟩ (n_X12_cleanAt l dC dI ad cA adK adV H.size σ61x hIσ61x x_26) (cwV 1 hts gX12_pointsAt_X12_cleanAt rfl rfl rfl (by decide +kernel) ⟨Nat.le_of_ble_eq_true rfl, Nat.le_of_ble_eq_true rfl⟩) ⟨gBlind, va_recv hK hP (ci := 11) (q0 := 0) rfl (mat_11 rfl), gStart (As := [.ref (ad 0), .int x_26]) hP hD hK0 hT hS hF (d61)⟩ rfl rfl hl.1 rfl (lv_room (Nat.le_of_ble_eq_true rfl)) dX12_pointsAt_82 ⟨Nat.le_of_ble_eq_true rfl, Nat.le_of_ble_eq_true rfl⟩) hS (fun q _ h => hF q h) hF (fun r_27 σ6 t H locs ht hvm hw hB hz1 hk1 hS d_28 hd0 => ?_)
        have hts := dr_words hts0 (d_28)
        have hK := gKd hK0 (d_28)
        have hown : (s.setDrawn (d_28)).vm.findClass RX12 = some m.cls := hown0
        obtain ⟨hP, hD⟩ := gBack hF ht hB
        obtain ⟨hIσ6, hro, hp_29⟩ := hw
        subst hro
        refine lv_dload hx hb dX12_pointsAt_85 (lv_at hl 3 rfl) ?_
        refine lv_dcmp hx hb dX12_pointsAt_87 ?_
        refine lv_topi (fun x_30 _ => ?_)
        refine lv_if_lt (tgt := 98) hx hb dX12_pointsAt_88 (by decide) (fun c_31 => ?_) (fun c_31 => ?_)
        · refine lv_iload hx hb dX12_pointsAt_98 (lv_at hl 0 rfl) ?_
          refine lv_istore (lv' := [(8, .int x_26), (9, .int x_26), (7, .int bw), (5, .double y_14), (4, .int r_3), (0, .ref (ad 0)), (1, .int p0), (2, .int p1), (3, .int p2)]) hx hb dX12_pointsAt_100 hl (by decide) rfl (fun ls hl => ?_)
          refine lv_goto (tgt := 61) hx hb dX12_pointsAt_102 (by decide) ?_
          exact ih61 bw x_26 σ61x _ _ _ _ (Nat.lt_of_lt_of_le (bis iv61_0 iv61_1 iv61_2 ex_16 (Int32.not_le.mp c_17) ex_25 ex_26).2.2.2 (Nat.le_of_lt_succ hm61)) iv61_0 (Int32.le_trans (Int32.le_of_lt (bis iv61_0 iv61_1 iv61_2 ex_16 (Int32.not_le.mp c_17) ex_25 ex_26).2.1) iv61_1) (bis iv61_0 iv61_1 iv61_2 ex_16 (Int32.not_le.mp c_17) ex_25 ex_26).1 hIσ61x frσ61x hd0 hP hD hS (lv_sub hl [0, 2, 3, 4, 5, 6, 7, 8] rfl)
        · refine lv_iload hx hb dX12_pointsAt_91 (lv_at hl 0 rfl) ?_
          refine lv_istore (lv' := [(7, .int x_26), (9, .int x_26), (8, .int av), (5, .double y_14), (4, .int r_3), (0, .ref (ad 0)), (1, .int p0), (2, .int p1), (3, .int p2)]) hx hb dX12_pointsAt_93 hl (by decide) rfl (fun ls hl => ?_)
          refine lv_goto (tgt := 102) hx hb dX12_pointsAt_95 (by decide) ?_
          refine lv_goto (tgt := 61) hx hb dX12_pointsAt_102 (by decide) ?_
          exact ih61 x_26 av σ61x _ _ _ _ (Nat.lt_of_lt_of_le (bis iv61_0 iv61_1 iv61_2 ex_16 (Int32.not_le.mp c_17) ex_25 ex_26).2.2.1 (Nat.le_of_lt_succ hm61)) (Int32.le_trans iv61_0 (Int32.le_of_lt (bis iv61_0 iv61_1 iv61_2 ex_16 (Int32.not_le.mp c_17) ex_25 ex_26).1)) iv61_1 (bis iv61_0 iv61_1 iv61_2 ex_16 (Int32.not_le.mp c_17) ex_25 ex_26).2.1 hIσ61x frσ61x hd0 hP hD hS (lv_sub hl [2, 0, 3, 4, 5, 6, 7, 8] rfl)
  · refine lv_aload_n hx hb dX12_pointsAt_26 rfl (lv_at hl 1 rfl) ?_
    refine lv_iload hx hb dX12_pointsAt_27 (lv_at hl 0 rfl) ?_
    have hF := gFree hD hS hA
    refine va_calliD hd0 (va_runV_D (As := [.int r_3]) (rest := []) ⟨hx, hb, hml, hown, hts⟩ (n_X12_refused l dC dI ad cA adK adV H.size σ1 hIσ1 r_3) (cwV 1 hts gX12_pointsAt_X12_refused rfl rfl rfl (by decide +kernel) ⟨Nat.le_of_ble_eq_true rfl, Nat.le_of_ble_eq_true rfl⟩) ⟨gBlind, va_recv hK hP (ci := 11) (q0 := 0) rfl (mat_11 rfl), gStart (As := [.ref (ad 0), .int r_3]) hP hD hK0 hT hS hF (d_4)⟩ rfl rfl hl.1 rfl (lv_room (Nat.le_of_ble_eq_true rfl)) dX12_pointsAt_29 ⟨Nat.le_of_ble_eq_true rfl, Nat.le_of_ble_eq_true rfl⟩) hS (fun q _ h => hF q h) hF (fun r_32 σ7 t H locs ht hvm hw hB hz1 hk1 hS d_33 hd0 => ?_)
    have hts := dr_words hts0 (d_33)
    have hK := gKd hK0 (d_33)
    have hown : (s.setDrawn (d_33)).vm.findClass RX12 = some m.cls := hown0
    obtain ⟨hP, hD⟩ := gBack hF ht hB
    obtain ⟨hIσ7, fcσ7, hp_34⟩ := hw
    refine lv_pop hx hb dX12_pointsAt_32 rfl ?_
    refine lv_ldcw (v := (-2147483648)) hx hb hown (hts (.constant RX12 424 (-2147483648)) (by decide +kernel)) dX12_pointsAt_33 ?_
    refine W.endD hd0 ?_
    exact W.iret (v := (-2147483648)) hx hb hr (fun t ht hW => ⟨⟨(-2147483648), σ7, rfl, ⟨hIσ7, (mFr.tr frσ1 fcσ7 (by decide) (by decide)), trivial⟩, ⟨by rw [ht]; exact hP, hD⟩⟩, hS.F ht⟩) hS.2.2 dX12_pointsAt_36
set_option maxHeartbeats 8000000 in
set_option maxRecDepth 100000 in
theorem n_X12_offsFrom (l : Launch) (dC : Nat → ClassId) (dI : Nat → Nat → Nat) (ad : Nat → Nat) (cA : Nat → ClassId) (adK adV : Nat → Nat) (sz : Nat) (σ : gs) (hI : InvM σ) (p0 : Int32) (p1 : Int32) (hh0 : 0 ≤ p0) (hh1 : p1 ≤ 2000) (hh2 : Deep σ) : MetD lw_cs l yX12_offsFrom wsX12_offsFrom ({ frames := 7, cells := 0, slots := 0, locals := 181 }) (va_Pc [.ref (ad 0), .int p0, .int p1] (gPre adK adV (dC, dI) (wM ad cA σ) (tM cA) sz)) (va_Qv (fun (τ : gs) => InvM τ ∧ mFr [64] [47, 48, 49] σ τ ∧ (True)) (fun τ t => gPost (dC, dI) (va_A (wM ad cA σ) sz) (wM ad cA τ) t) (va_A (wM ad cA σ) sz)) 0 0 (va_A (wM ad cA σ) sz) := by
  refine MetD.ofW (cc := cX12_offsFrom) (maxL := 13) (ret := none) (by decide) rfl ?_
  intro p e s m args below meth c s₁ B hml hv hd0
  obtain ⟨rfl, hsz, hP, hK, hD0, hT⟩ := hv
  have hx := B.exec
  have hb := B.bytes
  have hr := B.returns
  have hts0 := atoms_spec (ws := wsX12_offsFrom) B.pre
  have hK0 := hK
  have hown0 : s.vm.findClass RX12 = some m.cls := findClass_of_methodNamed B.named
  have hlocks := B.notSynchronized
  have hinX12 : ∀ w ∈ u_ws RX12 TX12 69, w ∈ wsX12_offsFrom := (fun _ h9 => List.mem_cons_of_mem _ (List.mem_append_right _ h9))
  subst hsz
  have hD := hD0.self (sz := s.heap.size)
  generalize hAe : va_A (wM ad cA σ) s.heap.size = A at hD hT ⊢
  have hA : ∀ q : Nat, s.heap.size ≤ q → A q := fun q h => by rw [← hAe]; exact Or.inr h
  have hS : va_S A s.heap s.heap [] := va_S.rf
  have hl := lv_entry ([.ref (ad 0), .int p0, .int p1]) (n := 13) (Nat.le_of_ble_eq_true rfl)
  rw [lg_entry_eq]
  generalize (lg_sl ([.ref (ad 0), .int p0, .int p1]) ++ List.replicate (13 - (lg_sl ([.ref (ad 0), .int p0, .int p1])).length) Slot.unset).toArray = ls at hl ⊢
  have hl : lv_has ls 13 [(0, .ref (ad 0)), (1, .int p0), (2, .int p1)] := hl
  have hts := dr_words hts0 (s.drawn)
  have hK := gKd hK0 (s.drawn)
  have hown : (s.setDrawn (s.drawn)).vm.findClass RX12 = some m.cls := hown0
  refine lv_iload_n hx hb dX12_offsFrom_0 rfl (lv_at hl 1 rfl) ?_
  refine lv_istore_n (lv' := [(3, .int p0), (0, .ref (ad 0)), (1, .int p0), (2, .int p1)]) hx hb dX12_offsFrom_1 rfl hl (by decide) rfl (fun ls hl => ?_)
  refine (fun (h : ∀ (n : Nat) (z3 : Int32) (σ2x : gs) (d2 : Drawn) (H : Heap) (locs : List Loc) (ls : Array Slot), ((2001 : Int32).toInt - z3.toInt).toNat < n → 0 ≤ z3 → InvM σ2x → mFr [64] [47, 48, 49] σ σ2x → s.drawn.sameBut d2 lw_cs → va_P (dC, dI) vwCl (wM ad cA σ2x) H → va_D A (wM ad cA σ2x) → va_S A s.heap H locs → lv_has ls 13 [(3, .int z3), (0, .ref (ad 0)), (1, .int p0), (2, .int p1)] → W p l e _ (s.setDrawn d2) m _ below meth c H locs _ _ _ (F0 m 2 ls [])) => h _ p0 σ _ _ _ _ (Nat.lt_succ_self _) hh0 hI (mFr.rfl (L := [64]) (F := [47, 48, 49]) (σ := σ)) hd0 hP hD hS (lv_sub hl [0, 1, 2, 3] rfl)) ?_
  intro n2
  induction n2 with
  | zero => intro z3 σ2x d2 H locs ls hm; exact absurd hm (Nat.not_lt_zero _)
  | succ n2 ih2 =>
    intro z3 σ2x d2 H locs ls hm2 iv2_0 hIσ2x frσ2x hd0 hP hD hS hl
    have hts := dr_words hts0 (d2)
    have hK := gKd hK0 (d2)
    have hown : (s.setDrawn (d2)).vm.findClass RX12 = some m.cls := hown0
    refine lv_iload_n hx hb dX12_offsFrom_2 rfl (lv_at hl 0 rfl) ?_
    refine lv_iload_n hx hb dX12_offsFrom_3 rfl (lv_at hl 3 rfl) ?_
    refine lv_icmp_gt (tgt := 20) hx hb dX12_offsFrom_4 (by decide) (fun c_1 => ?_) (fun c_1 => ?_)
    · refine lv_iconst (v := 0) hx hb dX12_offsFrom_20 (by decide) ?_
      refine lv_istore_n (lv' := [(3, .int 0), (0, .ref (ad 0)), (1, .int p0), (2, .int p1)]) hx hb dX12_offsFrom_21 rfl hl (by decide) rfl (fun ls hl => ?_)
      refine (fun (h : ∀ (n : Nat) (i3 : Int32) (σ22x : gs) (d22 : Drawn) (H : Heap) (locs : List Loc) (ls : Array Slot), ((6 : Int32).toInt - i3.toInt).toNat < n → 0 ≤ i3 → InvM σ22x → mFr [64] [47, 48, 49] σ σ22x → s.drawn.sameBut d22 lw_cs → va_P (dC, dI) vwCl (wM ad cA σ22x) H → va_D A (wM ad cA σ22x) → va_S A s.heap H locs → lv_has ls 13 [(3, .int i3), (0, .ref (ad 0)), (1, .int p0), (2, .int p1)] → W p l e _ (s.setDrawn d22) m _ below meth c H locs _ _ _ (F0 m 22 ls [])) => h _ 0 σ2x _ _ _ _ (Nat.lt_succ_self _) (by decide) hIσ2x frσ2x hd0 hP hD hS (lv_sub hl [0, 1, 2, 3] rfl)) ?_
      intro n22
      induction n22 with
      | zero => intro i3 σ22x d22 H locs ls hm; exact absurd hm (Nat.not_lt_zero _)
      | succ n22 ih22 =>
        intro i3 σ22x d22 H locs ls hm22 iv22_0 hIσ22x frσ22x hd0 hP hD hS hl
        have hts := dr_words hts0 (d22)
        have hK := gKd hK0 (d22)
        have hown : (s.setDrawn (d22)).vm.findClass RX12 = some m.cls := hown0
        refine lv_iload_n hx hb dX12_offsFrom_22 rfl (lv_at hl 0 rfl) ?_
        refine lv_aload_n hx hb dX12_offsFrom_23 rfl (lv_at hl 1 rfl) ?_
        have bd_2 := mrd_11_21 (c := 0) hI rfl
        refine va_get (D := (dC, dI)) (ci := 11) (v := .int ((σ 0).1 21)) (C := RX12) (T := TX12) (N := 69) hx hb hts hinX12 hown hK hP 0 (mat_11 rfl) rfl 21 (by decide) (hts (.fieldLink RX12 364 "BondCalendarsModel" "quotes" "I") (by decide +kernel)) (fun _ h9 => h9) (congrArg (fun z => some (Value.int z)) (show (σ22x 0).1 21 = ((σ 0).1 21) from by rw [frσ22x.2 21 (by decide)])) dX12_offsFrom_24 ?_
        refine lv_icmp_ge (tgt := 132) hx hb dX12_offsFrom_27 (by decide) (fun c_3 => ?_) (fun c_3 => ?_)
        · refine W.endD hd0 ?_
          exact W.vret hx hb hr (fun t ht hW => ⟨⟨σ22x, rfl, ⟨hIσ22x, frσ22x, trivial⟩, ⟨by rw [ht]; exact hP, hD⟩⟩, hS.F ht⟩) hS.2.2 dX12_offsFrom_132
        · refine lv_aload_n hx hb dX12_offsFrom_30 rfl (lv_at hl 1 rfl) ?_
          refine lv_aload_n hx hb dX12_offsFrom_31 rfl (lv_at hl 1 rfl) ?_
          refine va_get (D := (dC, dI)) (ci := 11) (v := .ref (ad 11)) (C := RX12) (T := TX12) (N := 69) hx hb hts hinX12 hown hK hP 0 (mat_11 rfl) rfl 15 (by decide) (hts (.fieldLink RX12 45 "BondCalendarsModel" "quoteBond" "[I") (by decide +kernel)) (fun _ h9 => h9) rfl dX12_offsFrom_32 ?_
          refine lv_iload_n hx hb dX12_offsFrom_35 rfl (lv_at hl 0 rfl) ?_
          refine va_iald hx hb hK hP 11 11 (mat_51 rfl) (mty_51 rfl) (gin (N := 12) (by decide) iv22_0 (Int32.lt_trans (Int32.lt_of_lt_of_le (Int32.not_le.mp c_3) bd_2.2) (show (6 : Int32) < 12 by decide))) dX12_offsFrom_36 ?_
          refine lv_topi (fun x_4 ex_4 => ?_)
          have ex_4 : x_4 = ((σ 11).1 i3.toNatClampNeg) := by rw [ex_4, frσ22x.1 11 (by decide) (by decide)]
          refine lv_aload_n hx hb dX12_offsFrom_37 rfl (lv_at hl 1 rfl) ?_
          refine va_get (D := (dC, dI)) (ci := 11) (v := .ref (ad 12)) (C := RX12) (T := TX12) (N := 69) hx hb hts hinX12 hown hK hP 0 (mat_11 rfl) rfl 16 (by decide) (hts (.fieldLink RX12 48 "BondCalendarsModel" "quoteDate" "[I") (by decide +kernel)) (fun _ h9 => h9) rfl dX12_offsFrom_38 ?_
          refine lv_iload_n hx hb dX12_offsFrom_41 rfl (lv_at hl 0 rfl) ?_
          refine va_iald hx hb hK hP 12 12 (mat_52 rfl) (mty_52 rfl) (gin (N := 12) (by decide) iv22_0 (Int32.lt_trans (Int32.lt_of_lt_of_le (Int32.not_le.mp c_3) bd_2.2) (show (6 : Int32) < 12 by decide))) dX12_offsFrom_42 ?_
          refine lv_topi (fun x_5 ex_5 => ?_)
          have ex_5 : x_5 = ((σ 12).1 i3.toNatClampNeg) := by rw [ex_5, frσ22x.1 12 (by decide) (by decide)]
          have qd_6 := qd_lt (hh2.2.1 _ (nc_lt iv22_0 (Int32.not_le.mp c_3))) ex_4 ex_5
          have bd_7 := mrd_11_20 (c := 0) hI rfl
          have hF := gFree hD hS hA
          refine va_callvD hd0 (va_runV_D (As := [.int x_4, .int x_5]) (rest := []) ⟨hx, hb, hml, hown, hts⟩ (n_X12_settles l dC dI ad cA adK adV H.size σ22x hIσ22x x_4 x_5 qd_6.1 (Int32.lt_of_lt_of_le qd_6.2.1 bd_7.2) ((Deep.fr hh2 (by rw [frσ22x.1 2 (by decide) (by decide)]) (by rw [frσ22x.1 4 (by decide) (by decide)]) (by rw [frσ22x.1 9 (by decide) (by decide)]) (by rw [frσ22x.1 11 (by decide) (by decide)]) (by rw [frσ22x.1 12 (by decide) (by decide)]) (by rw [frσ22x.1 17 (by decide) (by decide)]) (by rw [frσ22x.1 18 (by decide) (by decide)]) (by rw [frσ22x.2 20 (by decide)]) (by rw [frσ22x.2 21 (by decide)]) (by rw [frσ22x.2 28 (by decide)]) (by rw [frσ22x.2 64 (by decide)]) (by rw [frσ22x.2 65 (by decide)]) (by rw [frσ22x.2 68 (by decide)])).1 _ (nc_lt qd_6.1 (lt_ch (Eq.refl _) (show ((σ22x 0).1 20 : Int32) = ((σ 0).1 20 : Int32) from by rw [frσ22x.2 20 (by decide)]) qd_6.2.1))).1 ((Deep.fr hh2 (by rw [frσ22x.1 2 (by decide) (by decide)]) (by rw [frσ22x.1 4 (by decide) (by decide)]) (by rw [frσ22x.1 9 (by decide) (by decide)]) (by rw [frσ22x.1 11 (by decide) (by decide)]) (by rw [frσ22x.1 12 (by decide) (by decide)]) (by rw [frσ22x.1 17 (by decide) (by decide)]) (by rw [frσ22x.1 18 (by decide) (by decide)]) (by rw [frσ22x.2 20 (by decide)]) (by rw [frσ22x.2 21 (by decide)]) (by rw [frσ22x.2 28 (by decide)]) (by rw [frσ22x.2 64 (by decide)]) (by rw [frσ22x.2 65 (by decide)]) (by rw [frσ22x.2 68 (by decide)])).1 _ (nc_lt qd_6.1 (lt_ch (Eq.refl _) (show ((σ22x 0).1 20 : Int32) = ((σ 0).1 20 : Int32) from by rw [frσ22x.2 20 (by decide)]) qd_6.2.1))).2.1 (lt_ch (Eq.refl _) (show ((σ22x 4).1 x_4.toNatClampNeg : Int32) = ((σ 4).1 x_4.toNatClampNeg : Int32) from by rw [frσ22x.1 4 (by decide) (by decide)]) qd_6.2.2)) (cwV 2 hts gX12_offsFrom_X12_settles rfl rfl rfl (by decide +kernel) ⟨Nat.le_of_ble_eq_true rfl, Nat.le_of_ble_eq_true rfl⟩) ⟨gBlind, va_recv hK hP (ci := 11) (q0 := 0) rfl (mat_11 rfl), gStart (As := [.ref (ad 0), .int x_4, .int x_5]) hP hD hK0 hT hS hF (d22)⟩ rfl rfl hl.1 rfl (lv_room (Nat.le_of_ble_eq_true rfl)) dX12_offsFrom_43 ⟨Nat.le_of_ble_eq_true rfl, Nat.le_of_ble_eq_true rfl⟩) hS (fun q _ h => hF q h) hF (fun σ1 t H locs ht hvm hw hB hz1 hk1 hS d_9 hd0 => ?_)
          have hts := dr_words hts0 (d_9)
          have hK := gKd hK0 (d_9)
          have hown : (s.setDrawn (d_9)).vm.findClass RX12 = some m.cls := hown0
          obtain ⟨hP, hD⟩ := gBack hF ht hB
          obtain ⟨hIσ1, fcσ1, hp_10⟩ := hw
          refine lv_aload_n hx hb dX12_offsFrom_46 rfl (lv_at hl 1 rfl) ?_
          refine va_get (D := (dC, dI)) (ci := 11) (v := .ref (ad 13)) (C := RX12) (T := TX12) (N := 69) hx hb hts hinX12 hown hK hP 0 (mat_11 rfl) rfl 17 (by decide) (hts (.fieldLink RX12 51 "BondCalendarsModel" "quotePrice" "[I") (by decide +kernel)) (fun _ h9 => h9) rfl dX12_offsFrom_47 ?_
          refine lv_iload_n hx hb dX12_offsFrom_50 rfl (lv_at hl 0 rfl) ?_
          refine va_iald hx hb hK hP 13 13 (mat_53 rfl) (mty_53 rfl) (gin (N := 12) (by decide) iv22_0 (Int32.lt_trans (Int32.lt_of_lt_of_le (Int32.not_le.mp c_3) bd_2.2) (show (6 : Int32) < 12 by decide))) dX12_offsFrom_51 ?_
          refine lv_topi (fun x_11 ex_11 => ?_)
          have ex_11 : x_11 = ((σ 13).1 i3.toNatClampNeg) := by rw [ex_11, fcσ1.1 13 (by decide) (by decide), frσ22x.1 13 (by decide) (by decide)]
          refine lv_i2d hx hb dX12_offsFrom_52 ?_
          refine lv_topd (fun y_12 _ => ?_)
          refine lv_ldc2d (v := 4636737291354636288) hx hb hown (hts (.constantDouble RX12 503 (4636737291354636288)) (by decide +kernel)) dX12_offsFrom_53 ?_
          refine lv_ddiv_any hd0 lw_bits hx hb dX12_offsFrom_56 (fun y_13 d_14 _ hd0 => ?_)
          have hts := dr_words hts0 (d_14)
          have hK := gKd hK0 (d_14)
          have hown : (s.setDrawn (d_14)).vm.findClass RX12 = some m.cls := hown0
          refine lv_dstore (lv' := [(4, .double y_13), (3, .int i3), (0, .ref (ad 0)), (1, .int p0), (2, .int p1)]) hx hb dX12_offsFrom_57 hl (by decide) rfl (fun ls hl => ?_)
          refine lv_iload_n hx hb dX12_offsFrom_59 rfl (lv_at hl 3 rfl) ?_
          refine lv_istore (lv' := [(6, .int p0), (4, .double y_13), (3, .int i3), (0, .ref (ad 0)), (1, .int p0), (2, .int p1)]) hx hb dX12_offsFrom_60 hl (by decide) rfl (fun ls hl => ?_)
          refine (fun (h : ∀ (n : Nat) (z6 : Int32) (σ62x : gs) (d62 : Drawn) (H : Heap) (locs : List Loc) (ls : Array Slot), ((2001 : Int32).toInt - z6.toInt).toNat < n → 0 ≤ z6 → InvM σ62x → mFr [64] [47, 48, 49] σ σ62x → s.drawn.sameBut d62 lw_cs → va_P (dC, dI) vwCl (wM ad cA σ62x) H → va_D A (wM ad cA σ62x) → va_S A s.heap H locs → lv_has ls 13 [(6, .int z6), (4, .double y_13), (3, .int i3), (0, .ref (ad 0)), (1, .int p0), (2, .int p1)] → W p l e _ (s.setDrawn d62) m _ below meth c H locs _ _ _ (F0 m 62 ls [])) => h _ p0 σ1 _ _ _ _ (Nat.lt_succ_self _) hh0 hIσ1 (mFr.tr frσ22x fcσ1 (by decide) (by decide)) hd0 hP hD hS (lv_sub hl [0, 1, 2, 3, 4, 5] rfl)) ?_
          intro n62
          induction n62 with
          | zero => intro z6 σ62x d62 H locs ls hm; exact absurd hm (Nat.not_lt_zero _)
          | succ n62 ih62 =>
            intro z6 σ62x d62 H locs ls hm62 iv62_0 hIσ62x frσ62x hd0 hP hD hS hl
            have hts := dr_words hts0 (d62)
            have hK := gKd hK0 (d62)
            have hown : (s.setDrawn (d62)).vm.findClass RX12 = some m.cls := hown0
            refine lv_iload hx hb dX12_offsFrom_62 (lv_at hl 0 rfl) ?_
            refine lv_iload_n hx hb dX12_offsFrom_64 rfl (lv_at hl 5 rfl) ?_
            refine lv_icmp_gt (tgt := 126) hx hb dX12_offsFrom_65 (by decide) (fun c_15 => ?_) (fun c_15 => ?_)
            · obtain ⟨x_16, ex_16⟩ : ∃ zz : Int32, zz = i3 + 1 := ⟨_, rfl⟩
              refine lv_iinc (v := x_16) (lv' := [(3, .int x_16), (6, .int z6), (4, .double y_13), (0, .ref (ad 0)), (1, .int p0), (2, .int p1)]) hx hb dX12_offsFrom_126 hl (k := 2) rfl (by rw [ex_16]; rfl) (by decide) rfl (fun ls hl => ?_)
              refine lv_goto (tgt := 22) hx hb dX12_offsFrom_129 (by decide) ?_
              exact ih22 x_16 σ62x _ _ _ _ (cnt_m iv22_0 (Int32.lt_of_lt_of_le (Int32.not_le.mp c_3) bd_2.2) hm22 ex_16) (cnt_0 iv22_0 (Int32.lt_of_lt_of_le (Int32.not_le.mp c_3) bd_2.2) ex_16) hIσ62x frσ62x hd0 hP hD hS (lv_sub hl [0, 3, 4, 5] rfl)
            · refine lv_aload_n hx hb dX12_offsFrom_68 rfl (lv_at hl 3 rfl) ?_
              refine lv_iload hx hb dX12_offsFrom_69 (lv_at hl 0 rfl) ?_
              have hF := gFree hD hS hA
              refine va_calldD hd0 (va_runV_D (As := [.int z6]) (rest := []) ⟨hx, hb, hml, hown, hts⟩ (n_X12_cleanAt l dC dI ad cA adK adV H.size σ62x hIσ62x z6) (cwV 1 hts gX12_offsFrom_X12_cleanAt rfl rfl rfl (by decide +kernel) ⟨Nat.le_of_ble_eq_true rfl, Nat.le_of_ble_eq_true rfl⟩) ⟨gBlind, va_recv hK hP (ci := 11) (q0 := 0) rfl (mat_11 rfl), gStart (As := [.ref (ad 0), .int z6]) hP hD hK0 hT hS hF (d62)⟩ rfl rfl hl.1 rfl (lv_room (Nat.le_of_ble_eq_true rfl)) dX12_offsFrom_71 ⟨Nat.le_of_ble_eq_true rfl, Nat.le_of_ble_eq_true rfl⟩) hS (fun q _ h => hF q h) hF (fun r_17 σ2 t H locs ht hvm hw hB hz1 hk1 hS d_18 hd0 => ?_)
              have hts := dr_words hts0 (d_18)
              have hK := gKd hK0 (d_18)
              have hown : (s.setDrawn (d_18)).vm.findClass RX12 = some m.cls := hown0
              obtain ⟨hP, hD⟩ := gBack hF ht hB
              obtain ⟨hIσ2, hro, hp_19⟩ := hw
              subst hro
              refine lv_dstore (lv' := [(7, .double r_17), (6, .int z6), (4, .double y_13), (3, .int i3), (0, .ref (ad 0)), (1, .int p0), (2, .int p1)]) hx hb dX12_offsFrom_74 hl (by decide) rfl (fun ls hl => ?_)
              refine lv_dload hx hb dX12_offsFrom_76 (lv_at hl 0 rfl) ?_
              refine lv_dload hx hb dX12_offsFrom_78 (lv_at hl 2 rfl) ?_
              refine lv_dsub_any hd0 lw_bits hx hb dX12_offsFrom_80 (fun y_20 d_21 _ hd0 => ?_)
              have hts := dr_words hts0 (d_21)
              have hK := gKd hK0 (d_21)
              have hown : (s.setDrawn (d_21)).vm.findClass RX12 = some m.cls := hown0
              refine lv_dstore (lv' := [(9, .double y_20), (7, .double r_17), (6, .int z6), (4, .double y_13), (3, .int i3), (0, .ref (ad 0)), (1, .int p0), (2, .int p1)]) hx hb dX12_offsFrom_81 hl (by decide) rfl (fun ls hl => ?_)
              refine lv_dload hx hb dX12_offsFrom_83 (lv_at hl 3 rfl) ?_
              refine lv_dload hx hb dX12_offsFrom_85 (lv_at hl 1 rfl) ?_
              refine lv_dsub_any hd0 lw_bits hx hb dX12_offsFrom_87 (fun y_22 d_23 _ hd0 => ?_)
              have hts := dr_words hts0 (d_23)
              have hK := gKd hK0 (d_23)
              have hown : (s.setDrawn (d_23)).vm.findClass RX12 = some m.cls := hown0
              refine lv_dstore (lv' := [(11, .double y_22), (9, .double y_20), (7, .double r_17), (6, .int z6), (4, .double y_13), (3, .int i3), (0, .ref (ad 0)), (1, .int p0), (2, .int p1)]) hx hb dX12_offsFrom_88 hl (by decide) rfl (fun ls hl => ?_)
              refine lv_aload_n hx hb dX12_offsFrom_90 rfl (lv_at hl 6 rfl) ?_
              refine va_get (D := (dC, dI)) (ci := 11) (v := .ref (ad 24)) (C := RX12) (T := TX12) (N := 69) hx hb hts hinX12 hown hK hP 0 (mat_11 rfl) rfl 57 (by decide) (hts (.fieldLink RX12 86 "BondCalendarsModel" "offs" "[D") (by decide +kernel)) (fun _ h9 => h9) rfl dX12_offsFrom_91 ?_
              refine lv_iload hx hb dX12_offsFrom_94 (lv_at hl 3 rfl) ?_
              refine lv_aload_n hx hb dX12_offsFrom_96 rfl (lv_at hl 6 rfl) ?_
              refine va_get (D := (dC, dI)) (ci := 11) (v := .ref (ad 24)) (C := RX12) (T := TX12) (N := 69) hx hb hts hinX12 hown hK hP 0 (mat_11 rfl) rfl 57 (by decide) (hts (.fieldLink RX12 86 "BondCalendarsModel" "offs" "[D") (by decide +kernel)) (fun _ h9 => h9) rfl dX12_offsFrom_97 ?_
              refine lv_iload hx hb dX12_offsFrom_100 (lv_at hl 3 rfl) ?_
              refine va_dald hx hb hK hP 24 24 (mat_64 rfl) (mty_64 rfl) (gin (N := 2001) (by decide) iv62_0 (Int32.lt_of_le_of_lt (Int32.le_trans (Int32.not_lt.mp c_15) hh1) (show (2000 : Int32) < 2001 by decide))) dX12_offsFrom_102 ?_
              refine lv_topd (fun y_24 _ => ?_)
              refine lv_dload hx hb dX12_offsFrom_103 (lv_at hl 1 rfl) ?_
              refine lv_dload hx hb dX12_offsFrom_105 (lv_at hl 0 rfl) ?_
              refine lv_dcmp hx hb dX12_offsFrom_107 ?_
              refine lv_topi (fun x_25 _ => ?_)
              refine lv_if_le (tgt := 116) hx hb dX12_offsFrom_108 (by decide) (fun c_26 => ?_) (fun c_26 => ?_)
              · refine lv_dload hx hb dX12_offsFrom_116 (lv_at hl 0 rfl) ?_
                refine lv_dadd_any hd0 lw_bits hx hb dX12_offsFrom_118 (fun y_27 d_28 _ hd0 => ?_)
                have hts := dr_words hts0 (d_28)
                have hK := gKd hK0 (d_28)
                have hown : (s.setDrawn (d_28)).vm.findClass RX12 = some m.cls := hown0
                refine va_dast hx hb hK hP hD hS 24 24 (mat_64 rfl) (mty_64 rfl) (gin (N := 2001) (by decide) iv62_0 (Int32.lt_of_le_of_lt (Int32.le_trans (Int32.not_lt.mp c_15) hh1) (show (2000 : Int32) < 2001 by decide))) dX12_offsFrom_119 (fun H locs hP hD hS => ?_)
                obtain ⟨σ3, eσ3, hP, hD⟩ := gPut (mse_64 rfl) hP hD
                have hIσ3 : InvM σ3 := by rw [eσ3]; exact minv_D hIσ62x
                have frσ3 : mFr [64] [47, 48, 49] σ σ3 := by rw [eσ3]; exact mFr.aD frσ62x (by decide) (by decide)
                obtain ⟨x_29, ex_29⟩ : ∃ zz : Int32, zz = z6 + 1 := ⟨_, rfl⟩
                refine lv_iinc (v := x_29) (lv' := [(6, .int x_29), (11, .double y_22), (9, .double y_20), (7, .double r_17), (4, .double y_13), (3, .int i3), (0, .ref (ad 0)), (1, .int p0), (2, .int p1)]) hx hb dX12_offsFrom_120 hl (k := 3) rfl (by rw [ex_29]; rfl) (by decide) rfl (fun ls hl => ?_)
                refine lv_goto (tgt := 62) hx hb dX12_offsFrom_123 (by decide) ?_
                exact ih62 x_29 σ3 _ _ _ _ (cnt_m iv62_0 (Int32.lt_of_le_of_lt (Int32.le_trans (Int32.not_lt.mp c_15) hh1) (show (2000 : Int32) < 2001 by decide)) hm62 ex_29) (cnt_0 iv62_0 (Int32.lt_of_le_of_lt (Int32.le_trans (Int32.not_lt.mp c_15) hh1) (show (2000 : Int32) < 2001 by decide)) ex_29) hIσ3 frσ3 hd0 hP hD hS (lv_sub hl [0, 4, 5, 6, 7, 8] rfl)
              · refine lv_dload hx hb dX12_offsFrom_111 (lv_at hl 1 rfl) ?_
                refine lv_goto (tgt := 118) hx hb dX12_offsFrom_113 (by decide) ?_
                refine lv_dadd_any hd0 lw_bits hx hb dX12_offsFrom_118 (fun y_30 d_31 _ hd0 => ?_)
                have hts := dr_words hts0 (d_31)
                have hK := gKd hK0 (d_31)
                have hown : (s.setDrawn (d_31)).vm.findClass RX12 = some m.cls := hown0
                refine va_dast hx hb hK hP hD hS 24 24 (mat_64 rfl) (mty_64 rfl) (gin (N := 2001) (by decide) iv62_0 (Int32.lt_of_le_of_lt (Int32.le_trans (Int32.not_lt.mp c_15) hh1) (show (2000 : Int32) < 2001 by decide))) dX12_offsFrom_119 (fun H locs hP hD hS => ?_)
                obtain ⟨σ4, eσ4, hP, hD⟩ := gPut (mse_64 rfl) hP hD
                have hIσ4 : InvM σ4 := by rw [eσ4]; exact minv_D hIσ62x
                have frσ4 : mFr [64] [47, 48, 49] σ σ4 := by rw [eσ4]; exact mFr.aD frσ62x (by decide) (by decide)
                obtain ⟨x_32, ex_32⟩ : ∃ zz : Int32, zz = z6 + 1 := ⟨_, rfl⟩
                refine lv_iinc (v := x_32) (lv' := [(6, .int x_32), (11, .double y_22), (9, .double y_20), (7, .double r_17), (4, .double y_13), (3, .int i3), (0, .ref (ad 0)), (1, .int p0), (2, .int p1)]) hx hb dX12_offsFrom_120 hl (k := 3) rfl (by rw [ex_32]; rfl) (by decide) rfl (fun ls hl => ?_)
                refine lv_goto (tgt := 62) hx hb dX12_offsFrom_123 (by decide) ?_
                exact ih62 x_32 σ4 _ _ _ _ (cnt_m iv62_0 (Int32.lt_of_le_of_lt (Int32.le_trans (Int32.not_lt.mp c_15) hh1) (show (2000 : Int32) < 2001 by decide)) hm62 ex_32) (cnt_0 iv62_0 (Int32.lt_of_le_of_lt (Int32.le_trans (Int32.not_lt.mp c_15) hh1) (show (2000 : Int32) < 2001 by decide)) ex_32) hIσ4 frσ4 hd0 hP hD hS (lv_sub hl [0, 4, 5, 6, 7, 8] rfl)
    · refine lv_aload_n hx hb dX12_offsFrom_7 rfl (lv_at hl 1 rfl) ?_
      refine va_get (D := (dC, dI)) (ci := 11) (v := .ref (ad 24)) (C := RX12) (T := TX12) (N := 69) hx hb hts hinX12 hown hK hP 0 (mat_11 rfl) rfl 57 (by decide) (hts (.fieldLink RX12 86 "BondCalendarsModel" "offs" "[D") (by decide +kernel)) (fun _ h9 => h9) rfl dX12_offsFrom_8 ?_
      refine lv_iload_n hx hb dX12_offsFrom_11 rfl (lv_at hl 0 rfl) ?_
      refine lv_dconst0 hx hb dX12_offsFrom_12 ?_
      refine va_dast hx hb hK hP hD hS 24 24 (mat_64 rfl) (mty_64 rfl) (gin (N := 2001) (by decide) iv2_0 (Int32.lt_of_le_of_lt (Int32.le_trans (Int32.not_lt.mp c_1) hh1) (show (2000 : Int32) < 2001 by decide))) dX12_offsFrom_13 (fun H locs hP hD hS => ?_)
      obtain ⟨σ5, eσ5, hP, hD⟩ := gPut (mse_64 rfl) hP hD
      have hIσ5 : InvM σ5 := by rw [eσ5]; exact minv_D hIσ2x
      have frσ5 : mFr [64] [47, 48, 49] σ σ5 := by rw [eσ5]; exact mFr.aD frσ2x (by decide) (by decide)
      obtain ⟨x_33, ex_33⟩ : ∃ zz : Int32, zz = z3 + 1 := ⟨_, rfl⟩
      refine lv_iinc (v := x_33) (lv' := [(3, .int x_33), (0, .ref (ad 0)), (1, .int p0), (2, .int p1)]) hx hb dX12_offsFrom_14 hl (k := 0) rfl (by rw [ex_33]; rfl) (by decide) rfl (fun ls hl => ?_)
      refine lv_goto (tgt := 2) hx hb dX12_offsFrom_17 (by decide) ?_
      exact ih2 x_33 σ5 _ _ _ _ (cnt_m iv2_0 (Int32.lt_of_le_of_lt (Int32.le_trans (Int32.not_lt.mp c_1) hh1) (show (2000 : Int32) < 2001 by decide)) hm2 ex_33) (cnt_0 iv2_0 (Int32.lt_of_le_of_lt (Int32.le_trans (Int32.not_lt.mp c_1) hh1) (show (2000 : Int32) < 2001 by decide)) ex_33) hIσ5 frσ5 hd0 hP hD hS (lv_sub hl [0, 1, 2, 3] rfl)
set_option maxHeartbeats 8000000 in
set_option maxRecDepth 100000 in
theorem n_X12_off (l : Launch) (dC : Nat → ClassId) (dI : Nat → Nat → Nat) (ad : Nat → Nat) (cA : Nat → ClassId) (adK adV : Nat → Nat) (sz : Nat) (σ : gs) (hI : InvM σ) (p0 : Int32) (hh0 : Deep σ) : MetD lw_cs l yX12_off wsX12_off ({ frames := 8, cells := 0, slots := 0, locals := 213 }) (va_Pc [.ref (ad 0), .int p0] (gPre adK adV (dC, dI) (wM ad cA σ) (tM cA) sz)) (va_Ql (fun (r : Int64) (τ : gs) => InvM τ ∧ mFr [64] [0, 1, 2, 47, 48, 49] σ τ ∧ (True)) (fun τ t => gPost (dC, dI) (va_A (wM ad cA σ) sz) (wM ad cA τ) t) (va_A (wM ad cA σ) sz)) 0 0 (va_A (wM ad cA σ) sz) := by
  refine MetD.ofW (cc := cX12_off) (maxL := 2) (ret := (some .long)) (by decide) rfl ?_
  intro p e s m args below meth c s₁ B hml hv hd0
  obtain ⟨rfl, hsz, hP, hK, hD0, hT⟩ := hv
  have hx := B.exec
  have hb := B.bytes
  have hr := B.returns
  have hts0 := atoms_spec (ws := wsX12_off) B.pre
  have hK0 := hK
  have hown0 : s.vm.findClass RX12 = some m.cls := findClass_of_methodNamed B.named
  have hlocks := B.notSynchronized
  have hinX12 : ∀ w ∈ u_ws RX12 TX12 69, w ∈ wsX12_off := (fun _ h9 => List.mem_cons_of_mem _ (List.mem_append_right _ h9))
  subst hsz
  have hD := hD0.self (sz := s.heap.size)
  generalize hAe : va_A (wM ad cA σ) s.heap.size = A at hD hT ⊢
  have hA : ∀ q : Nat, s.heap.size ≤ q → A q := fun q h => by rw [← hAe]; exact Or.inr h
  have hS : va_S A s.heap s.heap [] := va_S.rf
  have hl := lv_entry ([.ref (ad 0), .int p0]) (n := 2) (Nat.le_of_ble_eq_true rfl)
  rw [lg_entry_eq]
  generalize (lg_sl ([.ref (ad 0), .int p0]) ++ List.replicate (2 - (lg_sl ([.ref (ad 0), .int p0])).length) Slot.unset).toArray = ls at hl ⊢
  have hl : lv_has ls 2 [(0, .ref (ad 0)), (1, .int p0)] := hl
  have hts := dr_words hts0 (s.drawn)
  have hK := gKd hK0 (s.drawn)
  have hown : (s.setDrawn (s.drawn)).vm.findClass RX12 = some m.cls := hown0
  refine lv_aload_n hx hb dX12_off_0 rfl (lv_at hl 0 rfl) ?_
  refine lv_iconst (v := 0) hx hb dX12_off_1 (by decide) ?_
  refine va_put (D := (dC, dI)) (ci := 11) (v := .int 0) (C := RX12) (T := TX12) (N := 69) hx hb hts hinX12 tyX12 tyX12_ok nmX12 hown hK hP hD hS 0 (mat_11 rfl) rfl 0 (by decide) (hts (.fieldLink RX12 107 "BondCalendarsModel" "thrown" "I") (by decide +kernel)) (fun _ h9 => h9) rfl (ty := .int) (by decide +kernel) rfl rfl (Nat.le_of_ble_eq_true rfl) dX12_off_2 (fun H locs hP hD hS => ?_)
  obtain ⟨σ1, eσ1, hP, hD⟩ := gPut (mse_11_0 rfl) hP hD
  have hIσ1 : InvM σ1 := by rw [eσ1]; exact minv_I hI (mok_11_0 rfl _)
  have frσ1 : mFr [64] [0, 1, 2, 47, 48, 49] σ σ1 := by rw [eσ1]; exact mFr.oI (mFr.rfl (L := [64]) (F := [0, 1, 2, 47, 48, 49]) (σ := σ)) (by decide)
  refine lv_aload_n hx hb dX12_off_5 rfl (lv_at hl 0 rfl) ?_
  have bd_1 := mrd_11_28 (c := 0) hI rfl
  refine va_get (D := (dC, dI)) (ci := 11) (v := .int ((σ 0).1 28)) (C := RX12) (T := TX12) (N := 69) hx hb hts hinX12 hown hK hP 0 (mat_11 rfl) rfl 28 (by decide) (hts (.fieldLink RX12 361 "BondCalendarsModel" "isThere" "Z") (by decide +kernel)) (fun _ h9 => h9) (congrArg (fun z => some (Value.int z)) (show (σ1 0).1 28 = ((σ 0).1 28) from by rw [eσ1, gI_oth _ _ _ (by decide)])) dX12_off_6 ?_
  refine lv_if_ne (tgt := 21) hx hb dX12_off_9 (by decide) (fun c_2 => ?_) (fun c_2 => ?_)
  · refine lv_iload_n hx hb dX12_off_21 rfl (lv_at hl 1 rfl) ?_
    refine lv_iconst (v := 0) hx hb dX12_off_22 (by decide) ?_
    refine lv_sipush (v := 2000) hx hb dX12_off_23 (by decide) ?_
    have hF := gFree (w := []) (hx_D0 (A := A)) hS hA
    have hKe := hK.sub (tys' := []) [] rfl
    refine va_calli (va_runS (As := [.int p0, .int 0, .int 2000]) (rest := []) ⟨hx, hb, hml, hown, hts⟩ (k_X12_in l dC dI H.size p0 0 2000 ) (va_cwS 3 hts gX12_off_X12_in rfl rfl rfl (by decide +kernel) ⟨Nat.le_of_ble_eq_true rfl, Nat.le_of_ble_eq_true rfl⟩) ⟨fun a U g mk q => by obtain ⟨q0, q1, qP, qK, qD⟩ := q; exact ⟨q0, q1, qP, va_K.moved (u := U) (U := U.calling g mk a) (Vm.Alike.refl U.vm) qK, qD⟩, fun U hU hW => ⟨rfl, by rw [hU], hx_P0, va_K.moved hW.alike hKe, hx_D0⟩⟩ rfl rfl hl.1 rfl (lv_room (Nat.le_of_ble_eq_true rfl)) dX12_off_26 ⟨Nat.le_of_ble_eq_true rfl, Nat.le_of_ble_eq_true rfl⟩) hS (fun q _ h => hF q h) hF (fun r_3 u t H locs ht hvm hw hB hz1 hk1 hS => ?_)
    have hP := gKeep hP hk1
    have in_4 : r_3 = f_X12_in p0 0 2000 := hw
    have bin_4 : r_3 = 0 ∨ r_3 = 1 := by rw [in_4]; exact in01 _ _ _
    refine lv_if_ne (tgt := 41) hx hb dX12_off_29 (by decide) (fun c_5 => ?_) (fun c_5 => ?_)
    · refine lv_aload_n hx hb dX12_off_41 rfl (lv_at hl 0 rfl) ?_
      refine lv_iload_n hx hb dX12_off_42 rfl (lv_at hl 1 rfl) ?_
      refine lv_iload_n hx hb dX12_off_43 rfl (lv_at hl 1 rfl) ?_
      have hF := gFree hD hS hA
      refine va_callvD hd0 (va_runV_D (As := [.int p0, .int p0]) (rest := []) ⟨hx, hb, hml, hown, hts⟩ (n_X12_offsFrom l dC dI ad cA adK adV H.size σ1 hIσ1 p0 p0 (in_of in_4 c_5).1 (in_of in_4 c_5).2 (Deep.fr hh0 (by rw [eσ1, gI_ne _ _ _ (by decide)]) (by rw [eσ1, gI_ne _ _ _ (by decide)]) (by rw [eσ1, gI_ne _ _ _ (by decide)]) (by rw [eσ1, gI_ne _ _ _ (by decide)]) (by rw [eσ1, gI_ne _ _ _ (by decide)]) (by rw [eσ1, gI_ne _ _ _ (by decide)]) (by rw [eσ1, gI_ne _ _ _ (by decide)]) (by rw [eσ1, gI_oth _ _ _ (by decide)]) (by rw [eσ1, gI_oth _ _ _ (by decide)]) (by rw [eσ1, gI_oth _ _ _ (by decide)]) (by rw [eσ1, gI_oth _ _ _ (by decide)]) (by rw [eσ1, gI_oth _ _ _ (by decide)]) (by rw [eσ1, gI_oth _ _ _ (by decide)]))) (cwV 2 hts gX12_off_X12_offsFrom rfl rfl rfl (by decide +kernel) ⟨Nat.le_of_ble_eq_true rfl, Nat.le_of_ble_eq_true rfl⟩) ⟨gBlind, va_recv hK hP (ci := 11) (q0 := 0) rfl (mat_11 rfl), gStart (As := [.ref (ad 0), .int p0, .int p0]) hP hD hK0 hT hS hF (s.drawn)⟩ rfl rfl hl.1 rfl (lv_room (Nat.le_of_ble_eq_true rfl)) dX12_off_44 ⟨Nat.le_of_ble_eq_true rfl, Nat.le_of_ble_eq_true rfl⟩) hS (fun q _ h => hF q h) hF (fun σ2 t H locs ht hvm hw hB hz1 hk1 hS d_7 hd0 => ?_)
      have hts := dr_words hts0 (d_7)
      have hK := gKd hK0 (d_7)
      have hown : (s.setDrawn (d_7)).vm.findClass RX12 = some m.cls := hown0
      obtain ⟨hP, hD⟩ := gBack hF ht hB
      obtain ⟨hIσ2, fcσ2, hp_8⟩ := hw
      refine lv_aload_n hx hb dX12_off_47 rfl (lv_at hl 0 rfl) ?_
      refine lv_aload_n hx hb dX12_off_48 rfl (lv_at hl 0 rfl) ?_
      refine va_get (D := (dC, dI)) (ci := 11) (v := .ref (ad 24)) (C := RX12) (T := TX12) (N := 69) hx hb hts hinX12 hown hK hP 0 (mat_11 rfl) rfl 57 (by decide) (hts (.fieldLink RX12 86 "BondCalendarsModel" "offs" "[D") (by decide +kernel)) (fun _ h9 => h9) rfl dX12_off_49 ?_
      refine lv_iload_n hx hb dX12_off_52 rfl (lv_at hl 1 rfl) ?_
      refine va_dald hx hb hK hP 24 24 (mat_64 rfl) (mty_64 rfl) (gin (N := 2001) (by decide) (in_of in_4 c_5).1 (Int32.lt_of_le_of_lt (in_of in_4 c_5).2 (show (2000 : Int32) < 2001 by decide))) dX12_off_53 ?_
      refine lv_topd (fun y_9 _ => ?_)
      have hF := gFree hD hS hA
      refine va_calllD hd0 (va_runV_D (As := [.double y_9]) (rest := []) ⟨hx, hb, hml, hown, hts⟩ (n_X12_goodBits l dC dI ad cA adK adV H.size σ2 hIσ2 y_9) (cwV 1 hts gX12_off_X12_goodBits rfl rfl rfl (by decide +kernel) ⟨Nat.le_of_ble_eq_true rfl, Nat.le_of_ble_eq_true rfl⟩) ⟨gBlind, va_recv hK hP (ci := 11) (q0 := 0) rfl (mat_11 rfl), gStart (As := [.ref (ad 0), .double y_9]) hP hD hK0 hT hS hF (d_7)⟩ rfl rfl hl.1 rfl (lv_room (Nat.le_of_ble_eq_true rfl)) dX12_off_54 ⟨Nat.le_of_ble_eq_true rfl, Nat.le_of_ble_eq_true rfl⟩) hS (fun q _ h => hF q h) hF (fun r_10 σ3 t H locs ht hvm hw hB hz1 hk1 hS d_11 hd0 => ?_)
      have hts := dr_words hts0 (d_11)
      have hK := gKd hK0 (d_11)
      have hown : (s.setDrawn (d_11)).vm.findClass RX12 = some m.cls := hown0
      obtain ⟨hP, hD⟩ := gBack hF ht hB
      obtain ⟨hIσ3, fcσ3, hp_12⟩ := hw
      refine W.endD hd0 ?_
      exact W.lret (v := r_10) hx hb hr (fun t ht hW => ⟨⟨r_10, σ3, rfl, ⟨hIσ3, (mFr.tr (mFr.tr frσ1 fcσ2 (by decide) (by decide)) fcσ3 (by decide) (by decide)), trivial⟩, ⟨by rw [ht]; exact hP, hD⟩⟩, hS.F ht⟩) hS.2.2 dX12_off_57
    · refine lv_aload_n hx hb dX12_off_32 rfl (lv_at hl 0 rfl) ?_
      refine lv_iconst (v := 2) hx hb dX12_off_33 (by decide) ?_
      refine lv_ldc2 (v := (-9223372036854775808)) hx hb hown (hts (.constantLong RX12 482 (-9223372036854775808)) (by decide +kernel)) dX12_off_34 ?_
      have hF := gFree hD hS hA
      refine va_calllD hd0 (va_runV_D (As := [.int 2, .long (-9223372036854775808)]) (rest := []) ⟨hx, hb, hml, hown, hts⟩ (n_X12_refusedLong l dC dI ad cA adK adV H.size σ1 hIσ1 2 (-9223372036854775808)) (cwV 2 hts gX12_off_X12_refusedLong rfl rfl rfl (by decide +kernel) ⟨Nat.le_of_ble_eq_true rfl, Nat.le_of_ble_eq_true rfl⟩) ⟨gBlind, va_recv hK hP (ci := 11) (q0 := 0) rfl (mat_11 rfl), gStart (As := [.ref (ad 0), .int 2, .long (-9223372036854775808)]) hP hD hK0 hT hS hF (s.drawn)⟩ rfl rfl hl.1 rfl (lv_room (Nat.le_of_ble_eq_true rfl)) dX12_off_37 ⟨Nat.le_of_ble_eq_true rfl, Nat.le_of_ble_eq_true rfl⟩) hS (fun q _ h => hF q h) hF (fun r_13 σ4 t H locs ht hvm hw hB hz1 hk1 hS d_14 hd0 => ?_)
      have hts := dr_words hts0 (d_14)
      have hK := gKd hK0 (d_14)
      have hown : (s.setDrawn (d_14)).vm.findClass RX12 = some m.cls := hown0
      obtain ⟨hP, hD⟩ := gBack hF ht hB
      obtain ⟨hIσ4, fcσ4, hp_15⟩ := hw
      refine W.endD hd0 ?_
      exact W.lret (v := r_13) hx hb hr (fun t ht hW => ⟨⟨r_13, σ4, rfl, ⟨hIσ4, (mFr.tr frσ1 fcσ4 (by decide) (by decide)), trivial⟩, ⟨by rw [ht]; exact hP, hD⟩⟩, hS.F ht⟩) hS.2.2 dX12_off_40
  · refine lv_aload_n hx hb dX12_off_12 rfl (lv_at hl 0 rfl) ?_
    refine lv_iconst (v := 1) hx hb dX12_off_13 (by decide) ?_
    refine lv_ldc2 (v := (-9223372036854775808)) hx hb hown (hts (.constantLong RX12 482 (-9223372036854775808)) (by decide +kernel)) dX12_off_14 ?_
    have hF := gFree hD hS hA
    refine va_calllD hd0 (va_runV_D (As := [.int 1, .long (-9223372036854775808)]) (rest := []) ⟨hx, hb, hml, hown, hts⟩ (n_X12_refusedLong l dC dI ad cA adK adV H.size σ1 hIσ1 1 (-9223372036854775808)) (cwV 2 hts gX12_off_X12_refusedLong rfl rfl rfl (by decide +kernel) ⟨Nat.le_of_ble_eq_true rfl, Nat.le_of_ble_eq_true rfl⟩) ⟨gBlind, va_recv hK hP (ci := 11) (q0 := 0) rfl (mat_11 rfl), gStart (As := [.ref (ad 0), .int 1, .long (-9223372036854775808)]) hP hD hK0 hT hS hF (s.drawn)⟩ rfl rfl hl.1 rfl (lv_room (Nat.le_of_ble_eq_true rfl)) dX12_off_17 ⟨Nat.le_of_ble_eq_true rfl, Nat.le_of_ble_eq_true rfl⟩) hS (fun q _ h => hF q h) hF (fun r_16 σ5 t H locs ht hvm hw hB hz1 hk1 hS d_17 hd0 => ?_)
    have hts := dr_words hts0 (d_17)
    have hK := gKd hK0 (d_17)
    have hown : (s.setDrawn (d_17)).vm.findClass RX12 = some m.cls := hown0
    obtain ⟨hP, hD⟩ := gBack hF ht hB
    obtain ⟨hIσ5, fcσ5, hp_18⟩ := hw
    refine W.endD hd0 ?_
    exact W.lret (v := r_16) hx hb hr (fun t ht hW => ⟨⟨r_16, σ5, rfl, ⟨hIσ5, (mFr.tr frσ1 fcσ5 (by decide) (by decide)), trivial⟩, ⟨by rw [ht]; exact hP, hD⟩⟩, hS.F ht⟩) hS.2.2 dX12_off_20
set_option maxHeartbeats 8000000 in
set_option maxRecDepth 100000 in
theorem n_X12_flat (l : Launch) (dC : Nat → ClassId) (dI : Nat → Nat → Nat) (ad : Nat → Nat) (cA : Nat → ClassId) (adK adV : Nat → Nat) (sz : Nat) (σ : gs) (hI : InvM σ) (hh0 : Deep σ) : MetD lw_cs l yX12_flat wsX12_flat ({ frames := 8, cells := 0, slots := 0, locals := 213 }) (va_Pc [.ref (ad 0)] (gPre adK adV (dC, dI) (wM ad cA σ) (tM cA) sz)) (va_Qi (fun (r : Int32) (τ : gs) => InvM τ ∧ mFr [64] [0, 1, 2, 47, 48, 49] σ τ ∧ (True)) (fun τ t => gPost (dC, dI) (va_A (wM ad cA σ) sz) (wM ad cA τ) t) (va_A (wM ad cA σ) sz)) 0 0 (va_A (wM ad cA σ) sz) := by
  refine MetD.ofW (cc := cX12_flat) (maxL := 3) (ret := (some .int)) (by decide) rfl ?_
  intro p e s m args below meth c s₁ B hml hv hd0
  obtain ⟨rfl, hsz, hP, hK, hD0, hT⟩ := hv
  have hx := B.exec
  have hb := B.bytes
  have hr := B.returns
  have hts0 := atoms_spec (ws := wsX12_flat) B.pre
  have hK0 := hK
  have hown0 : s.vm.findClass RX12 = some m.cls := findClass_of_methodNamed B.named
  have hlocks := B.notSynchronized
  have hinX12 : ∀ w ∈ u_ws RX12 TX12 69, w ∈ wsX12_flat := (fun _ h9 => List.mem_cons_of_mem _ (List.mem_append_right _ h9))
  subst hsz
  have hD := hD0.self (sz := s.heap.size)
  generalize hAe : va_A (wM ad cA σ) s.heap.size = A at hD hT ⊢
  have hA : ∀ q : Nat, s.heap.size ≤ q → A q := fun q h => by rw [← hAe]; exact Or.inr h
  have hS : va_S A s.heap s.heap [] := va_S.rf
  have hl := lv_entry ([.ref (ad 0)]) (n := 3) (Nat.le_of_ble_eq_true rfl)
  rw [lg_entry_eq]
  generalize (lg_sl ([.ref (ad 0)]) ++ List.replicate (3 - (lg_sl ([.ref (ad 0)])).length) Slot.unset).toArray = ls at hl ⊢
  have hl : lv_has ls 3 [(0, .ref (ad 0))] := hl
  have hts := dr_words hts0 (s.drawn)
  have hK := gKd hK0 (s.drawn)
  have hown : (s.setDrawn (s.drawn)).vm.findClass RX12 = some m.cls := hown0
  refine lv_aload_n hx hb dX12_flat_0 rfl (lv_at hl 0 rfl) ?_
  refine lv_iconst (v := 0) hx hb dX12_flat_1 (by decide) ?_
  refine va_put (D := (dC, dI)) (ci := 11) (v := .int 0) (C := RX12) (T := TX12) (N := 69) hx hb hts hinX12 tyX12 tyX12_ok nmX12 hown hK hP hD hS 0 (mat_11 rfl) rfl 0 (by decide) (hts (.fieldLink RX12 107 "BondCalendarsModel" "thrown" "I") (by decide +kernel)) (fun _ h9 => h9) rfl (ty := .int) (by decide +kernel) rfl rfl (Nat.le_of_ble_eq_true rfl) dX12_flat_2 (fun H locs hP hD hS => ?_)
  obtain ⟨σ1, eσ1, hP, hD⟩ := gPut (mse_11_0 rfl) hP hD
  have hIσ1 : InvM σ1 := by rw [eσ1]; exact minv_I hI (mok_11_0 rfl _)
  have frσ1 : mFr [64] [0, 1, 2, 47, 48, 49] σ σ1 := by rw [eσ1]; exact mFr.oI (mFr.rfl (L := [64]) (F := [0, 1, 2, 47, 48, 49]) (σ := σ)) (by decide)
  refine lv_aload_n hx hb dX12_flat_5 rfl (lv_at hl 0 rfl) ?_
  have bd_1 := mrd_11_28 (c := 0) hI rfl
  refine va_get (D := (dC, dI)) (ci := 11) (v := .int ((σ 0).1 28)) (C := RX12) (T := TX12) (N := 69) hx hb hts hinX12 hown hK hP 0 (mat_11 rfl) rfl 28 (by decide) (hts (.fieldLink RX12 361 "BondCalendarsModel" "isThere" "Z") (by decide +kernel)) (fun _ h9 => h9) (congrArg (fun z => some (Value.int z)) (show (σ1 0).1 28 = ((σ 0).1 28) from by rw [eσ1, gI_oth _ _ _ (by decide)])) dX12_flat_6 ?_
  refine lv_if_ne (tgt := 18) hx hb dX12_flat_9 (by decide) (fun c_2 => ?_) (fun c_2 => ?_)
  · refine lv_aload_n hx hb dX12_flat_18 rfl (lv_at hl 0 rfl) ?_
    have bd_3 := mrd_11_21 (c := 0) hI rfl
    refine va_get (D := (dC, dI)) (ci := 11) (v := .int ((σ 0).1 21)) (C := RX12) (T := TX12) (N := 69) hx hb hts hinX12 hown hK hP 0 (mat_11 rfl) rfl 21 (by decide) (hts (.fieldLink RX12 364 "BondCalendarsModel" "quotes" "I") (by decide +kernel)) (fun _ h9 => h9) (congrArg (fun z => some (Value.int z)) (show (σ1 0).1 21 = ((σ 0).1 21) from by rw [eσ1, gI_oth _ _ _ (by decide)])) dX12_flat_19 ?_
    refine lv_if_ne (tgt := 32) hx hb dX12_flat_22 (by decide) (fun c_4 => ?_) (fun c_4 => ?_)
    · refine lv_aload_n hx hb dX12_flat_32 rfl (lv_at hl 0 rfl) ?_
      refine lv_iconst (v := 0) hx hb dX12_flat_33 (by decide) ?_
      refine lv_sipush (v := 2000) hx hb dX12_flat_34 (by decide) ?_
      have hF := gFree hD hS hA
      refine va_callvD hd0 (va_runV_D (As := [.int 0, .int 2000]) (rest := []) ⟨hx, hb, hml, hown, hts⟩ (n_X12_offsFrom l dC dI ad cA adK adV H.size σ1 hIσ1 0 2000 (show (0 : Int32) ≤ 0 by decide) (show (2000 : Int32) ≤ 2000 by decide) (Deep.fr hh0 (by rw [eσ1, gI_ne _ _ _ (by decide)]) (by rw [eσ1, gI_ne _ _ _ (by decide)]) (by rw [eσ1, gI_ne _ _ _ (by decide)]) (by rw [eσ1, gI_ne _ _ _ (by decide)]) (by rw [eσ1, gI_ne _ _ _ (by decide)]) (by rw [eσ1, gI_ne _ _ _ (by decide)]) (by rw [eσ1, gI_ne _ _ _ (by decide)]) (by rw [eσ1, gI_oth _ _ _ (by decide)]) (by rw [eσ1, gI_oth _ _ _ (by decide)]) (by rw [eσ1, gI_oth _ _ _ (by decide)]) (by rw [eσ1, gI_oth _ _ _ (by decide)]) (by rw [eσ1, gI_oth _ _ _ (by decide)]) (by rw [eσ1, gI_oth _ _ _ (by decide)]))) (cwV 2 hts gX12_flat_X12_offsFrom rfl rfl rfl (by decide +kernel) ⟨Nat.le_of_ble_eq_true rfl, Nat.le_of_ble_eq_true rfl⟩) ⟨gBlind, va_recv hK hP (ci := 11) (q0 := 0) rfl (mat_11 rfl), gStart (As := [.ref (ad 0), .int 0, .int 2000]) hP hD hK0 hT hS hF (s.drawn)⟩ rfl rfl hl.1 rfl (lv_room (Nat.le_of_ble_eq_true rfl)) dX12_flat_37 ⟨Nat.le_of_ble_eq_true rfl, Nat.le_of_ble_eq_true rfl⟩) hS (fun q _ h => hF q h) hF (fun σ2 t H locs ht hvm hw hB hz1 hk1 hS d_6 hd0 => ?_)
      have hts := dr_words hts0 (d_6)
      have hK := gKd hK0 (d_6)
      have hown : (s.setDrawn (d_6)).vm.findClass RX12 = some m.cls := hown0
      obtain ⟨hP, hD⟩ := gBack hF ht hB
      obtain ⟨hIσ2, fcσ2, hp_7⟩ := hw
      refine lv_iconst (v := 0) hx hb dX12_flat_40 (by decide) ?_
      refine lv_istore_n (lv' := [(1, .int 0), (0, .ref (ad 0))]) hx hb dX12_flat_41 rfl hl (by decide) rfl (fun ls hl => ?_)
      refine lv_iconst (v := 1) hx hb dX12_flat_42 (by decide) ?_
      refine lv_istore_n (lv' := [(2, .int 1), (1, .int 0), (0, .ref (ad 0))]) hx hb dX12_flat_43 rfl hl (by decide) rfl (fun ls hl => ?_)
      refine (fun (h : ∀ (n : Nat) (z2 : Int32) (bs : Int32) (σ44x : gs) (d44 : Drawn) (H : Heap) (locs : List Loc) (ls : Array Slot), ((2001 : Int32).toInt - z2.toInt).toNat < n → 0 ≤ z2 → 0 ≤ bs → bs < 2001 → InvM σ44x → mFr [64] [0, 1, 2, 47, 48, 49] σ σ44x → s.drawn.sameBut d44 lw_cs → va_P (dC, dI) vwCl (wM ad cA σ44x) H → va_D A (wM ad cA σ44x) → va_S A s.heap H locs → lv_has ls 3 [(2, .int z2), (1, .int bs), (0, .ref (ad 0))] → W p l e _ (s.setDrawn d44) m _ below meth c H locs _ _ _ (F0 m 44 ls [])) => h _ 1 0 σ2 _ _ _ _ (Nat.lt_succ_self _) (by decide) (show (0 : Int32) ≤ 0 by decide) (show (0 : Int32) < 2001 by decide) hIσ2 (mFr.tr frσ1 fcσ2 (by decide) (by decide)) hd0 hP hD hS (lv_sub hl [0, 1, 2] rfl)) ?_
      intro n44
      induction n44 with
      | zero => intro z2 bs σ44x d44 H locs ls hm; exact absurd hm (Nat.not_lt_zero _)
      | succ n44 ih44 =>
        intro z2 bs σ44x d44 H locs ls hm44 iv44_0 iv44_1 iv44_2 hIσ44x frσ44x hd0 hP hD hS hl
        have hts := dr_words hts0 (d44)
        have hK := gKd hK0 (d44)
        have hown : (s.setDrawn (d44)).vm.findClass RX12 = some m.cls := hown0
        refine lv_iload_n hx hb dX12_flat_44 rfl (lv_at hl 0 rfl) ?_
        refine lv_sipush (v := 2000) hx hb dX12_flat_45 (by decide) ?_
        refine lv_icmp_gt (tgt := 79) hx hb dX12_flat_48 (by decide) (fun c_8 => ?_) (fun c_8 => ?_)
        · refine lv_aload_n hx hb dX12_flat_79 rfl (lv_at hl 2 rfl) ?_
          refine lv_iload_n hx hb dX12_flat_80 rfl (lv_at hl 1 rfl) ?_
          have hF := gFree hD hS hA
          refine va_calliD hd0 (va_runV_D (As := [.int bs]) (rest := []) ⟨hx, hb, hml, hown, hts⟩ (n_X12_good l dC dI ad cA adK adV H.size σ44x hIσ44x bs) (cwV 1 hts gX12_flat_X12_good rfl rfl rfl (by decide +kernel) ⟨Nat.le_of_ble_eq_true rfl, Nat.le_of_ble_eq_true rfl⟩) ⟨gBlind, va_recv hK hP (ci := 11) (q0 := 0) rfl (mat_11 rfl), gStart (As := [.ref (ad 0), .int bs]) hP hD hK0 hT hS hF (d44)⟩ rfl rfl hl.1 rfl (lv_room (Nat.le_of_ble_eq_true rfl)) dX12_flat_81 ⟨Nat.le_of_ble_eq_true rfl, Nat.le_of_ble_eq_true rfl⟩) hS (fun q _ h => hF q h) hF (fun r_9 σ3 t H locs ht hvm hw hB hz1 hk1 hS d_10 hd0 => ?_)
          have hts := dr_words hts0 (d_10)
          have hK := gKd hK0 (d_10)
          have hown : (s.setDrawn (d_10)).vm.findClass RX12 = some m.cls := hown0
          obtain ⟨hP, hD⟩ := gBack hF ht hB
          obtain ⟨hIσ3, fcσ3, hp_11⟩ := hw
          refine W.endD hd0 ?_
          exact W.iret (v := r_9) hx hb hr (fun t ht hW => ⟨⟨r_9, σ3, rfl, ⟨hIσ3, (mFr.tr frσ44x fcσ3 (by decide) (by decide)), trivial⟩, ⟨by rw [ht]; exact hP, hD⟩⟩, hS.F ht⟩) hS.2.2 dX12_flat_84
        · refine lv_aload_n hx hb dX12_flat_51 rfl (lv_at hl 2 rfl) ?_
          refine va_get (D := (dC, dI)) (ci := 11) (v := .ref (ad 24)) (C := RX12) (T := TX12) (N := 69) hx hb hts hinX12 hown hK hP 0 (mat_11 rfl) rfl 57 (by decide) (hts (.fieldLink RX12 86 "BondCalendarsModel" "offs" "[D") (by decide +kernel)) (fun _ h9 => h9) rfl dX12_flat_52 ?_
          refine lv_iload_n hx hb dX12_flat_55 rfl (lv_at hl 0 rfl) ?_
          refine va_dald hx hb hK hP 24 24 (mat_64 rfl) (mty_64 rfl) (gin (N := 2001) (by decide) iv44_0 (Int32.lt_of_le_of_lt (Int32.not_lt.mp c_8) (show (2000 : Int32) < 2001 by decide))) dX12_flat_56 ?_
          refine lv_topd (fun y_12 _ => ?_)
          refine lv_aload_n hx hb dX12_flat_57 rfl (lv_at hl 2 rfl) ?_
          refine va_get (D := (dC, dI)) (ci := 11) (v := .ref (ad 24)) (C := RX12) (T := TX12) (N := 69) hx hb hts hinX12 hown hK hP 0 (mat_11 rfl) rfl 57 (by decide) (hts (.fieldLink RX12 86 "BondCalendarsModel" "offs" "[D") (by decide +kernel)) (fun _ h9 => h9) rfl dX12_flat_58 ?_
          refine lv_iload_n hx hb dX12_flat_61 rfl (lv_at hl 1 rfl) ?_
          refine va_dald hx hb hK hP 24 24 (mat_64 rfl) (mty_64 rfl) (gin (N := 2001) (by decide) iv44_1 iv44_2) dX12_flat_62 ?_
          refine lv_topd (fun y_13 _ => ?_)
          refine lv_dcmp hx hb dX12_flat_63 ?_
          refine lv_topi (fun x_14 _ => ?_)
          refine lv_if_ge (tgt := 71) hx hb dX12_flat_64 (by decide) (fun c_15 => ?_) (fun c_15 => ?_)
          · refine lv_iload_n hx hb dX12_flat_71 rfl (lv_at hl 1 rfl) ?_
            refine lv_istore_n (lv' := [(1, .int bs), (2, .int z2), (0, .ref (ad 0))]) hx hb dX12_flat_72 rfl hl (by decide) rfl (fun ls hl => ?_)
            obtain ⟨x_16, ex_16⟩ : ∃ zz : Int32, zz = z2 + 1 := ⟨_, rfl⟩
            refine lv_iinc (v := x_16) (lv' := [(2, .int x_16), (1, .int bs), (0, .ref (ad 0))]) hx hb dX12_flat_73 hl (k := 1) rfl (by rw [ex_16]; rfl) (by decide) rfl (fun ls hl => ?_)
            refine lv_goto (tgt := 44) hx hb dX12_flat_76 (by decide) ?_
            exact ih44 x_16 bs σ44x _ _ _ _ (cnt_m iv44_0 (Int32.lt_of_le_of_lt (Int32.not_lt.mp c_8) (show (2000 : Int32) < 2001 by decide)) hm44 ex_16) (cnt_0 iv44_0 (Int32.lt_of_le_of_lt (Int32.not_lt.mp c_8) (show (2000 : Int32) < 2001 by decide)) ex_16) iv44_1 iv44_2 hIσ44x frσ44x hd0 hP hD hS (lv_sub hl [0, 1, 2] rfl)
          · refine lv_iload_n hx hb dX12_flat_67 rfl (lv_at hl 0 rfl) ?_
            refine lv_goto (tgt := 72) hx hb dX12_flat_68 (by decide) ?_
            refine lv_istore_n (lv' := [(1, .int z2), (2, .int z2), (0, .ref (ad 0))]) hx hb dX12_flat_72 rfl hl (by decide) rfl (fun ls hl => ?_)
            obtain ⟨x_17, ex_17⟩ : ∃ zz : Int32, zz = z2 + 1 := ⟨_, rfl⟩
            refine lv_iinc (v := x_17) (lv' := [(2, .int x_17), (1, .int z2), (0, .ref (ad 0))]) hx hb dX12_flat_73 hl (k := 1) rfl (by rw [ex_17]; rfl) (by decide) rfl (fun ls hl => ?_)
            refine lv_goto (tgt := 44) hx hb dX12_flat_76 (by decide) ?_
            exact ih44 x_17 z2 σ44x _ _ _ _ (cnt_m iv44_0 (Int32.lt_of_le_of_lt (Int32.not_lt.mp c_8) (show (2000 : Int32) < 2001 by decide)) hm44 ex_17) (cnt_0 iv44_0 (Int32.lt_of_le_of_lt (Int32.not_lt.mp c_8) (show (2000 : Int32) < 2001 by decide)) ex_17) iv44_0 (Int32.lt_of_le_of_lt (Int32.not_lt.mp c_8) (show (2000 : Int32) < 2001 by decide)) hIσ44x frσ44x hd0 hP hD hS (lv_sub hl [0, 1, 2] rfl)
    · refine lv_aload_n hx hb dX12_flat_25 rfl (lv_at hl 0 rfl) ?_
      refine lv_bipush (v := (-2)) hx hb dX12_flat_26 (by decide) ?_
      have hF := gFree hD hS hA
      refine va_calliD hd0 (va_runV_D (As := [.int (-2)]) (rest := []) ⟨hx, hb, hml, hown, hts⟩ (n_X12_good l dC dI ad cA adK adV H.size σ1 hIσ1 (-2)) (cwV 1 hts gX12_flat_X12_good rfl rfl rfl (by decide +kernel) ⟨Nat.le_of_ble_eq_true rfl, Nat.le_of_ble_eq_true rfl⟩) ⟨gBlind, va_recv hK hP (ci := 11) (q0 := 0) rfl (mat_11 rfl), gStart (As := [.ref (ad 0), .int (-2)]) hP hD hK0 hT hS hF (s.drawn)⟩ rfl rfl hl.1 rfl (lv_room (Nat.le_of_ble_eq_true rfl)) dX12_flat_28 ⟨Nat.le_of_ble_eq_true rfl, Nat.le_of_ble_eq_true rfl⟩) hS (fun q _ h => hF q h) hF (fun r_18 σ4 t H locs ht hvm hw hB hz1 hk1 hS d_19 hd0 => ?_)
      have hts := dr_words hts0 (d_19)
      have hK := gKd hK0 (d_19)
      have hown : (s.setDrawn (d_19)).vm.findClass RX12 = some m.cls := hown0
      obtain ⟨hP, hD⟩ := gBack hF ht hB
      obtain ⟨hIσ4, fcσ4, hp_20⟩ := hw
      refine W.endD hd0 ?_
      exact W.iret (v := r_18) hx hb hr (fun t ht hW => ⟨⟨r_18, σ4, rfl, ⟨hIσ4, (mFr.tr frσ1 fcσ4 (by decide) (by decide)), trivial⟩, ⟨by rw [ht]; exact hP, hD⟩⟩, hS.F ht⟩) hS.2.2 dX12_flat_31
  · refine lv_aload_n hx hb dX12_flat_12 rfl (lv_at hl 0 rfl) ?_
    refine lv_iconst (v := 1) hx hb dX12_flat_13 (by decide) ?_
    have hF := gFree hD hS hA
    refine va_calliD hd0 (va_runV_D (As := [.int 1]) (rest := []) ⟨hx, hb, hml, hown, hts⟩ (n_X12_refused l dC dI ad cA adK adV H.size σ1 hIσ1 1) (cwV 1 hts gX12_flat_X12_refused rfl rfl rfl (by decide +kernel) ⟨Nat.le_of_ble_eq_true rfl, Nat.le_of_ble_eq_true rfl⟩) ⟨gBlind, va_recv hK hP (ci := 11) (q0 := 0) rfl (mat_11 rfl), gStart (As := [.ref (ad 0), .int 1]) hP hD hK0 hT hS hF (s.drawn)⟩ rfl rfl hl.1 rfl (lv_room (Nat.le_of_ble_eq_true rfl)) dX12_flat_14 ⟨Nat.le_of_ble_eq_true rfl, Nat.le_of_ble_eq_true rfl⟩) hS (fun q _ h => hF q h) hF (fun r_21 σ5 t H locs ht hvm hw hB hz1 hk1 hS d_22 hd0 => ?_)
    have hts := dr_words hts0 (d_22)
    have hK := gKd hK0 (d_22)
    have hown : (s.setDrawn (d_22)).vm.findClass RX12 = some m.cls := hown0
    obtain ⟨hP, hD⟩ := gBack hF ht hB
    obtain ⟨hIσ5, fcσ5, hp_23⟩ := hw
    refine W.endD hd0 ?_
    exact W.iret (v := r_21) hx hb hr (fun t ht hW => ⟨⟨r_21, σ5, rfl, ⟨hIσ5, (mFr.tr frσ1 fcσ5 (by decide) (by decide)), trivial⟩, ⟨by rw [ht]; exact hP, hD⟩⟩, hS.F ht⟩) hS.2.2 dX12_flat_17
set_option maxHeartbeats 8000000 in
set_option maxRecDepth 100000 in
theorem n_X12_cheapest (l : Launch) (dC : Nat → ClassId) (dI : Nat → Nat → Nat) (ad : Nat → Nat) (cA : Nat → ClassId) (adK adV : Nat → Nat) (sz : Nat) (σ : gs) (hI : InvM σ) (hh0 : Deep σ) : MetD lw_cs l yX12_cheapest wsX12_cheapest ({ frames := 7, cells := 0, slots := 0, locals := 181 }) (va_Pc [.ref (ad 0)] (gPre adK adV (dC, dI) (wM ad cA σ) (tM cA) sz)) (va_Qi (fun (r : Int32) (τ : gs) => InvM τ ∧ mFr [] [0, 1, 2, 47, 48, 49] σ τ ∧ (True)) (fun τ t => gPost (dC, dI) (va_A (wM ad cA σ) sz) (wM ad cA τ) t) (va_A (wM ad cA σ) sz)) 0 0 (va_A (wM ad cA σ) sz) := by
  refine MetD.ofW (cc := cX12_cheapest) (maxL := 6) (ret := (some .int)) (by decide) rfl ?_
  intro p e s m args below meth c s₁ B hml hv hd0
  obtain ⟨rfl, hsz, hP, hK, hD0, hT⟩ := hv
  have hx := B.exec
  have hb := B.bytes
  have hr := B.returns
  have hts0 := atoms_spec (ws := wsX12_cheapest) B.pre
  have hK0 := hK
  have hown0 : s.vm.findClass RX12 = some m.cls := findClass_of_methodNamed B.named
  have hlocks := B.notSynchronized
  have hinX12 : ∀ w ∈ u_ws RX12 TX12 69, w ∈ wsX12_cheapest := (fun _ h9 => List.mem_cons_of_mem _ (List.mem_append_right _ h9))
  subst hsz
  have hD := hD0.self (sz := s.heap.size)
  generalize hAe : va_A (wM ad cA σ) s.heap.size = A at hD hT ⊢
  have hA : ∀ q : Nat, s.heap.size ≤ q → A q := fun q h => by rw [← hAe]; exact Or.inr h
  have hS : va_S A s.heap s.heap [] := va_S.rf
  have hl := lv_entry ([.ref (ad 0)]) (n := 6) (Nat.le_of_ble_eq_true rfl)
  rw [lg_entry_eq]
  generalize (lg_sl ([.ref (ad 0)]) ++ List.replicate (6 - (lg_sl ([.ref (ad 0)])).length) Slot.unset).toArray = ls at hl ⊢
  have hl : lv_has ls 6 [(0, .ref (ad 0))] := hl
  have hts := dr_words hts0 (s.drawn)
  have hK := gKd hK0 (s.drawn)
  have hown : (s.setDrawn (s.drawn)).vm.findClass RX12 = some m.cls := hown0
  refine lv_aload_n hx hb dX12_cheapest_0 rfl (lv_at hl 0 rfl) ?_
  refine lv_iconst (v := 0) hx hb dX12_cheapest_1 (by decide) ?_
  refine va_put (D := (dC, dI)) (ci := 11) (v := .int 0) (C := RX12) (T := TX12) (N := 69) hx hb hts hinX12 tyX12 tyX12_ok nmX12 hown hK hP hD hS 0 (mat_11 rfl) rfl 0 (by decide) (hts (.fieldLink RX12 107 "BondCalendarsModel" "thrown" "I") (by decide +kernel)) (fun _ h9 => h9) rfl (ty := .int) (by decide +kernel) rfl rfl (Nat.le_of_ble_eq_true rfl) dX12_cheapest_2 (fun H locs hP hD hS => ?_)
  obtain ⟨σ1, eσ1, hP, hD⟩ := gPut (mse_11_0 rfl) hP hD
  have hIσ1 : InvM σ1 := by rw [eσ1]; exact minv_I hI (mok_11_0 rfl _)
  have frσ1 : mFr [] [0, 1, 2, 47, 48, 49] σ σ1 := by rw [eσ1]; exact mFr.oI (mFr.rfl (L := []) (F := [0, 1, 2, 47, 48, 49]) (σ := σ)) (by decide)
  refine lv_aload_n hx hb dX12_cheapest_5 rfl (lv_at hl 0 rfl) ?_
  have bd_1 := mrd_11_28 (c := 0) hI rfl
  refine va_get (D := (dC, dI)) (ci := 11) (v := .int ((σ 0).1 28)) (C := RX12) (T := TX12) (N := 69) hx hb hts hinX12 hown hK hP 0 (mat_11 rfl) rfl 28 (by decide) (hts (.fieldLink RX12 361 "BondCalendarsModel" "isThere" "Z") (by decide +kernel)) (fun _ h9 => h9) (congrArg (fun z => some (Value.int z)) (show (σ1 0).1 28 = ((σ 0).1 28) from by rw [eσ1, gI_oth _ _ _ (by decide)])) dX12_cheapest_6 ?_
  refine lv_if_ne (tgt := 18) hx hb dX12_cheapest_9 (by decide) (fun c_2 => ?_) (fun c_2 => ?_)
  · refine lv_bipush (v := (-2)) hx hb dX12_cheapest_18 (by decide) ?_
    refine lv_istore_n (lv' := [(1, .int (-2)), (0, .ref (ad 0))]) hx hb dX12_cheapest_20 rfl hl (by decide) rfl (fun ls hl => ?_)
    refine lv_dconst0 hx hb dX12_cheapest_21 ?_
    refine lv_dstore_n (lv' := [(2, .double 0), (1, .int (-2)), (0, .ref (ad 0))]) hx hb dX12_cheapest_22 rfl hl (by decide) rfl (fun ls hl => ?_)
    refine lv_iconst (v := 0) hx hb dX12_cheapest_23 (by decide) ?_
    refine lv_istore (lv' := [(4, .int 0), (2, .double 0), (1, .int (-2)), (0, .ref (ad 0))]) hx hb dX12_cheapest_24 hl (by decide) rfl (fun ls hl => ?_)
    refine (fun (h : ∀ (n : Nat) (i4 : Int32) (be : Int32) (mo : UInt64) (σ26x : gs) (d26 : Drawn) (H : Heap) (locs : List Loc) (ls : Array Slot), ((6 : Int32).toInt - i4.toInt).toNat < n → 0 ≤ i4 → InvM σ26x → mFr [] [0, 1, 2, 47, 48, 49] σ σ26x → s.drawn.sameBut d26 lw_cs → va_P (dC, dI) vwCl (wM ad cA σ26x) H → va_D A (wM ad cA σ26x) → va_S A s.heap H locs → lv_has ls 6 [(4, .int i4), (2, .double mo), (1, .int be), (0, .ref (ad 0))] → W p l e _ (s.setDrawn d26) m _ below meth c H locs _ _ _ (F0 m 26 ls [])) => h _ 0 (-2) 0 σ1 _ _ _ _ (Nat.lt_succ_self _) (by decide) hIσ1 frσ1 hd0 hP hD hS (lv_sub hl [0, 1, 2, 3] rfl)) ?_
    intro n26
    induction n26 with
    | zero => intro i4 be mo σ26x d26 H locs ls hm; exact absurd hm (Nat.not_lt_zero _)
    | succ n26 ih26 =>
      intro i4 be mo σ26x d26 H locs ls hm26 iv26_0 hIσ26x frσ26x hd0 hP hD hS hl
      have hts := dr_words hts0 (d26)
      have hK := gKd hK0 (d26)
      have hown : (s.setDrawn (d26)).vm.findClass RX12 = some m.cls := hown0
      refine lv_iload hx hb dX12_cheapest_26 (lv_at hl 0 rfl) ?_
      refine lv_aload_n hx hb dX12_cheapest_28 rfl (lv_at hl 3 rfl) ?_
      have bd_3 := mrd_11_21 (c := 0) hI rfl
      refine va_get (D := (dC, dI)) (ci := 11) (v := .int ((σ 0).1 21)) (C := RX12) (T := TX12) (N := 69) hx hb hts hinX12 hown hK hP 0 (mat_11 rfl) rfl 21 (by decide) (hts (.fieldLink RX12 364 "BondCalendarsModel" "quotes" "I") (by decide +kernel)) (fun _ h9 => h9) (congrArg (fun z => some (Value.int z)) (show (σ26x 0).1 21 = ((σ 0).1 21) from by rw [frσ26x.2 21 (by decide)])) dX12_cheapest_29 ?_
      refine lv_icmp_ge (tgt := 124) hx hb dX12_cheapest_32 (by decide) (fun c_4 => ?_) (fun c_4 => ?_)
      · refine lv_aload_n hx hb dX12_cheapest_124 rfl (lv_at hl 3 rfl) ?_
        refine lv_iload_n hx hb dX12_cheapest_125 rfl (lv_at hl 2 rfl) ?_
        have hF := gFree hD hS hA
        refine va_calliD hd0 (va_runV_D (As := [.int be]) (rest := []) ⟨hx, hb, hml, hown, hts⟩ (n_X12_good l dC dI ad cA adK adV H.size σ26x hIσ26x be) (cwV 1 hts gX12_cheapest_X12_good rfl rfl rfl (by decide +kernel) ⟨Nat.le_of_ble_eq_true rfl, Nat.le_of_ble_eq_true rfl⟩) ⟨gBlind, va_recv hK hP (ci := 11) (q0 := 0) rfl (mat_11 rfl), gStart (As := [.ref (ad 0), .int be]) hP hD hK0 hT hS hF (d26)⟩ rfl rfl hl.1 rfl (lv_room (Nat.le_of_ble_eq_true rfl)) dX12_cheapest_126 ⟨Nat.le_of_ble_eq_true rfl, Nat.le_of_ble_eq_true rfl⟩) hS (fun q _ h => hF q h) hF (fun r_5 σ2 t H locs ht hvm hw hB hz1 hk1 hS d_6 hd0 => ?_)
        have hts := dr_words hts0 (d_6)
        have hK := gKd hK0 (d_6)
        have hown : (s.setDrawn (d_6)).vm.findClass RX12 = some m.cls := hown0
        obtain ⟨hP, hD⟩ := gBack hF ht hB
        obtain ⟨hIσ2, fcσ2, hp_7⟩ := hw
        refine W.endD hd0 ?_
        exact W.iret (v := r_5) hx hb hr (fun t ht hW => ⟨⟨r_5, σ2, rfl, ⟨hIσ2, (mFr.tr frσ26x fcσ2 (by decide) (by decide)), trivial⟩, ⟨by rw [ht]; exact hP, hD⟩⟩, hS.F ht⟩) hS.2.2 dX12_cheapest_129
      · refine lv_aload_n hx hb dX12_cheapest_35 rfl (lv_at hl 3 rfl) ?_
        refine lv_aload_n hx hb dX12_cheapest_36 rfl (lv_at hl 3 rfl) ?_
        refine va_get (D := (dC, dI)) (ci := 11) (v := .ref (ad 11)) (C := RX12) (T := TX12) (N := 69) hx hb hts hinX12 hown hK hP 0 (mat_11 rfl) rfl 15 (by decide) (hts (.fieldLink RX12 45 "BondCalendarsModel" "quoteBond" "[I") (by decide +kernel)) (fun _ h9 => h9) rfl dX12_cheapest_37 ?_
        refine lv_iload hx hb dX12_cheapest_40 (lv_at hl 0 rfl) ?_
        refine va_iald hx hb hK hP 11 11 (mat_51 rfl) (mty_51 rfl) (gin (N := 12) (by decide) iv26_0 (Int32.lt_trans (Int32.lt_of_lt_of_le (Int32.not_le.mp c_4) bd_3.2) (show (6 : Int32) < 12 by decide))) dX12_cheapest_42 ?_
        refine lv_topi (fun x_8 ex_8 => ?_)
        have ex_8 : x_8 = ((σ 11).1 i4.toNatClampNeg) := by rw [ex_8, frσ26x.1 11 (by decide) (by decide)]
        refine lv_aload_n hx hb dX12_cheapest_43 rfl (lv_at hl 3 rfl) ?_
        refine va_get (D := (dC, dI)) (ci := 11) (v := .ref (ad 12)) (C := RX12) (T := TX12) (N := 69) hx hb hts hinX12 hown hK hP 0 (mat_11 rfl) rfl 16 (by decide) (hts (.fieldLink RX12 48 "BondCalendarsModel" "quoteDate" "[I") (by decide +kernel)) (fun _ h9 => h9) rfl dX12_cheapest_44 ?_
        refine lv_iload hx hb dX12_cheapest_47 (lv_at hl 0 rfl) ?_
        refine va_iald hx hb hK hP 12 12 (mat_52 rfl) (mty_52 rfl) (gin (N := 12) (by decide) iv26_0 (Int32.lt_trans (Int32.lt_of_lt_of_le (Int32.not_le.mp c_4) bd_3.2) (show (6 : Int32) < 12 by decide))) dX12_cheapest_49 ?_
        refine lv_topi (fun x_9 ex_9 => ?_)
        have ex_9 : x_9 = ((σ 12).1 i4.toNatClampNeg) := by rw [ex_9, frσ26x.1 12 (by decide) (by decide)]
        have qd_10 := qd_lt (hh0.2.1 _ (nc_lt iv26_0 (Int32.not_le.mp c_4))) ex_8 ex_9
        have bd_11 := mrd_11_20 (c := 0) hI rfl
        have hF := gFree hD hS hA
        refine va_callvD hd0 (va_runV_D (As := [.int x_8, .int x_9]) (rest := []) ⟨hx, hb, hml, hown, hts⟩ (n_X12_settles l dC dI ad cA adK adV H.size σ26x hIσ26x x_8 x_9 qd_10.1 (Int32.lt_of_lt_of_le qd_10.2.1 bd_11.2) ((Deep.fr hh0 (by rw [frσ26x.1 2 (by decide) (by decide)]) (by rw [frσ26x.1 4 (by decide) (by decide)]) (by rw [frσ26x.1 9 (by decide) (by decide)]) (by rw [frσ26x.1 11 (by decide) (by decide)]) (by rw [frσ26x.1 12 (by decide) (by decide)]) (by rw [frσ26x.1 17 (by decide) (by decide)]) (by rw [frσ26x.1 18 (by decide) (by decide)]) (by rw [frσ26x.2 20 (by decide)]) (by rw [frσ26x.2 21 (by decide)]) (by rw [frσ26x.2 28 (by decide)]) (by rw [frσ26x.2 64 (by decide)]) (by rw [frσ26x.2 65 (by decide)]) (by rw [frσ26x.2 68 (by decide)])).1 _ (nc_lt qd_10.1 (lt_ch (Eq.refl _) (show ((σ26x 0).1 20 : Int32) = ((σ 0).1 20 : Int32) from by rw [frσ26x.2 20 (by decide)]) qd_10.2.1))).1 ((Deep.fr hh0 (by rw [frσ26x.1 2 (by decide) (by decide)]) (by rw [frσ26x.1 4 (by decide) (by decide)]) (by rw [frσ26x.1 9 (by decide) (by decide)]) (by rw [frσ26x.1 11 (by decide) (by decide)]) (by rw [frσ26x.1 12 (by decide) (by decide)]) (by rw [frσ26x.1 17 (by decide) (by decide)]) (by rw [frσ26x.1 18 (by decide) (by decide)]) (by rw [frσ26x.2 20 (by decide)]) (by rw [frσ26x.2 21 (by decide)]) (by rw [frσ26x.2 28 (by decide)]) (by rw [frσ26x.2 64 (by decide)]) (by rw [frσ26x.2 65 (by decide)]) (by rw [frσ26x.2 68 (by decide)])).1 _ (nc_lt qd_10.1 (lt_ch (Eq.refl _) (show ((σ26x 0).1 20 : Int32) = ((σ 0).1 20 : Int32) from by rw [frσ26x.2 20 (by decide)]) qd_10.2.1))).2.1 (lt_ch (Eq.refl _) (show ((σ26x 4).1 x_8.toNatClampNeg : Int32) = ((σ 4).1 x_8.toNatClampNeg : Int32) from by rw [frσ26x.1 4 (by decide) (by decide)]) qd_10.2.2)) (cwV 2 hts gX12_cheapest_X12_settles rfl rfl rfl (by decide +kernel) ⟨Nat.le_of_ble_eq_true rfl, Nat.le_of_ble_eq_true rfl⟩) ⟨gBlind, va_recv hK hP (ci := 11) (q0 := 0) rfl (mat_11 rfl), gStart (As := [.ref (ad 0), .int x_8, .int x_9]) hP hD hK0 hT hS hF (d26)⟩ rfl rfl hl.1 rfl (lv_room (Nat.le_of_ble_eq_true rfl)) dX12_cheapest_50 ⟨Nat.le_of_ble_eq_true rfl, Nat.le_of_ble_eq_true rfl⟩) hS (fun q _ h => hF q h) hF (fun σ3 t H locs ht hvm hw hB hz1 hk1 hS d_13 hd0 => ?_)
        have hts := dr_words hts0 (d_13)
        have hK := gKd hK0 (d_13)
        have hown : (s.setDrawn (d_13)).vm.findClass RX12 = some m.cls := hown0
        obtain ⟨hP, hD⟩ := gBack hF ht hB
        obtain ⟨hIσ3, fcσ3, hp_14⟩ := hw
        refine lv_aload_n hx hb dX12_cheapest_53 rfl (lv_at hl 3 rfl) ?_
        refine lv_aload_n hx hb dX12_cheapest_54 rfl (lv_at hl 3 rfl) ?_
        refine va_get (D := (dC, dI)) (ci := 11) (v := .ref (ad 13)) (C := RX12) (T := TX12) (N := 69) hx hb hts hinX12 hown hK hP 0 (mat_11 rfl) rfl 17 (by decide) (hts (.fieldLink RX12 51 "BondCalendarsModel" "quotePrice" "[I") (by decide +kernel)) (fun _ h9 => h9) rfl dX12_cheapest_55 ?_
        refine lv_iload hx hb dX12_cheapest_58 (lv_at hl 0 rfl) ?_
        refine va_iald hx hb hK hP 13 13 (mat_53 rfl) (mty_53 rfl) (gin (N := 12) (by decide) iv26_0 (Int32.lt_trans (Int32.lt_of_lt_of_le (Int32.not_le.mp c_4) bd_3.2) (show (6 : Int32) < 12 by decide))) dX12_cheapest_60 ?_
        refine lv_topi (fun x_15 ex_15 => ?_)
        have ex_15 : x_15 = ((σ 13).1 i4.toNatClampNeg) := by rw [ex_15, fcσ3.1 13 (by decide) (by decide), frσ26x.1 13 (by decide) (by decide)]
        have hF := gFree hD hS hA
        refine va_calliD hd0 (va_runV_D (As := [.int x_15]) (rest := []) ⟨hx, hb, hml, hown, hts⟩ (n_X12_brackets l dC dI ad cA adK adV H.size σ3 hIσ3 x_15) (cwV 1 hts gX12_cheapest_X12_brackets rfl rfl rfl (by decide +kernel) ⟨Nat.le_of_ble_eq_true rfl, Nat.le_of_ble_eq_true rfl⟩) ⟨gBlind, va_recv hK hP (ci := 11) (q0 := 0) rfl (mat_11 rfl), gStart (As := [.ref (ad 0), .int x_15]) hP hD hK0 hT hS hF (d_13)⟩ rfl rfl hl.1 rfl (lv_room (Nat.le_of_ble_eq_true rfl)) dX12_cheapest_61 ⟨Nat.le_of_ble_eq_true rfl, Nat.le_of_ble_eq_true rfl⟩) hS (fun q _ h => hF q h) hF (fun r_16 σ4 t H locs ht hvm hw hB hz1 hk1 hS d_17 hd0 => ?_)
        have hts := dr_words hts0 (d_17)
        have hK := gKd hK0 (d_17)
        have hown : (s.setDrawn (d_17)).vm.findClass RX12 = some m.cls := hown0
        obtain ⟨hP, hD⟩ := gBack hF ht hB
        obtain ⟨hIσ4, fcσ4, hp_18⟩ := hw
        refine lv_if_ne (tgt := 70) hx hb dX12_cheapest_64 (by decide) (fun c_19 => ?_) (fun c_19 => ?_)
        · refine lv_iconst (v := 0) hx hb dX12_cheapest_70 (by decide) ?_
          refine lv_istore (lv' := [(5, .int 0), (4, .int i4), (2, .double mo), (1, .int be), (0, .ref (ad 0))]) hx hb dX12_cheapest_71 hl (by decide) rfl (fun ls hl => ?_)
          refine (fun (h : ∀ (n : Nat) (n5 : Int32) (σ73x : gs) (d73 : Drawn) (H : Heap) (locs : List Loc) (ls : Array Slot), ((40 : Int32).toInt - n5.toInt).toNat < n → 0 ≤ n5 → InvM σ73x → mFr [] [0, 1, 2, 47, 48, 49] σ σ73x → s.drawn.sameBut d73 lw_cs → va_P (dC, dI) vwCl (wM ad cA σ73x) H → va_D A (wM ad cA σ73x) → va_S A s.heap H locs → lv_has ls 6 [(5, .int n5), (4, .int i4), (2, .double mo), (1, .int be), (0, .ref (ad 0))] → W p l e _ (s.setDrawn d73) m _ below meth c H locs _ _ _ (F0 m 73 ls [])) => h _ 0 σ4 _ _ _ _ (Nat.lt_succ_self _) (by decide) hIσ4 (mFr.tr (mFr.tr frσ26x fcσ3 (by decide) (by decide)) fcσ4 (by decide) (by decide)) hd0 hP hD hS (lv_sub hl [0, 1, 2, 3, 4] rfl)) ?_
          intro n73
          induction n73 with
          | zero => intro n5 σ73x d73 H locs ls hm; exact absurd hm (Nat.not_lt_zero _)
          | succ n73 ih73 =>
            intro n5 σ73x d73 H locs ls hm73 iv73_0 hIσ73x frσ73x hd0 hP hD hS hl
            have hts := dr_words hts0 (d73)
            have hK := gKd hK0 (d73)
            have hown : (s.setDrawn (d73)).vm.findClass RX12 = some m.cls := hown0
            refine lv_iload hx hb dX12_cheapest_73 (lv_at hl 0 rfl) ?_
            refine lv_bipush (v := 40) hx hb dX12_cheapest_75 (by decide) ?_
            refine lv_icmp_ge (tgt := 92) hx hb dX12_cheapest_77 (by decide) (fun c_20 => ?_) (fun c_20 => ?_)
            · refine lv_iload_n hx hb dX12_cheapest_92 rfl (lv_at hl 3 rfl) ?_
              refine lv_bipush (v := (-2)) hx hb dX12_cheapest_93 (by decide) ?_
              refine lv_icmp_eq (tgt := 110) hx hb dX12_cheapest_95 (by decide) (fun c_21 => ?_) (fun c_21 => ?_)
              · refine lv_iload hx hb dX12_cheapest_110 (lv_at hl 1 rfl) ?_
                refine lv_istore_n (lv' := [(1, .int i4), (5, .int n5), (4, .int i4), (2, .double mo), (0, .ref (ad 0))]) hx hb dX12_cheapest_112 rfl hl (by decide) rfl (fun ls hl => ?_)
                refine lv_aload_n hx hb dX12_cheapest_113 rfl (lv_at hl 4 rfl) ?_
                refine va_get (D := (dC, dI)) (ci := 11) (v := .double ((σ73x 0).2.2.1 52)) (C := RX12) (T := TX12) (N := 69) hx hb hts hinX12 hown hK hP 0 (mat_11 rfl) rfl 52 (by decide) (hts (.fieldLink RX12 537 "BondCalendarsModel" "low" "D") (by decide +kernel)) (fun _ h9 => h9) rfl dX12_cheapest_114 ?_
                refine lv_dstore_n (lv' := [(2, .double ((σ73x 0).2.2.1 52)), (1, .int i4), (5, .int n5), (4, .int i4), (0, .ref (ad 0))]) hx hb dX12_cheapest_117 rfl hl (by decide) rfl (fun ls hl => ?_)
                obtain ⟨x_22, ex_22⟩ : ∃ zz : Int32, zz = i4 + 1 := ⟨_, rfl⟩
                refine lv_iinc (v := x_22) (lv' := [(4, .int x_22), (2, .double ((σ73x 0).2.2.1 52)), (1, .int i4), (5, .int n5), (0, .ref (ad 0))]) hx hb dX12_cheapest_118 hl (k := 3) rfl (by rw [ex_22]; rfl) (by decide) rfl (fun ls hl => ?_)
                refine lv_goto (tgt := 26) hx hb dX12_cheapest_121 (by decide) ?_
                exact ih26 x_22 i4 ((σ73x 0).2.2.1 52) σ73x _ _ _ _ (cnt_m iv26_0 (Int32.lt_of_lt_of_le (Int32.not_le.mp c_4) bd_3.2) hm26 ex_22) (cnt_0 iv26_0 (Int32.lt_of_lt_of_le (Int32.not_le.mp c_4) bd_3.2) ex_22) hIσ73x frσ73x hd0 hP hD hS (lv_sub hl [0, 1, 2, 4] rfl)
              · refine lv_aload_n hx hb dX12_cheapest_98 rfl (lv_at hl 4 rfl) ?_
                refine va_get (D := (dC, dI)) (ci := 11) (v := .double ((σ73x 0).2.2.1 52)) (C := RX12) (T := TX12) (N := 69) hx hb hts hinX12 hown hK hP 0 (mat_11 rfl) rfl 52 (by decide) (hts (.fieldLink RX12 537 "BondCalendarsModel" "low" "D") (by decide +kernel)) (fun _ h9 => h9) rfl dX12_cheapest_99 ?_
                refine lv_dload_n hx hb dX12_cheapest_102 rfl (lv_at hl 2 rfl) ?_
                refine lv_dcmp hx hb dX12_cheapest_103 ?_
                refine lv_topi (fun x_23 _ => ?_)
                refine lv_if_gt (tgt := 110) hx hb dX12_cheapest_104 (by decide) (fun c_24 => ?_) (fun c_24 => ?_)
                · refine lv_iload hx hb dX12_cheapest_110 (lv_at hl 1 rfl) ?_
                  refine lv_istore_n (lv' := [(1, .int i4), (5, .int n5), (4, .int i4), (2, .double mo), (0, .ref (ad 0))]) hx hb dX12_cheapest_112 rfl hl (by decide) rfl (fun ls hl => ?_)
                  refine lv_aload_n hx hb dX12_cheapest_113 rfl (lv_at hl 4 rfl) ?_
                  refine va_get (D := (dC, dI)) (ci := 11) (v := .double ((σ73x 0).2.2.1 52)) (C := RX12) (T := TX12) (N := 69) hx hb hts hinX12 hown hK hP 0 (mat_11 rfl) rfl 52 (by decide) (hts (.fieldLink RX12 537 "BondCalendarsModel" "low" "D") (by decide +kernel)) (fun _ h9 => h9) rfl dX12_cheapest_114 ?_
                  refine lv_dstore_n (lv' := [(2, .double ((σ73x 0).2.2.1 52)), (1, .int i4), (5, .int n5), (4, .int i4), (0, .ref (ad 0))]) hx hb dX12_cheapest_117 rfl hl (by decide) rfl (fun ls hl => ?_)
                  obtain ⟨x_25, ex_25⟩ : ∃ zz : Int32, zz = i4 + 1 := ⟨_, rfl⟩
                  refine lv_iinc (v := x_25) (lv' := [(4, .int x_25), (2, .double ((σ73x 0).2.2.1 52)), (1, .int i4), (5, .int n5), (0, .ref (ad 0))]) hx hb dX12_cheapest_118 hl (k := 3) rfl (by rw [ex_25]; rfl) (by decide) rfl (fun ls hl => ?_)
                  refine lv_goto (tgt := 26) hx hb dX12_cheapest_121 (by decide) ?_
                  exact ih26 x_25 i4 ((σ73x 0).2.2.1 52) σ73x _ _ _ _ (cnt_m iv26_0 (Int32.lt_of_lt_of_le (Int32.not_le.mp c_4) bd_3.2) hm26 ex_25) (cnt_0 iv26_0 (Int32.lt_of_lt_of_le (Int32.not_le.mp c_4) bd_3.2) ex_25) hIσ73x frσ73x hd0 hP hD hS (lv_sub hl [0, 1, 2, 4] rfl)
                · refine lv_goto (tgt := 118) hx hb dX12_cheapest_107 (by decide) ?_
                  obtain ⟨x_26, ex_26⟩ : ∃ zz : Int32, zz = i4 + 1 := ⟨_, rfl⟩
                  refine lv_iinc (v := x_26) (lv' := [(4, .int x_26), (5, .int n5), (2, .double mo), (1, .int be), (0, .ref (ad 0))]) hx hb dX12_cheapest_118 hl (k := 1) rfl (by rw [ex_26]; rfl) (by decide) rfl (fun ls hl => ?_)
                  refine lv_goto (tgt := 26) hx hb dX12_cheapest_121 (by decide) ?_
                  exact ih26 x_26 be mo σ73x _ _ _ _ (cnt_m iv26_0 (Int32.lt_of_lt_of_le (Int32.not_le.mp c_4) bd_3.2) hm26 ex_26) (cnt_0 iv26_0 (Int32.lt_of_lt_of_le (Int32.not_le.mp c_4) bd_3.2) ex_26) hIσ73x frσ73x hd0 hP hD hS (lv_sub hl [0, 2, 3, 4] rfl)
            · refine lv_aload_n hx hb dX12_cheapest_80 rfl (lv_at hl 4 rfl) ?_
              refine lv_iload hx hb dX12_cheapest_81 (lv_at hl 0 rfl) ?_
              have hF := gFree hD hS hA
              refine va_callvD hd0 (va_runV_D (As := [.int n5]) (rest := []) ⟨hx, hb, hml, hown, hts⟩ (n_X12_narrow l dC dI ad cA adK adV H.size σ73x hIσ73x n5) (cwV 1 hts gX12_cheapest_X12_narrow rfl rfl rfl (by decide +kernel) ⟨Nat.le_of_ble_eq_true rfl, Nat.le_of_ble_eq_true rfl⟩) ⟨gBlind, va_recv hK hP (ci := 11) (q0 := 0) rfl (mat_11 rfl), gStart (As := [.ref (ad 0), .int n5]) hP hD hK0 hT hS hF (d73)⟩ rfl rfl hl.1 rfl (lv_room (Nat.le_of_ble_eq_true rfl)) dX12_cheapest_83 ⟨Nat.le_of_ble_eq_true rfl, Nat.le_of_ble_eq_true rfl⟩) hS (fun q _ h => hF q h) hF (fun σ5 t H locs ht hvm hw hB hz1 hk1 hS d_28 hd0 => ?_)
              have hts := dr_words hts0 (d_28)
              have hK := gKd hK0 (d_28)
              have hown : (s.setDrawn (d_28)).vm.findClass RX12 = some m.cls := hown0
              obtain ⟨hP, hD⟩ := gBack hF ht hB
              obtain ⟨hIσ5, fcσ5, hp_29⟩ := hw
              obtain ⟨x_30, ex_30⟩ : ∃ zz : Int32, zz = n5 + 1 := ⟨_, rfl⟩
              refine lv_iinc (v := x_30) (lv' := [(5, .int x_30), (4, .int i4), (2, .double mo), (1, .int be), (0, .ref (ad 0))]) hx hb dX12_cheapest_86 hl (k := 0) rfl (by rw [ex_30]; rfl) (by decide) rfl (fun ls hl => ?_)
              refine lv_goto (tgt := 73) hx hb dX12_cheapest_89 (by decide) ?_
              exact ih73 x_30 σ5 _ _ _ _ (cnt_m iv73_0 (Int32.not_le.mp c_20) hm73 ex_30) (cnt_0 iv73_0 (Int32.not_le.mp c_20) ex_30) hIσ5 (mFr.tr frσ73x fcσ5 (by decide) (by decide)) hd0 hP hD hS (lv_sub hl [0, 1, 2, 3, 4] rfl)
        · refine lv_goto (tgt := 118) hx hb dX12_cheapest_67 (by decide) ?_
          obtain ⟨x_31, ex_31⟩ : ∃ zz : Int32, zz = i4 + 1 := ⟨_, rfl⟩
          refine lv_iinc (v := x_31) (lv' := [(4, .int x_31), (2, .double mo), (1, .int be), (0, .ref (ad 0))]) hx hb dX12_cheapest_118 hl (k := 0) rfl (by rw [ex_31]; rfl) (by decide) rfl (fun ls hl => ?_)
          refine lv_goto (tgt := 26) hx hb dX12_cheapest_121 (by decide) ?_
          exact ih26 x_31 be mo σ4 _ _ _ _ (cnt_m iv26_0 (Int32.lt_of_lt_of_le (Int32.not_le.mp c_4) bd_3.2) hm26 ex_31) (cnt_0 iv26_0 (Int32.lt_of_lt_of_le (Int32.not_le.mp c_4) bd_3.2) ex_31) hIσ4 (mFr.tr (mFr.tr frσ26x fcσ3 (by decide) (by decide)) fcσ4 (by decide) (by decide)) hd0 hP hD hS (lv_sub hl [0, 1, 2, 3] rfl)
  · refine lv_aload_n hx hb dX12_cheapest_12 rfl (lv_at hl 0 rfl) ?_
    refine lv_iconst (v := 1) hx hb dX12_cheapest_13 (by decide) ?_
    have hF := gFree hD hS hA
    refine va_calliD hd0 (va_runV_D (As := [.int 1]) (rest := []) ⟨hx, hb, hml, hown, hts⟩ (n_X12_refused l dC dI ad cA adK adV H.size σ1 hIσ1 1) (cwV 1 hts gX12_cheapest_X12_refused rfl rfl rfl (by decide +kernel) ⟨Nat.le_of_ble_eq_true rfl, Nat.le_of_ble_eq_true rfl⟩) ⟨gBlind, va_recv hK hP (ci := 11) (q0 := 0) rfl (mat_11 rfl), gStart (As := [.ref (ad 0), .int 1]) hP hD hK0 hT hS hF (s.drawn)⟩ rfl rfl hl.1 rfl (lv_room (Nat.le_of_ble_eq_true rfl)) dX12_cheapest_14 ⟨Nat.le_of_ble_eq_true rfl, Nat.le_of_ble_eq_true rfl⟩) hS (fun q _ h => hF q h) hF (fun r_32 σ6 t H locs ht hvm hw hB hz1 hk1 hS d_33 hd0 => ?_)
    have hts := dr_words hts0 (d_33)
    have hK := gKd hK0 (d_33)
    have hown : (s.setDrawn (d_33)).vm.findClass RX12 = some m.cls := hown0
    obtain ⟨hP, hD⟩ := gBack hF ht hB
    obtain ⟨hIσ6, fcσ6, hp_34⟩ := hw
    refine W.endD hd0 ?_
    exact W.iret (v := r_32) hx hb hr (fun t ht hW => ⟨⟨r_32, σ6, rfl, ⟨hIσ6, (mFr.tr frσ1 fcσ6 (by decide) (by decide)), trivial⟩, ⟨by rw [ht]; exact hP, hD⟩⟩, hS.F ht⟩) hS.2.2 dX12_cheapest_17
set_option maxHeartbeats 8000000 in
set_option maxRecDepth 100000 in
theorem n_X12_worth (l : Launch) (dC : Nat → ClassId) (dI : Nat → Nat → Nat) (ad : Nat → Nat) (cA : Nat → ClassId) (adK adV : Nat → Nat) (sz : Nat) (σ : gs) (hI : InvM σ) (p0 : Int32) (hh0 : Deep σ) : MetD lw_cs l yX12_worth wsX12_worth ({ frames := 7, cells := 0, slots := 0, locals := 181 }) (va_Pc [.ref (ad 0), .int p0] (gPre adK adV (dC, dI) (wM ad cA σ) (tM cA) sz)) (va_Ql (fun (r : Int64) (τ : gs) => InvM τ ∧ mFr [] [0, 1, 2, 47, 48, 49] σ τ ∧ (True)) (fun τ t => gPost (dC, dI) (va_A (wM ad cA σ) sz) (wM ad cA τ) t) (va_A (wM ad cA σ) sz)) 0 0 (va_A (wM ad cA σ) sz) := by
  refine MetD.ofW (cc := cX12_worth) (maxL := 5) (ret := (some .long)) (by decide) rfl ?_
  intro p e s m args below meth c s₁ B hml hv hd0
  obtain ⟨rfl, hsz, hP, hK, hD0, hT⟩ := hv
  have hx := B.exec
  have hb := B.bytes
  have hr := B.returns
  have hts0 := atoms_spec (ws := wsX12_worth) B.pre
  have hK0 := hK
  have hown0 : s.vm.findClass RX12 = some m.cls := findClass_of_methodNamed B.named
  have hlocks := B.notSynchronized
  have hinX12 : ∀ w ∈ u_ws RX12 TX12 69, w ∈ wsX12_worth := (fun _ h9 => List.mem_cons_of_mem _ (List.mem_append_right _ h9))
  subst hsz
  have hD := hD0.self (sz := s.heap.size)
  generalize hAe : va_A (wM ad cA σ) s.heap.size = A at hD hT ⊢
  have hA : ∀ q : Nat, s.heap.size ≤ q → A q := fun q h => by rw [← hAe]; exact Or.inr h
  have hS : va_S A s.heap s.heap [] := va_S.rf
  have hl := lv_entry ([.ref (ad 0), .int p0]) (n := 5) (Nat.le_of_ble_eq_true rfl)
  rw [lg_entry_eq]
  generalize (lg_sl ([.ref (ad 0), .int p0]) ++ List.replicate (5 - (lg_sl ([.ref (ad 0), .int p0])).length) Slot.unset).toArray = ls at hl ⊢
  have hl : lv_has ls 5 [(0, .ref (ad 0)), (1, .int p0)] := hl
  have hts := dr_words hts0 (s.drawn)
  have hK := gKd hK0 (s.drawn)
  have hown : (s.setDrawn (s.drawn)).vm.findClass RX12 = some m.cls := hown0
  refine lv_aload_n hx hb dX12_worth_0 rfl (lv_at hl 0 rfl) ?_
  refine lv_iconst (v := 0) hx hb dX12_worth_1 (by decide) ?_
  refine va_put (D := (dC, dI)) (ci := 11) (v := .int 0) (C := RX12) (T := TX12) (N := 69) hx hb hts hinX12 tyX12 tyX12_ok nmX12 hown hK hP hD hS 0 (mat_11 rfl) rfl 0 (by decide) (hts (.fieldLink RX12 107 "BondCalendarsModel" "thrown" "I") (by decide +kernel)) (fun _ h9 => h9) rfl (ty := .int) (by decide +kernel) rfl rfl (Nat.le_of_ble_eq_true rfl) dX12_worth_2 (fun H locs hP hD hS => ?_)
  obtain ⟨σ1, eσ1, hP, hD⟩ := gPut (mse_11_0 rfl) hP hD
  have hIσ1 : InvM σ1 := by rw [eσ1]; exact minv_I hI (mok_11_0 rfl _)
  have frσ1 : mFr [] [0, 1, 2, 47, 48, 49] σ σ1 := by rw [eσ1]; exact mFr.oI (mFr.rfl (L := []) (F := [0, 1, 2, 47, 48, 49]) (σ := σ)) (by decide)
  refine lv_aload_n hx hb dX12_worth_5 rfl (lv_at hl 0 rfl) ?_
  have bd_1 := mrd_11_28 (c := 0) hI rfl
  refine va_get (D := (dC, dI)) (ci := 11) (v := .int ((σ 0).1 28)) (C := RX12) (T := TX12) (N := 69) hx hb hts hinX12 hown hK hP 0 (mat_11 rfl) rfl 28 (by decide) (hts (.fieldLink RX12 361 "BondCalendarsModel" "isThere" "Z") (by decide +kernel)) (fun _ h9 => h9) (congrArg (fun z => some (Value.int z)) (show (σ1 0).1 28 = ((σ 0).1 28) from by rw [eσ1, gI_oth _ _ _ (by decide)])) dX12_worth_6 ?_
  refine lv_if_ne (tgt := 21) hx hb dX12_worth_9 (by decide) (fun c_2 => ?_) (fun c_2 => ?_)
  · refine lv_iload_n hx hb dX12_worth_21 rfl (lv_at hl 1 rfl) ?_
    have hF := gFree (w := []) (hx_D0 (A := A)) hS hA
    have hKe := hK.sub (tys' := []) [] rfl
    refine va_calli (va_runS (As := [.int p0]) (rest := []) ⟨hx, hb, hml, hown, hts⟩ (k_X12_isPoints l dC dI H.size p0 ) (va_cwS 1 hts gX12_worth_X12_isPoints rfl rfl rfl (by decide +kernel) ⟨Nat.le_of_ble_eq_true rfl, Nat.le_of_ble_eq_true rfl⟩) ⟨fun a U g mk q => by obtain ⟨q0, q1, qP, qK, qD⟩ := q; exact ⟨q0, q1, qP, va_K.moved (u := U) (U := U.calling g mk a) (Vm.Alike.refl U.vm) qK, qD⟩, fun U hU hW => ⟨rfl, by rw [hU], hx_P0, va_K.moved hW.alike hKe, hx_D0⟩⟩ rfl rfl hl.1 rfl (lv_room (Nat.le_of_ble_eq_true rfl)) dX12_worth_22 ⟨Nat.le_of_ble_eq_true rfl, Nat.le_of_ble_eq_true rfl⟩) hS (fun q _ h => hF q h) hF (fun r_3 u t H locs ht hvm hw hB hz1 hk1 hS => ?_)
    have hP := gKeep hP hk1
    have pu_4 : r_3 = f_X12_isPoints p0 := hw
    refine lv_if_ne (tgt := 37) hx hb dX12_worth_25 (by decide) (fun c_5 => ?_) (fun c_5 => ?_)
    · refine lv_aload_n hx hb dX12_worth_37 rfl (lv_at hl 0 rfl) ?_
      refine va_get (D := (dC, dI)) (ci := 11) (v := .long ((σ1 0).2.1 66)) (C := RX12) (T := TX12) (N := 69) hx hb hts hinX12 hown hK hP 0 (mat_11 rfl) rfl 66 (by decide) (hts (.fieldLink RX12 380 "BondCalendarsModel" "cash" "J") (by decide +kernel)) (fun _ h9 => h9) rfl dX12_worth_38 ?_
      refine lv_l2d hx hb dX12_worth_41 ?_
      refine lv_topd (fun y_6 _ => ?_)
      refine lv_ldc2d (v := 4636737291354636288) hx hb hown (hts (.constantDouble RX12 503 (4636737291354636288)) (by decide +kernel)) dX12_worth_42 ?_
      refine lv_ddiv_any hd0 lw_bits hx hb dX12_worth_45 (fun y_7 d_8 _ hd0 => ?_)
      have hts := dr_words hts0 (d_8)
      have hK := gKd hK0 (d_8)
      have hown : (s.setDrawn (d_8)).vm.findClass RX12 = some m.cls := hown0
      refine lv_dstore_n (lv' := [(2, .double y_7), (0, .ref (ad 0)), (1, .int p0)]) hx hb dX12_worth_46 rfl hl (by decide) rfl (fun ls hl => ?_)
      refine lv_iconst (v := 0) hx hb dX12_worth_47 (by decide) ?_
      refine lv_istore (lv' := [(4, .int 0), (2, .double y_7), (0, .ref (ad 0)), (1, .int p0)]) hx hb dX12_worth_48 hl (by decide) rfl (fun ls hl => ?_)
      refine (fun (h : ∀ (n : Nat) (b4 : Int32) (al : UInt64) (σ50x : gs) (d50 : Drawn) (H : Heap) (locs : List Loc) (ls : Array Slot), ((4 : Int32).toInt - b4.toInt).toNat < n → 0 ≤ b4 → InvM σ50x → mFr [] [0, 1, 2, 47, 48, 49] σ σ50x → s.drawn.sameBut d50 lw_cs → va_P (dC, dI) vwCl (wM ad cA σ50x) H → va_D A (wM ad cA σ50x) → va_S A s.heap H locs → lv_has ls 5 [(4, .int b4), (2, .double al), (0, .ref (ad 0)), (1, .int p0)] → W p l e _ (s.setDrawn d50) m _ below meth c H locs _ _ _ (F0 m 50 ls [])) => h _ 0 y_7 σ1 _ _ _ _ (Nat.lt_succ_self _) (by decide) hIσ1 frσ1 hd0 hP hD hS (lv_sub hl [0, 1, 2, 3] rfl)) ?_
      intro n50
      induction n50 with
      | zero => intro b4 al σ50x d50 H locs ls hm; exact absurd hm (Nat.not_lt_zero _)
      | succ n50 ih50 =>
        intro b4 al σ50x d50 H locs ls hm50 iv50_0 hIσ50x frσ50x hd0 hP hD hS hl
        have hts := dr_words hts0 (d50)
        have hK := gKd hK0 (d50)
        have hown : (s.setDrawn (d50)).vm.findClass RX12 = some m.cls := hown0
        refine lv_iload hx hb dX12_worth_50 (lv_at hl 0 rfl) ?_
        refine lv_aload_n hx hb dX12_worth_52 rfl (lv_at hl 2 rfl) ?_
        have bd_9 := mrd_11_20 (c := 0) hI rfl
        refine va_get (D := (dC, dI)) (ci := 11) (v := .int ((σ 0).1 20)) (C := RX12) (T := TX12) (N := 69) hx hb hts hinX12 hown hK hP 0 (mat_11 rfl) rfl 20 (by decide) (hts (.fieldLink RX12 358 "BondCalendarsModel" "bonds" "I") (by decide +kernel)) (fun _ h9 => h9) (congrArg (fun z => some (Value.int z)) (show (σ50x 0).1 20 = ((σ 0).1 20) from by rw [frσ50x.2 20 (by decide)])) dX12_worth_53 ?_
        refine lv_icmp_ge (tgt := 111) hx hb dX12_worth_56 (by decide) (fun c_10 => ?_) (fun c_10 => ?_)
        · refine lv_aload_n hx hb dX12_worth_111 rfl (lv_at hl 2 rfl) ?_
          refine lv_dload_n hx hb dX12_worth_112 rfl (lv_at hl 1 rfl) ?_
          have hF := gFree hD hS hA
          refine va_calllD hd0 (va_runV_D (As := [.double al]) (rest := []) ⟨hx, hb, hml, hown, hts⟩ (n_X12_goodBits l dC dI ad cA adK adV H.size σ50x hIσ50x al) (cwV 1 hts gX12_worth_X12_goodBits rfl rfl rfl (by decide +kernel) ⟨Nat.le_of_ble_eq_true rfl, Nat.le_of_ble_eq_true rfl⟩) ⟨gBlind, va_recv hK hP (ci := 11) (q0 := 0) rfl (mat_11 rfl), gStart (As := [.ref (ad 0), .double al]) hP hD hK0 hT hS hF (d50)⟩ rfl rfl hl.1 rfl (lv_room (Nat.le_of_ble_eq_true rfl)) dX12_worth_113 ⟨Nat.le_of_ble_eq_true rfl, Nat.le_of_ble_eq_true rfl⟩) hS (fun q _ h => hF q h) hF (fun r_11 σ2 t H locs ht hvm hw hB hz1 hk1 hS d_12 hd0 => ?_)
          have hts := dr_words hts0 (d_12)
          have hK := gKd hK0 (d_12)
          have hown : (s.setDrawn (d_12)).vm.findClass RX12 = some m.cls := hown0
          obtain ⟨hP, hD⟩ := gBack hF ht hB
          obtain ⟨hIσ2, fcσ2, hp_13⟩ := hw
          refine W.endD hd0 ?_
          exact W.lret (v := r_11) hx hb hr (fun t ht hW => ⟨⟨r_11, σ2, rfl, ⟨hIσ2, (mFr.tr frσ50x fcσ2 (by decide) (by decide)), trivial⟩, ⟨by rw [ht]; exact hP, hD⟩⟩, hS.F ht⟩) hS.2.2 dX12_worth_116
        · refine lv_aload_n hx hb dX12_worth_59 rfl (lv_at hl 2 rfl) ?_
          refine lv_iload hx hb dX12_worth_60 (lv_at hl 0 rfl) ?_
          refine lv_aload_n hx hb dX12_worth_62 rfl (lv_at hl 2 rfl) ?_
          refine va_get (D := (dC, dI)) (ci := 11) (v := .int ((σ 0).1 64)) (C := RX12) (T := TX12) (N := 69) hx hb hts hinX12 hown hK hP 0 (mat_11 rfl) rfl 64 (by decide) (hts (.fieldLink RX12 377 "BondCalendarsModel" "now" "I") (by decide +kernel)) (fun _ h9 => h9) (congrArg (fun z => some (Value.int z)) (show (σ50x 0).1 64 = ((σ 0).1 64) from by rw [frσ50x.2 64 (by decide)])) dX12_worth_63 ?_
          have hF := gFree hD hS hA
          refine va_calliD hd0 (va_runV_D (As := [.int b4, .int ((σ 0).1 64)]) (rest := []) ⟨hx, hb, hml, hown, hts⟩ (n_X12_isSettle l dC dI ad cA adK adV H.size σ50x hIσ50x b4 ((σ 0).1 64) iv50_0 (Int32.lt_trans (Int32.lt_of_lt_of_le (Int32.not_le.mp c_10) bd_9.2) (show (4 : Int32) < 8 by decide))) (cwV 2 hts gX12_worth_X12_isSettle rfl rfl rfl (by decide +kernel) ⟨Nat.le_of_ble_eq_true rfl, Nat.le_of_ble_eq_true rfl⟩) ⟨gBlind, va_recv hK hP (ci := 11) (q0 := 0) rfl (mat_11 rfl), gStart (As := [.ref (ad 0), .int b4, .int ((σ 0).1 64)]) hP hD hK0 hT hS hF (d50)⟩ rfl rfl hl.1 rfl (lv_room (Nat.le_of_ble_eq_true rfl)) dX12_worth_66 ⟨Nat.le_of_ble_eq_true rfl, Nat.le_of_ble_eq_true rfl⟩) hS (fun q _ h => hF q h) hF (fun r_14 σ3 t H locs ht hvm hw hB hz1 hk1 hS d_15 hd0 => ?_)
          have hts := dr_words hts0 (d_15)
          have hK := gKd hK0 (d_15)
          have hown : (s.setDrawn (d_15)).vm.findClass RX12 = some m.cls := hown0
          obtain ⟨hP, hD⟩ := gBack hF ht hB
          obtain ⟨hIσ3, hro, hp_16⟩ := hw
          subst hro
          have im_17 : (1 : Int32) ≤ (r_14 : Int32) → ((σ 0).1 64 : Int32) < ((σ 4).1 b4.toNatClampNeg : Int32) := fun h9 => lt_ch (Eq.refl _).symm (show ((σ50x 4).1 b4.toNatClampNeg : Int32) = ((σ 4).1 b4.toNatClampNeg : Int32) from by rw [frσ50x.1 4 (by decide) (by decide)]).symm (hp_16.2 (le_ch (Eq.refl _) (Eq.refl _) h9))
          refine lv_if_ne (tgt := 75) hx hb dX12_worth_69 (by decide) (fun c_18 => ?_) (fun c_18 => ?_)
          · refine lv_aload_n hx hb dX12_worth_75 rfl (lv_at hl 2 rfl) ?_
            refine lv_iload hx hb dX12_worth_76 (lv_at hl 0 rfl) ?_
            refine lv_aload_n hx hb dX12_worth_78 rfl (lv_at hl 2 rfl) ?_
            refine va_get (D := (dC, dI)) (ci := 11) (v := .int ((σ 0).1 64)) (C := RX12) (T := TX12) (N := 69) hx hb hts hinX12 hown hK hP 0 (mat_11 rfl) rfl 64 (by decide) (hts (.fieldLink RX12 377 "BondCalendarsModel" "now" "I") (by decide +kernel)) (fun _ h9 => h9) (congrArg (fun z => some (Value.int z)) (show (σ50x 0).1 64 = ((σ 0).1 64) from by rw [frσ50x.2 64 (by decide)])) dX12_worth_79 ?_
            have hF := gFree hD hS hA
            refine va_callvD hd0 (va_runV_D (As := [.int b4, .int ((σ 0).1 64)]) (rest := []) ⟨hx, hb, hml, hown, hts⟩ (n_X12_settles l dC dI ad cA adK adV H.size σ50x hIσ50x b4 ((σ 0).1 64) iv50_0 (Int32.lt_of_lt_of_le (Int32.not_le.mp c_10) bd_9.2) ((Deep.fr hh0 (by rw [frσ50x.1 2 (by decide) (by decide)]) (by rw [frσ50x.1 4 (by decide) (by decide)]) (by rw [frσ50x.1 9 (by decide) (by decide)]) (by rw [frσ50x.1 11 (by decide) (by decide)]) (by rw [frσ50x.1 12 (by decide) (by decide)]) (by rw [frσ50x.1 17 (by decide) (by decide)]) (by rw [frσ50x.1 18 (by decide) (by decide)]) (by rw [frσ50x.2 20 (by decide)]) (by rw [frσ50x.2 21 (by decide)]) (by rw [frσ50x.2 28 (by decide)]) (by rw [frσ50x.2 64 (by decide)]) (by rw [frσ50x.2 65 (by decide)]) (by rw [frσ50x.2 68 (by decide)])).1 _ (nc_lt iv50_0 (lt_ch (Eq.refl _) (show ((σ50x 0).1 20 : Int32) = ((σ 0).1 20 : Int32) from by rw [frσ50x.2 20 (by decide)]) (Int32.not_le.mp c_10)))).1 ((Deep.fr hh0 (by rw [frσ50x.1 2 (by decide) (by decide)]) (by rw [frσ50x.1 4 (by decide) (by decide)]) (by rw [frσ50x.1 9 (by decide) (by decide)]) (by rw [frσ50x.1 11 (by decide) (by decide)]) (by rw [frσ50x.1 12 (by decide) (by decide)]) (by rw [frσ50x.1 17 (by decide) (by decide)]) (by rw [frσ50x.1 18 (by decide) (by decide)]) (by rw [frσ50x.2 20 (by decide)]) (by rw [frσ50x.2 21 (by decide)]) (by rw [frσ50x.2 28 (by decide)]) (by rw [frσ50x.2 64 (by decide)]) (by rw [frσ50x.2 65 (by decide)]) (by rw [frσ50x.2 68 (by decide)])).1 _ (nc_lt iv50_0 (lt_ch (Eq.refl _) (show ((σ50x 0).1 20 : Int32) = ((σ 0).1 20 : Int32) from by rw [frσ50x.2 20 (by decide)]) (Int32.not_le.mp c_10)))).2.1 (lt_ch (Eq.refl _) (show ((σ50x 4).1 b4.toNatClampNeg : Int32) = ((σ 4).1 b4.toNatClampNeg : Int32) from by rw [frσ50x.1 4 (by decide) (by decide)]) (im_17 (gl1 (b := 1) (ne_lt (b01_0 hp_16.1) c_18) (by decide))))) (cwV 2 hts gX12_worth_X12_settles rfl rfl rfl (by decide +kernel) ⟨Nat.le_of_ble_eq_true rfl, Nat.le_of_ble_eq_true rfl⟩) ⟨gBlind, va_recv hK hP (ci := 11) (q0 := 0) rfl (mat_11 rfl), gStart (As := [.ref (ad 0), .int b4, .int ((σ 0).1 64)]) hP hD hK0 hT hS hF (d_15)⟩ rfl rfl hl.1 rfl (lv_room (Nat.le_of_ble_eq_true rfl)) dX12_worth_82 ⟨Nat.le_of_ble_eq_true rfl, Nat.le_of_ble_eq_true rfl⟩) hS (fun q _ h => hF q h) hF (fun σ4 t H locs ht hvm hw hB hz1 hk1 hS d_20 hd0 => ?_)
            have hts := dr_words hts0 (d_20)
            have hK := gKd hK0 (d_20)
            have hown : (s.setDrawn (d_20)).vm.findClass RX12 = some m.cls := hown0
            obtain ⟨hP, hD⟩ := gBack hF ht hB
            obtain ⟨hIσ4, fcσ4, hp_21⟩ := hw
            refine lv_dload_n hx hb dX12_worth_85 rfl (lv_at hl 1 rfl) ?_
            refine lv_aload_n hx hb dX12_worth_86 rfl (lv_at hl 2 rfl) ?_
            refine va_get (D := (dC, dI)) (ci := 11) (v := .ref (ad 25)) (C := RX12) (T := TX12) (N := 69) hx hb hts hinX12 hown hK hP 0 (mat_11 rfl) rfl 58 (by decide) (hts (.fieldLink RX12 89 "BondCalendarsModel" "held" "[I") (by decide +kernel)) (fun _ h9 => h9) rfl dX12_worth_87 ?_
            refine lv_iload hx hb dX12_worth_90 (lv_at hl 0 rfl) ?_
            refine va_iald hx hb hK hP 25 25 (mat_65 rfl) (mty_65 rfl) (gin (N := 4) (by decide) iv50_0 (Int32.lt_of_lt_of_le (Int32.not_le.mp c_10) bd_9.2)) dX12_worth_92 ?_
            refine lv_topi (fun x_22 ex_22 => ?_)
            have ex_22 : x_22 = ((σ 25).1 b4.toNatClampNeg) := by rw [ex_22, fcσ4.1 25 (by decide) (by decide), frσ50x.1 25 (by decide) (by decide)]
            refine lv_i2d hx hb dX12_worth_93 ?_
            refine lv_topd (fun y_23 _ => ?_)
            refine lv_aload_n hx hb dX12_worth_94 rfl (lv_at hl 2 rfl) ?_
            refine lv_iload_n hx hb dX12_worth_95 rfl (lv_at hl 3 rfl) ?_
            have hF := gFree hD hS hA
            refine va_calldD hd0 (va_runS_D (As := [.int p0]) (rest := [.ref (ad 0), .double y_23, .double al]) ⟨hx, hb, hml, hown, hts⟩ (n_X12_asYield l dC dI ad cA adK adV H.size σ4 hIσ4 p0) (va_cwS 1 hts gX12_worth_X12_asYield rfl rfl rfl (by decide +kernel) ⟨Nat.le_of_ble_eq_true rfl, Nat.le_of_ble_eq_true rfl⟩) ⟨gBlind, gStart (As := [.int p0]) hP hD hK0 hT hS hF (d_20)⟩ rfl rfl hl.1 rfl (lv_room (Nat.le_of_ble_eq_true rfl)) dX12_worth_96 ⟨Nat.le_of_ble_eq_true rfl, Nat.le_of_ble_eq_true rfl⟩) hS (fun q _ h => hF q h) hF (fun r_24 σ5 t H locs ht hvm hw hB hz1 hk1 hS d_25 hd0 => ?_)
            have hts := dr_words hts0 (d_25)
            have hK := gKd hK0 (d_25)
            have hown : (s.setDrawn (d_25)).vm.findClass RX12 = some m.cls := hown0
            obtain ⟨hP, hD⟩ := gBack hF ht hB
            obtain ⟨hIσ5, hro, hp_26⟩ := hw
            subst hro
            have hF := gFree hD hS hA
            refine va_calldD hd0 (va_runV_D (As := [.double r_24]) (rest := [.double y_23, .double al]) ⟨hx, hb, hml, hown, hts⟩ (n_X12_dirtyAt l dC dI ad cA adK adV H.size σ4 hIσ4 r_24) (cwV 1 hts gX12_worth_X12_dirtyAt rfl rfl rfl (by decide +kernel) ⟨Nat.le_of_ble_eq_true rfl, Nat.le_of_ble_eq_true rfl⟩) ⟨gBlind, va_recv hK hP (ci := 11) (q0 := 0) rfl (mat_11 rfl), gStart (As := [.ref (ad 0), .double r_24]) hP hD hK0 hT hS hF (d_25)⟩ rfl rfl hl.1 rfl (lv_room (Nat.le_of_ble_eq_true rfl)) dX12_worth_99 ⟨Nat.le_of_ble_eq_true rfl, Nat.le_of_ble_eq_true rfl⟩) hS (fun q _ h => hF q h) hF (fun r_27 σ6 t H locs ht hvm hw hB hz1 hk1 hS d_28 hd0 => ?_)
            have hts := dr_words hts0 (d_28)
            have hK := gKd hK0 (d_28)
            have hown : (s.setDrawn (d_28)).vm.findClass RX12 = some m.cls := hown0
            obtain ⟨hP, hD⟩ := gBack hF ht hB
            obtain ⟨hIσ6, hro, hp_29⟩ := hw
            subst hro
            refine lv_dmul_any hd0 lw_bits hx hb dX12_worth_102 (fun y_30 d_31 _ hd0 => ?_)
            have hts := dr_words hts0 (d_31)
            have hK := gKd hK0 (d_31)
            have hown : (s.setDrawn (d_31)).vm.findClass RX12 = some m.cls := hown0
            refine lv_dadd_any hd0 lw_bits hx hb dX12_worth_103 (fun y_32 d_33 _ hd0 => ?_)
            have hts := dr_words hts0 (d_33)
            have hK := gKd hK0 (d_33)
            have hown : (s.setDrawn (d_33)).vm.findClass RX12 = some m.cls := hown0
            refine lv_dstore_n (lv' := [(2, .double y_32), (4, .int b4), (0, .ref (ad 0)), (1, .int p0)]) hx hb dX12_worth_104 rfl hl (by decide) rfl (fun ls hl => ?_)
            obtain ⟨x_34, ex_34⟩ : ∃ zz : Int32, zz = b4 + 1 := ⟨_, rfl⟩
            refine lv_iinc (v := x_34) (lv' := [(4, .int x_34), (2, .double y_32), (0, .ref (ad 0)), (1, .int p0)]) hx hb dX12_worth_105 hl (k := 1) rfl (by rw [ex_34]; rfl) (by decide) rfl (fun ls hl => ?_)
            refine lv_goto (tgt := 50) hx hb dX12_worth_108 (by decide) ?_
            exact ih50 x_34 y_32 σ4 _ _ _ _ (cnt_m iv50_0 (Int32.lt_of_lt_of_le (Int32.not_le.mp c_10) bd_9.2) hm50 ex_34) (cnt_0 iv50_0 (Int32.lt_of_lt_of_le (Int32.not_le.mp c_10) bd_9.2) ex_34) hIσ4 (mFr.tr frσ50x fcσ4 (by decide) (by decide)) hd0 hP hD hS (lv_sub hl [0, 1, 2, 3] rfl)
          · refine lv_goto (tgt := 105) hx hb dX12_worth_72 (by decide) ?_
            obtain ⟨x_35, ex_35⟩ : ∃ zz : Int32, zz = b4 + 1 := ⟨_, rfl⟩
            refine lv_iinc (v := x_35) (lv' := [(4, .int x_35), (2, .double al), (0, .ref (ad 0)), (1, .int p0)]) hx hb dX12_worth_105 hl (k := 0) rfl (by rw [ex_35]; rfl) (by decide) rfl (fun ls hl => ?_)
            refine lv_goto (tgt := 50) hx hb dX12_worth_108 (by decide) ?_
            exact ih50 x_35 al σ50x _ _ _ _ (cnt_m iv50_0 (Int32.lt_of_lt_of_le (Int32.not_le.mp c_10) bd_9.2) hm50 ex_35) (cnt_0 iv50_0 (Int32.lt_of_lt_of_le (Int32.not_le.mp c_10) bd_9.2) ex_35) hIσ50x frσ50x hd0 hP hD hS (lv_sub hl [0, 1, 2, 3] rfl)
    · refine lv_aload_n hx hb dX12_worth_28 rfl (lv_at hl 0 rfl) ?_
      refine lv_iconst (v := 2) hx hb dX12_worth_29 (by decide) ?_
      refine lv_ldc2 (v := (-9223372036854775808)) hx hb hown (hts (.constantLong RX12 482 (-9223372036854775808)) (by decide +kernel)) dX12_worth_30 ?_
      have hF := gFree hD hS hA
      refine va_calllD hd0 (va_runV_D (As := [.int 2, .long (-9223372036854775808)]) (rest := []) ⟨hx, hb, hml, hown, hts⟩ (n_X12_refusedLong l dC dI ad cA adK adV H.size σ1 hIσ1 2 (-9223372036854775808)) (cwV 2 hts gX12_worth_X12_refusedLong rfl rfl rfl (by decide +kernel) ⟨Nat.le_of_ble_eq_true rfl, Nat.le_of_ble_eq_true rfl⟩) ⟨gBlind, va_recv hK hP (ci := 11) (q0 := 0) rfl (mat_11 rfl), gStart (As := [.ref (ad 0), .int 2, .long (-9223372036854775808)]) hP hD hK0 hT hS hF (s.drawn)⟩ rfl rfl hl.1 rfl (lv_room (Nat.le_of_ble_eq_true rfl)) dX12_worth_33 ⟨Nat.le_of_ble_eq_true rfl, Nat.le_of_ble_eq_true rfl⟩) hS (fun q _ h => hF q h) hF (fun r_36 σ7 t H locs ht hvm hw hB hz1 hk1 hS d_37 hd0 => ?_)
      have hts := dr_words hts0 (d_37)
      have hK := gKd hK0 (d_37)
      have hown : (s.setDrawn (d_37)).vm.findClass RX12 = some m.cls := hown0
      obtain ⟨hP, hD⟩ := gBack hF ht hB
      obtain ⟨hIσ7, fcσ7, hp_38⟩ := hw
      refine W.endD hd0 ?_
      exact W.lret (v := r_36) hx hb hr (fun t ht hW => ⟨⟨r_36, σ7, rfl, ⟨hIσ7, (mFr.tr frσ1 fcσ7 (by decide) (by decide)), trivial⟩, ⟨by rw [ht]; exact hP, hD⟩⟩, hS.F ht⟩) hS.2.2 dX12_worth_36
  · refine lv_aload_n hx hb dX12_worth_12 rfl (lv_at hl 0 rfl) ?_
    refine lv_iconst (v := 1) hx hb dX12_worth_13 (by decide) ?_
    refine lv_ldc2 (v := (-9223372036854775808)) hx hb hown (hts (.constantLong RX12 482 (-9223372036854775808)) (by decide +kernel)) dX12_worth_14 ?_
    have hF := gFree hD hS hA
    refine va_calllD hd0 (va_runV_D (As := [.int 1, .long (-9223372036854775808)]) (rest := []) ⟨hx, hb, hml, hown, hts⟩ (n_X12_refusedLong l dC dI ad cA adK adV H.size σ1 hIσ1 1 (-9223372036854775808)) (cwV 2 hts gX12_worth_X12_refusedLong rfl rfl rfl (by decide +kernel) ⟨Nat.le_of_ble_eq_true rfl, Nat.le_of_ble_eq_true rfl⟩) ⟨gBlind, va_recv hK hP (ci := 11) (q0 := 0) rfl (mat_11 rfl), gStart (As := [.ref (ad 0), .int 1, .long (-9223372036854775808)]) hP hD hK0 hT hS hF (s.drawn)⟩ rfl rfl hl.1 rfl (lv_room (Nat.le_of_ble_eq_true rfl)) dX12_worth_17 ⟨Nat.le_of_ble_eq_true rfl, Nat.le_of_ble_eq_true rfl⟩) hS (fun q _ h => hF q h) hF (fun r_39 σ8 t H locs ht hvm hw hB hz1 hk1 hS d_40 hd0 => ?_)
    have hts := dr_words hts0 (d_40)
    have hK := gKd hK0 (d_40)
    have hown : (s.setDrawn (d_40)).vm.findClass RX12 = some m.cls := hown0
    obtain ⟨hP, hD⟩ := gBack hF ht hB
    obtain ⟨hIσ8, fcσ8, hp_41⟩ := hw
    refine W.endD hd0 ?_
    exact W.lret (v := r_39) hx hb hr (fun t ht hW => ⟨⟨r_39, σ8, rfl, ⟨hIσ8, (mFr.tr frσ1 fcσ8 (by decide) (by decide)), trivial⟩, ⟨by rw [ht]; exact hP, hD⟩⟩, hS.F ht⟩) hS.2.2 dX12_worth_20
set_option maxHeartbeats 8000000 in
set_option maxRecDepth 100000 in
theorem n_X12_deal (l : Launch) (dC : Nat → ClassId) (dI : Nat → Nat → Nat) (ad : Nat → Nat) (cA : Nat → ClassId) (adK adV : Nat → Nat) (sz : Nat) (σ : gs) (hI : InvM σ) (p0 : Int32) (p1 : Int32) (p2 : Int32) (hh0 : Deep σ) : MetD lw_cs l yX12_deal wsX12_deal ({ frames := 6, cells := 0, slots := 0, locals := 159 }) (va_Pc [.ref (ad 0), .int p0, .int p1, .int p2] (gPre adK adV (dC, dI) (wM ad cA σ) (tM cA) sz)) (va_Ql (fun (r : Int64) (τ : gs) => InvM τ ∧ mFr [65] [0, 1, 2] σ τ ∧ (True)) (fun τ t => gPost (dC, dI) (va_A (wM ad cA σ) sz) (wM ad cA τ) t) (va_A (wM ad cA σ) sz)) 0 0 (va_A (wM ad cA σ) sz) := by
  refine MetD.ofW (cc := cX12_deal) (maxL := 6) (ret := (some .long)) (by decide) rfl ?_
  intro p e s m args below meth c s₁ B hml hv hd0
  obtain ⟨rfl, hsz, hP, hK, hD0, hT⟩ := hv
  have hx := B.exec
  have hb := B.bytes
  have hr := B.returns
  have hts0 := atoms_spec (ws := wsX12_deal) B.pre
  have hK0 := hK
  have hown0 : s.vm.findClass RX12 = some m.cls := findClass_of_methodNamed B.named
  have hlocks := B.notSynchronized
  have hinX12 : ∀ w ∈ u_ws RX12 TX12 69, w ∈ wsX12_deal := (fun _ h9 => List.mem_cons_of_mem _ (List.mem_append_right _ h9))
  subst hsz
  have hD := hD0.self (sz := s.heap.size)
  generalize hAe : va_A (wM ad cA σ) s.heap.size = A at hD hT ⊢
  have hA : ∀ q : Nat, s.heap.size ≤ q → A q := fun q h => by rw [← hAe]; exact Or.inr h
  have hS : va_S A s.heap s.heap [] := va_S.rf
  have hl := lv_entry ([.ref (ad 0), .int p0, .int p1, .int p2]) (n := 6) (Nat.le_of_ble_eq_true rfl)
  rw [lg_entry_eq]
  generalize (lg_sl ([.ref (ad 0), .int p0, .int p1, .int p2]) ++ List.replicate (6 - (lg_sl ([.ref (ad 0), .int p0, .int p1, .int p2])).length) Slot.unset).toArray = ls at hl ⊢
  have hl : lv_has ls 6 [(0, .ref (ad 0)), (1, .int p0), (2, .int p1), (3, .int p2)] := hl
  have hts := dr_words hts0 (s.drawn)
  have hK := gKd hK0 (s.drawn)
  have hown : (s.setDrawn (s.drawn)).vm.findClass RX12 = some m.cls := hown0
  refine lv_aload_n hx hb dX12_deal_0 rfl (lv_at hl 0 rfl) ?_
  refine lv_iconst (v := 0) hx hb dX12_deal_1 (by decide) ?_
  refine va_put (D := (dC, dI)) (ci := 11) (v := .int 0) (C := RX12) (T := TX12) (N := 69) hx hb hts hinX12 tyX12 tyX12_ok nmX12 hown hK hP hD hS 0 (mat_11 rfl) rfl 0 (by decide) (hts (.fieldLink RX12 107 "BondCalendarsModel" "thrown" "I") (by decide +kernel)) (fun _ h9 => h9) rfl (ty := .int) (by decide +kernel) rfl rfl (Nat.le_of_ble_eq_true rfl) dX12_deal_2 (fun H locs hP hD hS => ?_)
  obtain ⟨σ1, eσ1, hP, hD⟩ := gPut (mse_11_0 rfl) hP hD
  have hIσ1 : InvM σ1 := by rw [eσ1]; exact minv_I hI (mok_11_0 rfl _)
  have frσ1 : mFr [65] [0, 1, 2] σ σ1 := by rw [eσ1]; exact mFr.oI (mFr.rfl (L := [65]) (F := [0, 1, 2]) (σ := σ)) (by decide)
  refine lv_aload_n hx hb dX12_deal_5 rfl (lv_at hl 0 rfl) ?_
  refine lv_iload_n hx hb dX12_deal_6 rfl (lv_at hl 1 rfl) ?_
  have hF := gFree hD hS hA
  refine va_calliD hd0 (va_runV_D (As := [.int p0]) (rest := []) ⟨hx, hb, hml, hown, hts⟩ (n_X12_isBond l dC dI ad cA adK adV H.size σ1 hIσ1 p0) (cwV 1 hts gX12_deal_X12_isBond rfl rfl rfl (by decide +kernel) ⟨Nat.le_of_ble_eq_true rfl, Nat.le_of_ble_eq_true rfl⟩) ⟨gBlind, va_recv hK hP (ci := 11) (q0 := 0) rfl (mat_11 rfl), gStart (As := [.ref (ad 0), .int p0]) hP hD hK0 hT hS hF (s.drawn)⟩ rfl rfl hl.1 rfl (lv_room (Nat.le_of_ble_eq_true rfl)) dX12_deal_7 ⟨Nat.le_of_ble_eq_true rfl, Nat.le_of_ble_eq_true rfl⟩) hS (fun q _ h => hF q h) hF (fun r_1 σ2 t H locs ht hvm hw hB hz1 hk1 hS d_2 hd0 => ?_)
  have hts := dr_words hts0 (d_2)
  have hK := gKd hK0 (d_2)
  have hown : (s.setDrawn (d_2)).vm.findClass RX12 = some m.cls := hown0
  obtain ⟨hP, hD⟩ := gBack hF ht hB
  obtain ⟨hIσ2, hro, hp_3⟩ := hw
  subst hro
  have bd_4 := mrd_11_20 (c := 0) hI rfl
  have im_5 : (1 : Int32) ≤ (r_1 : Int32) → (p0 : Int32) < ((σ 0).1 20 : Int32) := fun h9 => lt_ch (Eq.refl _).symm (show ((σ1 0).1 20 : Int32) = ((σ 0).1 20 : Int32) from by rw [eσ1, gI_oth _ _ _ (by decide)]).symm (hp_3.2.2 (le_ch (Eq.refl _) (Eq.refl _) h9))
  refine lv_if_ne (tgt := 22) hx hb dX12_deal_10 (by decide) (fun c_6 => ?_) (fun c_6 => ?_)
  · refine lv_iload_n hx hb dX12_deal_22 rfl (lv_at hl 2 rfl) ?_
    refine lv_sipush (v := (-9999)) hx hb dX12_deal_23 (by decide) ?_
    refine lv_sipush (v := 9999) hx hb dX12_deal_26 (by decide) ?_
    have hF := gFree (w := []) (hx_D0 (A := A)) hS hA
    have hKe := hK.sub (tys' := []) [] rfl
    refine va_calli (va_runS (As := [.int p1, .int (-9999), .int 9999]) (rest := []) ⟨hx, hb, hml, hown, hts⟩ (k_X12_in l dC dI H.size p1 (-9999) 9999 ) (va_cwS 3 hts gX12_deal_X12_in rfl rfl rfl (by decide +kernel) ⟨Nat.le_of_ble_eq_true rfl, Nat.le_of_ble_eq_true rfl⟩) ⟨fun a U g mk q => by obtain ⟨q0, q1, qP, qK, qD⟩ := q; exact ⟨q0, q1, qP, va_K.moved (u := U) (U := U.calling g mk a) (Vm.Alike.refl U.vm) qK, qD⟩, fun U hU hW => ⟨rfl, by rw [hU], hx_P0, va_K.moved hW.alike hKe, hx_D0⟩⟩ rfl rfl hl.1 rfl (lv_room (Nat.le_of_ble_eq_true rfl)) dX12_deal_29 ⟨Nat.le_of_ble_eq_true rfl, Nat.le_of_ble_eq_true rfl⟩) hS (fun q _ h => hF q h) hF (fun r_7 u t H locs ht hvm hw hB hz1 hk1 hS => ?_)
    have hP := gKeep hP hk1
    have in_8 : r_7 = f_X12_in p1 (-9999) 9999 := hw
    have bin_8 : r_7 = 0 ∨ r_7 = 1 := by rw [in_8]; exact in01 _ _ _
    refine lv_if_eq (tgt := 50) hx hb dX12_deal_32 (by decide) (fun c_9 => ?_) (fun c_9 => ?_)
    · refine lv_aload_n hx hb dX12_deal_50 rfl (lv_at hl 0 rfl) ?_
      refine lv_iconst (v := 2) hx hb dX12_deal_51 (by decide) ?_
      refine lv_ldc2 (v := (-9223372036854775808)) hx hb hown (hts (.constantLong RX12 482 (-9223372036854775808)) (by decide +kernel)) dX12_deal_52 ?_
      have hF := gFree hD hS hA
      refine va_calllD hd0 (va_runV_D (As := [.int 2, .long (-9223372036854775808)]) (rest := []) ⟨hx, hb, hml, hown, hts⟩ (n_X12_refusedLong l dC dI ad cA adK adV H.size σ1 hIσ1 2 (-9223372036854775808)) (cwV 2 hts gX12_deal_X12_refusedLong rfl rfl rfl (by decide +kernel) ⟨Nat.le_of_ble_eq_true rfl, Nat.le_of_ble_eq_true rfl⟩) ⟨gBlind, va_recv hK hP (ci := 11) (q0 := 0) rfl (mat_11 rfl), gStart (As := [.ref (ad 0), .int 2, .long (-9223372036854775808)]) hP hD hK0 hT hS hF (d_2)⟩ rfl rfl hl.1 rfl (lv_room (Nat.le_of_ble_eq_true rfl)) dX12_deal_55 ⟨Nat.le_of_ble_eq_true rfl, Nat.le_of_ble_eq_true rfl⟩) hS (fun q _ h => hF q h) hF (fun r_10 σ3 t H locs ht hvm hw hB hz1 hk1 hS d_11 hd0 => ?_)
      have hts := dr_words hts0 (d_11)
      have hK := gKd hK0 (d_11)
      have hown : (s.setDrawn (d_11)).vm.findClass RX12 = some m.cls := hown0
      obtain ⟨hP, hD⟩ := gBack hF ht hB
      obtain ⟨hIσ3, fcσ3, hp_12⟩ := hw
      refine W.endD hd0 ?_
      exact W.lret (v := r_10) hx hb hr (fun t ht hW => ⟨⟨r_10, σ3, rfl, ⟨hIσ3, (mFr.tr frσ1 fcσ3 (by decide) (by decide)), trivial⟩, ⟨by rw [ht]; exact hP, hD⟩⟩, hS.F ht⟩) hS.2.2 dX12_deal_58
    · refine lv_iload_n hx hb dX12_deal_35 rfl (lv_at hl 2 rfl) ?_
      refine lv_if_eq (tgt := 50) hx hb dX12_deal_36 (by decide) (fun c_13 => ?_) (fun c_13 => ?_)
      · refine lv_aload_n hx hb dX12_deal_50 rfl (lv_at hl 0 rfl) ?_
        refine lv_iconst (v := 2) hx hb dX12_deal_51 (by decide) ?_
        refine lv_ldc2 (v := (-9223372036854775808)) hx hb hown (hts (.constantLong RX12 482 (-9223372036854775808)) (by decide +kernel)) dX12_deal_52 ?_
        have hF := gFree hD hS hA
        refine va_calllD hd0 (va_runV_D (As := [.int 2, .long (-9223372036854775808)]) (rest := []) ⟨hx, hb, hml, hown, hts⟩ (n_X12_refusedLong l dC dI ad cA adK adV H.size σ1 hIσ1 2 (-9223372036854775808)) (cwV 2 hts gX12_deal_X12_refusedLong rfl rfl rfl (by decide +kernel) ⟨Nat.le_of_ble_eq_true rfl, Nat.le_of_ble_eq_true rfl⟩) ⟨gBlind, va_recv hK hP (ci := 11) (q0 := 0) rfl (mat_11 rfl), gStart (As := [.ref (ad 0), .int 2, .long (-9223372036854775808)]) hP hD hK0 hT hS hF (d_2)⟩ rfl rfl hl.1 rfl (lv_room (Nat.le_of_ble_eq_true rfl)) dX12_deal_55 ⟨Nat.le_of_ble_eq_true rfl, Nat.le_of_ble_eq_true rfl⟩) hS (fun q _ h => hF q h) hF (fun r_14 σ4 t H locs ht hvm hw hB hz1 hk1 hS d_15 hd0 => ?_)
        have hts := dr_words hts0 (d_15)
        have hK := gKd hK0 (d_15)
        have hown : (s.setDrawn (d_15)).vm.findClass RX12 = some m.cls := hown0
        obtain ⟨hP, hD⟩ := gBack hF ht hB
        obtain ⟨hIσ4, fcσ4, hp_16⟩ := hw
        refine W.endD hd0 ?_
        exact W.lret (v := r_14) hx hb hr (fun t ht hW => ⟨⟨r_14, σ4, rfl, ⟨hIσ4, (mFr.tr frσ1 fcσ4 (by decide) (by decide)), trivial⟩, ⟨by rw [ht]; exact hP, hD⟩⟩, hS.F ht⟩) hS.2.2 dX12_deal_58
      · refine lv_iload_n hx hb dX12_deal_39 rfl (lv_at hl 3 rfl) ?_
        refine lv_iconst (v := 1) hx hb dX12_deal_40 (by decide) ?_
        refine lv_ldcw (v := 99999) hx hb hown (hts (.constant RX12 348 (99999)) (by decide +kernel)) dX12_deal_41 ?_
        have hF := gFree (w := []) (hx_D0 (A := A)) hS hA
        have hKe := hK.sub (tys' := []) [] rfl
        refine va_calli (va_runS (As := [.int p2, .int 1, .int 99999]) (rest := []) ⟨hx, hb, hml, hown, hts⟩ (k_X12_in l dC dI H.size p2 1 99999 ) (va_cwS 3 hts gX12_deal_X12_in rfl rfl rfl (by decide +kernel) ⟨Nat.le_of_ble_eq_true rfl, Nat.le_of_ble_eq_true rfl⟩) ⟨fun a U g mk q => by obtain ⟨q0, q1, qP, qK, qD⟩ := q; exact ⟨q0, q1, qP, va_K.moved (u := U) (U := U.calling g mk a) (Vm.Alike.refl U.vm) qK, qD⟩, fun U hU hW => ⟨rfl, by rw [hU], hx_P0, va_K.moved hW.alike hKe, hx_D0⟩⟩ rfl rfl hl.1 rfl (lv_room (Nat.le_of_ble_eq_true rfl)) dX12_deal_44 ⟨Nat.le_of_ble_eq_true rfl, Nat.le_of_ble_eq_true rfl⟩) hS (fun q _ h => hF q h) hF (fun r_17 u t H locs ht hvm hw hB hz1 hk1 hS => ?_)
        have hP := gKeep hP hk1
        have in_18 : r_17 = f_X12_in p2 1 99999 := hw
        have bin_18 : r_17 = 0 ∨ r_17 = 1 := by rw [in_18]; exact in01 _ _ _
        refine lv_if_ne (tgt := 59) hx hb dX12_deal_47 (by decide) (fun c_19 => ?_) (fun c_19 => ?_)
        · refine lv_aload_n hx hb dX12_deal_59 rfl (lv_at hl 0 rfl) ?_
          refine lv_iload_n hx hb dX12_deal_60 rfl (lv_at hl 1 rfl) ?_
          refine lv_aload_n hx hb dX12_deal_61 rfl (lv_at hl 0 rfl) ?_
          refine va_get (D := (dC, dI)) (ci := 11) (v := .int ((σ 0).1 64)) (C := RX12) (T := TX12) (N := 69) hx hb hts hinX12 hown hK hP 0 (mat_11 rfl) rfl 64 (by decide) (hts (.fieldLink RX12 377 "BondCalendarsModel" "now" "I") (by decide +kernel)) (fun _ h9 => h9) (congrArg (fun z => some (Value.int z)) (show (σ1 0).1 64 = ((σ 0).1 64) from by rw [eσ1, gI_oth _ _ _ (by decide)])) dX12_deal_62 ?_
          have hF := gFree hD hS hA
          refine va_calliD hd0 (va_runV_D (As := [.int p0, .int ((σ 0).1 64)]) (rest := []) ⟨hx, hb, hml, hown, hts⟩ (n_X12_isSettle l dC dI ad cA adK adV H.size σ1 hIσ1 p0 ((σ 0).1 64) ((hp_3.2.1) (gl1 (b := 1) (ne_lt (b01_0 hp_3.1) c_6) (by decide))) (Int32.lt_trans (Int32.lt_of_lt_of_le (im_5 (gl1 (b := 1) (ne_lt (b01_0 hp_3.1) c_6) (by decide))) bd_4.2) (show (4 : Int32) < 8 by decide))) (cwV 2 hts gX12_deal_X12_isSettle rfl rfl rfl (by decide +kernel) ⟨Nat.le_of_ble_eq_true rfl, Nat.le_of_ble_eq_true rfl⟩) ⟨gBlind, va_recv hK hP (ci := 11) (q0 := 0) rfl (mat_11 rfl), gStart (As := [.ref (ad 0), .int p0, .int ((σ 0).1 64)]) hP hD hK0 hT hS hF (d_2)⟩ rfl rfl hl.1 rfl (lv_room (Nat.le_of_ble_eq_true rfl)) dX12_deal_65 ⟨Nat.le_of_ble_eq_true rfl, Nat.le_of_ble_eq_true rfl⟩) hS (fun q _ h => hF q h) hF (fun r_20 σ5 t H locs ht hvm hw hB hz1 hk1 hS d_21 hd0 => ?_)
          have hts := dr_words hts0 (d_21)
          have hK := gKd hK0 (d_21)
          have hown : (s.setDrawn (d_21)).vm.findClass RX12 = some m.cls := hown0
          obtain ⟨hP, hD⟩ := gBack hF ht hB
          obtain ⟨hIσ5, hro, hp_22⟩ := hw
          subst hro
          have im_23 : (1 : Int32) ≤ (r_20 : Int32) → ((σ 0).1 64 : Int32) < ((σ 4).1 p0.toNatClampNeg : Int32) := fun h9 => lt_ch (Eq.refl _).symm (show ((σ1 4).1 p0.toNatClampNeg : Int32) = ((σ 4).1 p0.toNatClampNeg : Int32) from by rw [eσ1, gI_ne _ _ _ (by decide)]).symm (hp_22.2 (le_ch (Eq.refl _) (Eq.refl _) h9))
          refine lv_if_ne (tgt := 80) hx hb dX12_deal_68 (by decide) (fun c_24 => ?_) (fun c_24 => ?_)
          · refine lv_aload_n hx hb dX12_deal_80 rfl (lv_at hl 0 rfl) ?_
            refine va_get (D := (dC, dI)) (ci := 11) (v := .ref (ad 25)) (C := RX12) (T := TX12) (N := 69) hx hb hts hinX12 hown hK hP 0 (mat_11 rfl) rfl 58 (by decide) (hts (.fieldLink RX12 89 "BondCalendarsModel" "held" "[I") (by decide +kernel)) (fun _ h9 => h9) rfl dX12_deal_81 ?_
            refine lv_iload_n hx hb dX12_deal_84 rfl (lv_at hl 1 rfl) ?_
            refine va_iald hx hb hK hP 25 25 (mat_65 rfl) (mty_65 rfl) (gin (N := 4) (by decide) ((hp_3.2.1) (gl1 (b := 1) (ne_lt (b01_0 hp_3.1) c_6) (by decide))) (Int32.lt_of_lt_of_le (im_5 (gl1 (b := 1) (ne_lt (b01_0 hp_3.1) c_6) (by decide))) bd_4.2)) dX12_deal_85 ?_
            refine lv_topi (fun x_25 ex_25 => ?_)
            have ex_25 : x_25 = ((σ 25).1 p0.toNatClampNeg) := by rw [ex_25, eσ1, gI_ne _ _ _ (by decide)]
            refine lv_iload_n hx hb dX12_deal_86 rfl (lv_at hl 2 rfl) ?_
            refine lv_iadd hx hb dX12_deal_87 ?_
            refine lv_topi (fun x_26 ex_26 => ?_)
            refine lv_iconst (v := 0) hx hb dX12_deal_88 (by decide) ?_
            refine lv_sipush (v := 9999) hx hb dX12_deal_89 (by decide) ?_
            have hF := gFree (w := []) (hx_D0 (A := A)) hS hA
            have hKe := hK.sub (tys' := []) [] rfl
            refine va_calli (va_runS (As := [.int x_26, .int 0, .int 9999]) (rest := []) ⟨hx, hb, hml, hown, hts⟩ (k_X12_in l dC dI H.size x_26 0 9999 ) (va_cwS 3 hts gX12_deal_X12_in rfl rfl rfl (by decide +kernel) ⟨Nat.le_of_ble_eq_true rfl, Nat.le_of_ble_eq_true rfl⟩) ⟨fun a U g mk q => by obtain ⟨q0, q1, qP, qK, qD⟩ := q; exact ⟨q0, q1, qP, va_K.moved (u := U) (U := U.calling g mk a) (Vm.Alike.refl U.vm) qK, qD⟩, fun U hU hW => ⟨rfl, by rw [hU], hx_P0, va_K.moved hW.alike hKe, hx_D0⟩⟩ rfl rfl hl.1 rfl (lv_room (Nat.le_of_ble_eq_true rfl)) dX12_deal_92 ⟨Nat.le_of_ble_eq_true rfl, Nat.le_of_ble_eq_true rfl⟩) hS (fun q _ h => hF q h) hF (fun r_27 u t H locs ht hvm hw hB hz1 hk1 hS => ?_)
            have hP := gKeep hP hk1
            have in_28 : r_27 = f_X12_in x_26 0 9999 := hw
            have bin_28 : r_27 = 0 ∨ r_27 = 1 := by rw [in_28]; exact in01 _ _ _
            refine lv_if_ne (tgt := 107) hx hb dX12_deal_95 (by decide) (fun c_29 => ?_) (fun c_29 => ?_)
            · refine lv_aload_n hx hb dX12_deal_107 rfl (lv_at hl 0 rfl) ?_
              refine lv_iload_n hx hb dX12_deal_108 rfl (lv_at hl 1 rfl) ?_
              refine lv_aload_n hx hb dX12_deal_109 rfl (lv_at hl 0 rfl) ?_
              refine va_get (D := (dC, dI)) (ci := 11) (v := .int ((σ 0).1 64)) (C := RX12) (T := TX12) (N := 69) hx hb hts hinX12 hown hK hP 0 (mat_11 rfl) rfl 64 (by decide) (hts (.fieldLink RX12 377 "BondCalendarsModel" "now" "I") (by decide +kernel)) (fun _ h9 => h9) (congrArg (fun z => some (Value.int z)) (show (σ1 0).1 64 = ((σ 0).1 64) from by rw [eσ1, gI_oth _ _ _ (by decide)])) dX12_deal_110 ?_
              have hF := gFree hD hS hA
              refine va_callvD hd0 (va_runV_D (As := [.int p0, .int ((σ 0).1 64)]) (rest := []) ⟨hx, hb, hml, hown, hts⟩ (n_X12_accrues l dC dI ad cA adK adV H.size σ1 hIσ1 p0 ((σ 0).1 64) ((hp_3.2.1) (gl1 (b := 1) (ne_lt (b01_0 hp_3.1) c_6) (by decide))) (Int32.lt_of_lt_of_le (im_5 (gl1 (b := 1) (ne_lt (b01_0 hp_3.1) c_6) (by decide))) bd_4.2) ((Deep.fr hh0 (by rw [eσ1, gI_ne _ _ _ (by decide)]) (by rw [eσ1, gI_ne _ _ _ (by decide)]) (by rw [eσ1, gI_ne _ _ _ (by decide)]) (by rw [eσ1, gI_ne _ _ _ (by decide)]) (by rw [eσ1, gI_ne _ _ _ (by decide)]) (by rw [eσ1, gI_ne _ _ _ (by decide)]) (by rw [eσ1, gI_ne _ _ _ (by decide)]) (by rw [eσ1, gI_oth _ _ _ (by decide)]) (by rw [eσ1, gI_oth _ _ _ (by decide)]) (by rw [eσ1, gI_oth _ _ _ (by decide)]) (by rw [eσ1, gI_oth _ _ _ (by decide)]) (by rw [eσ1, gI_oth _ _ _ (by decide)]) (by rw [eσ1, gI_oth _ _ _ (by decide)])).1 _ (nc_lt ((hp_3.2.1) (gl1 (b := 1) (ne_lt (b01_0 hp_3.1) c_6) (by decide))) (lt_ch (Eq.refl _) (show ((σ1 0).1 20 : Int32) = ((σ 0).1 20 : Int32) from by rw [eσ1, gI_oth _ _ _ (by decide)]) (im_5 (gl1 (b := 1) (ne_lt (b01_0 hp_3.1) c_6) (by decide)))))).1 ((Deep.fr hh0 (by rw [eσ1, gI_ne _ _ _ (by decide)]) (by rw [eσ1, gI_ne _ _ _ (by decide)]) (by rw [eσ1, gI_ne _ _ _ (by decide)]) (by rw [eσ1, gI_ne _ _ _ (by decide)]) (by rw [eσ1, gI_ne _ _ _ (by decide)]) (by rw [eσ1, gI_ne _ _ _ (by decide)]) (by rw [eσ1, gI_ne _ _ _ (by decide)]) (by rw [eσ1, gI_oth _ _ _ (by decide)]) (by rw [eσ1, gI_oth _ _ _ (by decide)]) (by rw [eσ1, gI_oth _ _ _ (by decide)]) (by rw [eσ1, gI_oth _ _ _ (by decide)]) (by rw [eσ1, gI_oth _ _ _ (by decide)]) (by rw [eσ1, gI_oth _ _ _ (by decide)])).1 _ (nc_lt ((hp_3.2.1) (gl1 (b := 1) (ne_lt (b01_0 hp_3.1) c_6) (by decide))) (lt_ch (Eq.refl _) (show ((σ1 0).1 20 : Int32) = ((σ 0).1 20 : Int32) from by rw [eσ1, gI_oth _ _ _ (by decide)]) (im_5 (gl1 (b := 1) (ne_lt (b01_0 hp_3.1) c_6) (by decide)))))).2.1 (lt_ch (Eq.refl _) (show ((σ1 4).1 p0.toNatClampNeg : Int32) = ((σ 4).1 p0.toNatClampNeg : Int32) from by rw [eσ1, gI_ne _ _ _ (by decide)]) (im_23 (gl1 (b := 1) (ne_lt (b01_0 hp_22.1) c_24) (by decide))))) (cwV 2 hts gX12_deal_X12_accrues rfl rfl rfl (by decide +kernel) ⟨Nat.le_of_ble_eq_true rfl, Nat.le_of_ble_eq_true rfl⟩) ⟨gBlind, va_recv hK hP (ci := 11) (q0 := 0) rfl (mat_11 rfl), gStart (As := [.ref (ad 0), .int p0, .int ((σ 0).1 64)]) hP hD hK0 hT hS hF (d_21)⟩ rfl rfl hl.1 rfl (lv_room (Nat.le_of_ble_eq_true rfl)) dX12_deal_113 ⟨Nat.le_of_ble_eq_true rfl, Nat.le_of_ble_eq_true rfl⟩) hS (fun q _ h => hF q h) hF (fun σ6 t H locs ht hvm hw hB hz1 hk1 hS d_31 hd0 => ?_)
              have hts := dr_words hts0 (d_31)
              have hK := gKd hK0 (d_31)
              have hown : (s.setDrawn (d_31)).vm.findClass RX12 = some m.cls := hown0
              obtain ⟨hP, hD⟩ := gBack hF ht hB
              obtain ⟨hIσ6, fcσ6, hp_32⟩ := hw
              refine lv_iload_n hx hb dX12_deal_116 rfl (lv_at hl 2 rfl) ?_
              refine lv_i2l hx hb dX12_deal_117 rfl ?_
              refine lv_iload_n hx hb dX12_deal_118 rfl (lv_at hl 3 rfl) ?_
              refine lv_i2l hx hb dX12_deal_119 rfl ?_
              refine lv_lmul hx hb dX12_deal_120 ?_
              refine lv_topl (fun x_33 ex_33 => ?_)
              refine lv_aload_n hx hb dX12_deal_121 rfl (lv_at hl 0 rfl) ?_
              refine lv_iload_n hx hb dX12_deal_122 rfl (lv_at hl 2 rfl) ?_
              have hF := gFree hD hS hA
              refine va_calllD hd0 (va_runV_D (As := [.int p1]) (rest := [.long x_33]) ⟨hx, hb, hml, hown, hts⟩ (n_X12_hundreds l dC dI ad cA adK adV H.size σ6 hIσ6 p1 hp_32) (cwV 1 hts gX12_deal_X12_hundreds rfl rfl rfl (by decide +kernel) ⟨Nat.le_of_ble_eq_true rfl, Nat.le_of_ble_eq_true rfl⟩) ⟨gBlind, va_recv hK hP (ci := 11) (q0 := 0) rfl (mat_11 rfl), gStart (As := [.ref (ad 0), .int p1]) hP hD hK0 hT hS hF (d_31)⟩ rfl rfl hl.1 rfl (lv_room (Nat.le_of_ble_eq_true rfl)) dX12_deal_123 ⟨Nat.le_of_ble_eq_true rfl, Nat.le_of_ble_eq_true rfl⟩) hS (fun q _ h => hF q h) hF (fun r_34 σ7 t H locs ht hvm hw hB hz1 hk1 hS d_35 hd0 => ?_)
              have hts := dr_words hts0 (d_35)
              have hK := gKd hK0 (d_35)
              have hown : (s.setDrawn (d_35)).vm.findClass RX12 = some m.cls := hown0
              obtain ⟨hP, hD⟩ := gBack hF ht hB
              obtain ⟨hIσ7, fcσ7, hp_36⟩ := hw
              refine lv_ladd hx hb dX12_deal_126 ?_
              refine lv_topl (fun x_37 ex_37 => ?_)
              refine lv_lstore (lv' := [(4, .long x_37), (0, .ref (ad 0)), (1, .int p0), (2, .int p1), (3, .int p2)]) hx hb dX12_deal_127 hl (by decide) rfl (fun ls hl => ?_)
              refine lv_aload_n hx hb dX12_deal_129 rfl (lv_at hl 1 rfl) ?_
              refine va_get (D := (dC, dI)) (ci := 11) (v := .ref (ad 25)) (C := RX12) (T := TX12) (N := 69) hx hb hts hinX12 hown hK hP 0 (mat_11 rfl) rfl 58 (by decide) (hts (.fieldLink RX12 89 "BondCalendarsModel" "held" "[I") (by decide +kernel)) (fun _ h9 => h9) rfl dX12_deal_130 ?_
              refine lv_iload_n hx hb dX12_deal_133 rfl (lv_at hl 2 rfl) ?_
              refine lv_dup2_11 hx hb dX12_deal_134 rfl rfl ?_
              refine va_iald hx hb hK hP 25 25 (mat_65 rfl) (mty_65 rfl) (gin (N := 4) (by decide) ((hp_3.2.1) (gl1 (b := 1) (ne_lt (b01_0 hp_3.1) c_6) (by decide))) (Int32.lt_of_lt_of_le (im_5 (gl1 (b := 1) (ne_lt (b01_0 hp_3.1) c_6) (by decide))) bd_4.2)) dX12_deal_135 ?_
              refine lv_topi (fun x_38 ex_38 => ?_)
              have ex_38 : x_38 = ((σ 25).1 p0.toNatClampNeg) := by rw [ex_38, fcσ7.1 25 (by decide) (by decide), fcσ6.1 25 (by decide) (by decide), eσ1, gI_ne _ _ _ (by decide)]
              refine lv_iload_n hx hb dX12_deal_136 rfl (lv_at hl 3 rfl) ?_
              refine lv_iadd hx hb dX12_deal_137 ?_
              refine lv_topi (fun x_39 ex_39 => ?_)
              refine va_iast hx hb hK hP hD hS 25 25 (mat_65 rfl) (mty_65 rfl) (gin (N := 4) (by decide) ((hp_3.2.1) (gl1 (b := 1) (ne_lt (b01_0 hp_3.1) c_6) (by decide))) (Int32.lt_of_lt_of_le (im_5 (gl1 (b := 1) (ne_lt (b01_0 hp_3.1) c_6) (by decide))) bd_4.2)) dX12_deal_138 (fun H locs hP hD hS => ?_)
              obtain ⟨σ8, eσ8, hP, hD⟩ := gPut (mse_65 rfl) hP hD
              have hIσ8 : InvM σ8 := by rw [eσ8]; exact minv_I hIσ7 (mok_65 rfl _ _)
              have frσ8 : mFr [65] [0, 1, 2] σ σ8 := by rw [eσ8]; exact mFr.aI (mFr.tr (mFr.tr frσ1 fcσ6 (by decide) (by decide)) fcσ7 (by decide) (by decide)) (by decide) (by decide)
              refine lv_aload_n hx hb dX12_deal_139 rfl (lv_at hl 1 rfl) ?_
              refine lv_dup hx hb dX12_deal_140 rfl ?_
              refine va_get (D := (dC, dI)) (ci := 11) (v := .long ((σ7 0).2.1 66)) (C := RX12) (T := TX12) (N := 69) hx hb hts hinX12 hown hK hP 0 (mat_11 rfl) rfl 66 (by decide) (hts (.fieldLink RX12 380 "BondCalendarsModel" "cash" "J") (by decide +kernel)) (fun _ h9 => h9) (congrArg (fun z => some (Value.long z)) (show (σ8 0).2.1 66 = ((σ7 0).2.1 66) from by rw [eσ8, gI_ne _ _ _ (by decide)])) dX12_deal_141 ?_
              refine lv_lload hx hb dX12_deal_144 (lv_at hl 0 rfl) ?_
              refine lv_lsub hx hb dX12_deal_146 ?_
              refine lv_topl (fun x_40 ex_40 => ?_)
              refine va_put (D := (dC, dI)) (ci := 11) (v := .long x_40) (C := RX12) (T := TX12) (N := 69) hx hb hts hinX12 tyX12 tyX12_ok nmX12 hown hK hP hD hS 0 (mat_11 rfl) rfl 66 (by decide) (hts (.fieldLink RX12 380 "BondCalendarsModel" "cash" "J") (by decide +kernel)) (fun _ h9 => h9) rfl (ty := .long) (by decide +kernel) rfl rfl (Nat.le_of_ble_eq_true rfl) dX12_deal_147 (fun H locs hP hD hS => ?_)
              obtain ⟨σ9, eσ9, hP, hD⟩ := gPut (mse_11_66 rfl) hP hD
              have hIσ9 : InvM σ9 := by rw [eσ9]; exact minv_L hIσ8
              have frσ9 : mFr [65] [0, 1, 2] σ σ9 := by rw [eσ9]; exact mFr.oL frσ8
              refine lv_aload_n hx hb dX12_deal_150 rfl (lv_at hl 1 rfl) ?_
              refine lv_lload hx hb dX12_deal_151 (lv_at hl 0 rfl) ?_
              have hF := gFree hD hS hA
              refine va_calllD hd0 (va_runV_D (As := [.long x_37]) (rest := []) ⟨hx, hb, hml, hown, hts⟩ (n_X12_goodLong l dC dI ad cA adK adV H.size σ9 hIσ9 x_37) (cwV 1 hts gX12_deal_X12_goodLong rfl rfl rfl (by decide +kernel) ⟨Nat.le_of_ble_eq_true rfl, Nat.le_of_ble_eq_true rfl⟩) ⟨gBlind, va_recv hK hP (ci := 11) (q0 := 0) rfl (mat_11 rfl), gStart (As := [.ref (ad 0), .long x_37]) hP hD hK0 hT hS hF (d_35)⟩ rfl rfl hl.1 rfl (lv_room (Nat.le_of_ble_eq_true rfl)) dX12_deal_153 ⟨Nat.le_of_ble_eq_true rfl, Nat.le_of_ble_eq_true rfl⟩) hS (fun q _ h => hF q h) hF (fun r_41 σ10 t H locs ht hvm hw hB hz1 hk1 hS d_42 hd0 => ?_)
              have hts := dr_words hts0 (d_42)
              have hK := gKd hK0 (d_42)
              have hown : (s.setDrawn (d_42)).vm.findClass RX12 = some m.cls := hown0
              obtain ⟨hP, hD⟩ := gBack hF ht hB
              obtain ⟨hIσ10, fcσ10, hp_43⟩ := hw
              refine W.endD hd0 ?_
              exact W.lret (v := r_41) hx hb hr (fun t ht hW => ⟨⟨r_41, σ10, rfl, ⟨hIσ10, (mFr.tr frσ9 fcσ10 (by decide) (by decide)), trivial⟩, ⟨by rw [ht]; exact hP, hD⟩⟩, hS.F ht⟩) hS.2.2 dX12_deal_156
            · refine lv_aload_n hx hb dX12_deal_98 rfl (lv_at hl 0 rfl) ?_
              refine lv_iconst (v := 3) hx hb dX12_deal_99 (by decide) ?_
              refine lv_ldc2 (v := (-9223372036854775808)) hx hb hown (hts (.constantLong RX12 482 (-9223372036854775808)) (by decide +kernel)) dX12_deal_100 ?_
              have hF := gFree hD hS hA
              refine va_calllD hd0 (va_runV_D (As := [.int 3, .long (-9223372036854775808)]) (rest := []) ⟨hx, hb, hml, hown, hts⟩ (n_X12_refusedLong l dC dI ad cA adK adV H.size σ1 hIσ1 3 (-9223372036854775808)) (cwV 2 hts gX12_deal_X12_refusedLong rfl rfl rfl (by decide +kernel) ⟨Nat.le_of_ble_eq_true rfl, Nat.le_of_ble_eq_true rfl⟩) ⟨gBlind, va_recv hK hP (ci := 11) (q0 := 0) rfl (mat_11 rfl), gStart (As := [.ref (ad 0), .int 3, .long (-9223372036854775808)]) hP hD hK0 hT hS hF (d_21)⟩ rfl rfl hl.1 rfl (lv_room (Nat.le_of_ble_eq_true rfl)) dX12_deal_103 ⟨Nat.le_of_ble_eq_true rfl, Nat.le_of_ble_eq_true rfl⟩) hS (fun q _ h => hF q h) hF (fun r_44 σ11 t H locs ht hvm hw hB hz1 hk1 hS d_45 hd0 => ?_)
              have hts := dr_words hts0 (d_45)
              have hK := gKd hK0 (d_45)
              have hown : (s.setDrawn (d_45)).vm.findClass RX12 = some m.cls := hown0
              obtain ⟨hP, hD⟩ := gBack hF ht hB
              obtain ⟨hIσ11, fcσ11, hp_46⟩ := hw
              refine W.endD hd0 ?_
              exact W.lret (v := r_44) hx hb hr (fun t ht hW => ⟨⟨r_44, σ11, rfl, ⟨hIσ11, (mFr.tr frσ1 fcσ11 (by decide) (by decide)), trivial⟩, ⟨by rw [ht]; exact hP, hD⟩⟩, hS.F ht⟩) hS.2.2 dX12_deal_106
          · refine lv_aload_n hx hb dX12_deal_71 rfl (lv_at hl 0 rfl) ?_
            refine lv_iconst (v := 5) hx hb dX12_deal_72 (by decide) ?_
            refine lv_ldc2 (v := (-9223372036854775808)) hx hb hown (hts (.constantLong RX12 482 (-9223372036854775808)) (by decide +kernel)) dX12_deal_73 ?_
            have hF := gFree hD hS hA
            refine va_calllD hd0 (va_runV_D (As := [.int 5, .long (-9223372036854775808)]) (rest := []) ⟨hx, hb, hml, hown, hts⟩ (n_X12_refusedLong l dC dI ad cA adK adV H.size σ1 hIσ1 5 (-9223372036854775808)) (cwV 2 hts gX12_deal_X12_refusedLong rfl rfl rfl (by decide +kernel) ⟨Nat.le_of_ble_eq_true rfl, Nat.le_of_ble_eq_true rfl⟩) ⟨gBlind, va_recv hK hP (ci := 11) (q0 := 0) rfl (mat_11 rfl), gStart (As := [.ref (ad 0), .int 5, .long (-9223372036854775808)]) hP hD hK0 hT hS hF (d_21)⟩ rfl rfl hl.1 rfl (lv_room (Nat.le_of_ble_eq_true rfl)) dX12_deal_76 ⟨Nat.le_of_ble_eq_true rfl, Nat.le_of_ble_eq_true rfl⟩) hS (fun q _ h => hF q h) hF (fun r_47 σ12 t H locs ht hvm hw hB hz1 hk1 hS d_48 hd0 => ?_)
            have hts := dr_words hts0 (d_48)
            have hK := gKd hK0 (d_48)
            have hown : (s.setDrawn (d_48)).vm.findClass RX12 = some m.cls := hown0
            obtain ⟨hP, hD⟩ := gBack hF ht hB
            obtain ⟨hIσ12, fcσ12, hp_49⟩ := hw
            refine W.endD hd0 ?_
            exact W.lret (v := r_47) hx hb hr (fun t ht hW => ⟨⟨r_47, σ12, rfl, ⟨hIσ12, (mFr.tr frσ1 fcσ12 (by decide) (by decide)), trivial⟩, ⟨by rw [ht]; exact hP, hD⟩⟩, hS.F ht⟩) hS.2.2 dX12_deal_79
        · refine lv_aload_n hx hb dX12_deal_50 rfl (lv_at hl 0 rfl) ?_
          refine lv_iconst (v := 2) hx hb dX12_deal_51 (by decide) ?_
          refine lv_ldc2 (v := (-9223372036854775808)) hx hb hown (hts (.constantLong RX12 482 (-9223372036854775808)) (by decide +kernel)) dX12_deal_52 ?_
          have hF := gFree hD hS hA
          refine va_calllD hd0 (va_runV_D (As := [.int 2, .long (-9223372036854775808)]) (rest := []) ⟨hx, hb, hml, hown, hts⟩ (n_X12_refusedLong l dC dI ad cA adK adV H.size σ1 hIσ1 2 (-9223372036854775808)) (cwV 2 hts gX12_deal_X12_refusedLong rfl rfl rfl (by decide +kernel) ⟨Nat.le_of_ble_eq_true rfl, Nat.le_of_ble_eq_true rfl⟩) ⟨gBlind, va_recv hK hP (ci := 11) (q0 := 0) rfl (mat_11 rfl), gStart (As := [.ref (ad 0), .int 2, .long (-9223372036854775808)]) hP hD hK0 hT hS hF (d_2)⟩ rfl rfl hl.1 rfl (lv_room (Nat.le_of_ble_eq_true rfl)) dX12_deal_55 ⟨Nat.le_of_ble_eq_true rfl, Nat.le_of_ble_eq_true rfl⟩) hS (fun q _ h => hF q h) hF (fun r_50 σ13 t H locs ht hvm hw hB hz1 hk1 hS d_51 hd0 => ?_)
          have hts := dr_words hts0 (d_51)
          have hK := gKd hK0 (d_51)
          have hown : (s.setDrawn (d_51)).vm.findClass RX12 = some m.cls := hown0
          obtain ⟨hP, hD⟩ := gBack hF ht hB
          obtain ⟨hIσ13, fcσ13, hp_52⟩ := hw
          refine W.endD hd0 ?_
          exact W.lret (v := r_50) hx hb hr (fun t ht hW => ⟨⟨r_50, σ13, rfl, ⟨hIσ13, (mFr.tr frσ1 fcσ13 (by decide) (by decide)), trivial⟩, ⟨by rw [ht]; exact hP, hD⟩⟩, hS.F ht⟩) hS.2.2 dX12_deal_58
  · refine lv_aload_n hx hb dX12_deal_13 rfl (lv_at hl 0 rfl) ?_
    refine lv_iconst (v := 1) hx hb dX12_deal_14 (by decide) ?_
    refine lv_ldc2 (v := (-9223372036854775808)) hx hb hown (hts (.constantLong RX12 482 (-9223372036854775808)) (by decide +kernel)) dX12_deal_15 ?_
    have hF := gFree hD hS hA
    refine va_calllD hd0 (va_runV_D (As := [.int 1, .long (-9223372036854775808)]) (rest := []) ⟨hx, hb, hml, hown, hts⟩ (n_X12_refusedLong l dC dI ad cA adK adV H.size σ1 hIσ1 1 (-9223372036854775808)) (cwV 2 hts gX12_deal_X12_refusedLong rfl rfl rfl (by decide +kernel) ⟨Nat.le_of_ble_eq_true rfl, Nat.le_of_ble_eq_true rfl⟩) ⟨gBlind, va_recv hK hP (ci := 11) (q0 := 0) rfl (mat_11 rfl), gStart (As := [.ref (ad 0), .int 1, .long (-9223372036854775808)]) hP hD hK0 hT hS hF (d_2)⟩ rfl rfl hl.1 rfl (lv_room (Nat.le_of_ble_eq_true rfl)) dX12_deal_18 ⟨Nat.le_of_ble_eq_true rfl, Nat.le_of_ble_eq_true rfl⟩) hS (fun q _ h => hF q h) hF (fun r_53 σ14 t H locs ht hvm hw hB hz1 hk1 hS d_54 hd0 => ?_)
    have hts := dr_words hts0 (d_54)
    have hK := gKd hK0 (d_54)
    have hown : (s.setDrawn (d_54)).vm.findClass RX12 = some m.cls := hown0
    obtain ⟨hP, hD⟩ := gBack hF ht hB
    obtain ⟨hIσ14, fcσ14, hp_55⟩ := hw
    refine W.endD hd0 ?_
    exact W.lret (v := r_53) hx hb hr (fun t ht hW => ⟨⟨r_53, σ14, rfl, ⟨hIσ14, (mFr.tr frσ1 fcσ14 (by decide) (by decide)), trivial⟩, ⟨by rw [ht]; exact hP, hD⟩⟩, hS.F ht⟩) hS.2.2 dX12_deal_21
set_option maxHeartbeats 8000000 in
set_option maxRecDepth 100000 in
theorem n_X12_holiday (l : Launch) (dC : Nat → ClassId) (dI : Nat → Nat → Nat) (ad : Nat → Nat) (cA : Nat → ClassId) (adK adV : Nat → Nat) (sz : Nat) (σ : gs) (hI : InvM σ) (p0 : Int32) : MetD lw_cs l yX12_holiday wsX12_holiday ({ frames := 2, cells := 0, slots := 0, locals := 44 }) (va_Pc [.ref (ad 0), .int p0] (gPre adK adV (dC, dI) (wM ad cA σ) (tM cA) sz)) (va_Qi (fun (r : Int32) (τ : gs) => InvM τ ∧ mFr [] [0] σ τ ∧ (True)) (fun τ t => gPost (dC, dI) (va_A (wM ad cA σ) sz) (wM ad cA τ) t) (va_A (wM ad cA σ) sz)) 0 0 (va_A (wM ad cA σ) sz) := by
  refine MetD.ofW (cc := cX12_holiday) (maxL := 2) (ret := (some .int)) (by decide) rfl ?_
  intro p e s m args below meth c s₁ B hml hv hd0
  obtain ⟨rfl, hsz, hP, hK, hD0, hT⟩ := hv
  have hx := B.exec
  have hb := B.bytes
  have hr := B.returns
  have hts0 := atoms_spec (ws := wsX12_holiday) B.pre
  have hK0 := hK
  have hown0 : s.vm.findClass RX12 = some m.cls := findClass_of_methodNamed B.named
  have hlocks := B.notSynchronized
  have hinX12 : ∀ w ∈ u_ws RX12 TX12 69, w ∈ wsX12_holiday := (fun _ h9 => List.mem_cons_of_mem _ (List.mem_append_right _ h9))
  subst hsz
  have hD := hD0.self (sz := s.heap.size)
  generalize hAe : va_A (wM ad cA σ) s.heap.size = A at hD hT ⊢
  have hA : ∀ q : Nat, s.heap.size ≤ q → A q := fun q h => by rw [← hAe]; exact Or.inr h
  have hS : va_S A s.heap s.heap [] := va_S.rf
  have hl := lv_entry ([.ref (ad 0), .int p0]) (n := 2) (Nat.le_of_ble_eq_true rfl)
  rw [lg_entry_eq]
  generalize (lg_sl ([.ref (ad 0), .int p0]) ++ List.replicate (2 - (lg_sl ([.ref (ad 0), .int p0])).length) Slot.unset).toArray = ls at hl ⊢
  have hl : lv_has ls 2 [(0, .ref (ad 0)), (1, .int p0)] := hl
  have hts := dr_words hts0 (s.drawn)
  have hK := gKd hK0 (s.drawn)
  have hown : (s.setDrawn (s.drawn)).vm.findClass RX12 = some m.cls := hown0
  refine lv_aload_n hx hb dX12_holiday_0 rfl (lv_at hl 0 rfl) ?_
  refine lv_iconst (v := 0) hx hb dX12_holiday_1 (by decide) ?_
  refine va_put (D := (dC, dI)) (ci := 11) (v := .int 0) (C := RX12) (T := TX12) (N := 69) hx hb hts hinX12 tyX12 tyX12_ok nmX12 hown hK hP hD hS 0 (mat_11 rfl) rfl 0 (by decide) (hts (.fieldLink RX12 107 "BondCalendarsModel" "thrown" "I") (by decide +kernel)) (fun _ h9 => h9) rfl (ty := .int) (by decide +kernel) rfl rfl (Nat.le_of_ble_eq_true rfl) dX12_holiday_2 (fun H locs hP hD hS => ?_)
  obtain ⟨σ1, eσ1, hP, hD⟩ := gPut (mse_11_0 rfl) hP hD
  have hIσ1 : InvM σ1 := by rw [eσ1]; exact minv_I hI (mok_11_0 rfl _)
  have frσ1 : mFr [] [0] σ σ1 := by rw [eσ1]; exact mFr.oI (mFr.rfl (L := []) (F := [0]) (σ := σ)) (by decide)
  refine lv_iload_n hx hb dX12_holiday_5 rfl (lv_at hl 1 rfl) ?_
  refine lv_if_lt (tgt := 27) hx hb dX12_holiday_6 (by decide) (fun c_1 => ?_) (fun c_1 => ?_)
  · refine lv_aload_n hx hb dX12_holiday_27 rfl (lv_at hl 0 rfl) ?_
    refine lv_iconst (v := 1) hx hb dX12_holiday_28 (by decide) ?_
    refine va_put (D := (dC, dI)) (ci := 11) (v := .int 1) (C := RX12) (T := TX12) (N := 69) hx hb hts hinX12 tyX12 tyX12_ok nmX12 hown hK hP hD hS 0 (mat_11 rfl) rfl 0 (by decide) (hts (.fieldLink RX12 107 "BondCalendarsModel" "thrown" "I") (by decide +kernel)) (fun _ h9 => h9) rfl (ty := .int) (by decide +kernel) rfl rfl (Nat.le_of_ble_eq_true rfl) dX12_holiday_29 (fun H locs hP hD hS => ?_)
    obtain ⟨σ2, eσ2, hP, hD⟩ := gPut (mse_11_0 rfl) hP hD
    have hIσ2 : InvM σ2 := by rw [eσ2]; exact minv_I hIσ1 (mok_11_0 rfl _)
    have frσ2 : mFr [] [0] σ σ2 := by rw [eσ2]; exact mFr.oI frσ1 (by decide)
    refine lv_iconst (v := 0) hx hb dX12_holiday_32 (by decide) ?_
    refine W.endD hd0 ?_
    exact W.iret (v := 0) hx hb hr (fun t ht hW => ⟨⟨0, σ2, rfl, ⟨hIσ2, frσ2, trivial⟩, ⟨by rw [ht]; exact hP, hD⟩⟩, hS.F ht⟩) hS.2.2 dX12_holiday_33
  · refine lv_iload_n hx hb dX12_holiday_9 rfl (lv_at hl 1 rfl) ?_
    refine lv_aload_n hx hb dX12_holiday_10 rfl (lv_at hl 0 rfl) ?_
    have bd_2 := mrd_11_22 (c := 0) hI rfl
    refine va_get (D := (dC, dI)) (ci := 11) (v := .int ((σ 0).1 22)) (C := RX12) (T := TX12) (N := 69) hx hb hts hinX12 hown hK hP 0 (mat_11 rfl) rfl 22 (by decide) (hts (.fieldLink RX12 150 "BondCalendarsModel" "freeMany" "I") (by decide +kernel)) (fun _ h9 => h9) (congrArg (fun z => some (Value.int z)) (show (σ1 0).1 22 = ((σ 0).1 22) from by rw [eσ1, gI_oth _ _ _ (by decide)])) dX12_holiday_11 ?_
    refine lv_icmp_ge (tgt := 27) hx hb dX12_holiday_14 (by decide) (fun c_3 => ?_) (fun c_3 => ?_)
    · refine lv_aload_n hx hb dX12_holiday_27 rfl (lv_at hl 0 rfl) ?_
      refine lv_iconst (v := 1) hx hb dX12_holiday_28 (by decide) ?_
      refine va_put (D := (dC, dI)) (ci := 11) (v := .int 1) (C := RX12) (T := TX12) (N := 69) hx hb hts hinX12 tyX12 tyX12_ok nmX12 hown hK hP hD hS 0 (mat_11 rfl) rfl 0 (by decide) (hts (.fieldLink RX12 107 "BondCalendarsModel" "thrown" "I") (by decide +kernel)) (fun _ h9 => h9) rfl (ty := .int) (by decide +kernel) rfl rfl (Nat.le_of_ble_eq_true rfl) dX12_holiday_29 (fun H locs hP hD hS => ?_)
      obtain ⟨σ3, eσ3, hP, hD⟩ := gPut (mse_11_0 rfl) hP hD
      have hIσ3 : InvM σ3 := by rw [eσ3]; exact minv_I hIσ1 (mok_11_0 rfl _)
      have frσ3 : mFr [] [0] σ σ3 := by rw [eσ3]; exact mFr.oI frσ1 (by decide)
      refine lv_iconst (v := 0) hx hb dX12_holiday_32 (by decide) ?_
      refine W.endD hd0 ?_
      exact W.iret (v := 0) hx hb hr (fun t ht hW => ⟨⟨0, σ3, rfl, ⟨hIσ3, frσ3, trivial⟩, ⟨by rw [ht]; exact hP, hD⟩⟩, hS.F ht⟩) hS.2.2 dX12_holiday_33
    · refine lv_aload_n hx hb dX12_holiday_17 rfl (lv_at hl 0 rfl) ?_
      refine va_get (D := (dC, dI)) (ci := 11) (v := .ref (ad 14)) (C := RX12) (T := TX12) (N := 69) hx hb hts hinX12 hown hK hP 0 (mat_11 rfl) rfl 18 (by decide) (hts (.fieldLink RX12 54 "BondCalendarsModel" "free" "[I") (by decide +kernel)) (fun _ h9 => h9) rfl dX12_holiday_18 ?_
      refine lv_iload_n hx hb dX12_holiday_21 rfl (lv_at hl 1 rfl) ?_
      refine va_iald hx hb hK hP 14 14 (mat_54 rfl) (mty_54 rfl) (gin (N := 10) (by decide) (Int32.not_lt.mp c_1) (Int32.lt_of_lt_of_le (Int32.not_le.mp c_3) bd_2.2)) dX12_holiday_22 ?_
      refine lv_topi (fun x_4 ex_4 => ?_)
      have ex_4 : x_4 = ((σ 14).1 p0.toNatClampNeg) := by rw [ex_4, eσ1, gI_ne _ _ _ (by decide)]
      have bd_5 := mrd_54 (c := 14) hI rfl p0.toNatClampNeg
      have hF := gFree hD hS hA
      refine va_calliD hd0 (va_runS_D (As := [.int x_4]) (rest := []) ⟨hx, hb, hml, hown, hts⟩ (n_X12_dateOf l dC dI ad cA adK adV H.size σ1 hIσ1 x_4 (Int32.le_of_lt (Int32.lt_of_lt_of_le (Int32.lt_of_lt_of_le (show ((-1000000) : Int32) < (-1000) by decide) bd_5.1) (eq_le ex_4.symm)))) (va_cwS 1 hts gX12_holiday_X12_dateOf rfl rfl rfl (by decide +kernel) ⟨Nat.le_of_ble_eq_true rfl, Nat.le_of_ble_eq_true rfl⟩) ⟨gBlind, gStart (As := [.int x_4]) hP hD hK0 hT hS hF (s.drawn)⟩ rfl rfl hl.1 rfl (lv_room (Nat.le_of_ble_eq_true rfl)) dX12_holiday_23 ⟨Nat.le_of_ble_eq_true rfl, Nat.le_of_ble_eq_true rfl⟩) hS (fun q _ h => hF q h) hF (fun r_6 σ4 t H locs ht hvm hw hB hz1 hk1 hS d_7 hd0 => ?_)
      have hts := dr_words hts0 (d_7)
      have hK := gKd hK0 (d_7)
      have hown : (s.setDrawn (d_7)).vm.findClass RX12 = some m.cls := hown0
      obtain ⟨hP, hD⟩ := gBack hF ht hB
      obtain ⟨hIσ4, hro, hp_8⟩ := hw
      subst hro
      refine W.endD hd0 ?_
      exact W.iret (v := r_6) hx hb hr (fun t ht hW => ⟨⟨r_6, σ1, rfl, ⟨hIσ1, frσ1, trivial⟩, ⟨by rw [ht]; exact hP, hD⟩⟩, hS.F ht⟩) hS.2.2 dX12_holiday_26
