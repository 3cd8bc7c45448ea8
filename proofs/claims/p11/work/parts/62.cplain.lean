set_option maxHeartbeats 8000000 in
set_option maxRecDepth 100000 in
theorem n_X12_countsPlain2 (l : Launch) (dC : Nat → ClassId) (dI : Nat → Nat → Nat) (ad : Nat → Nat) (cA : Nat → ClassId) (adK adV : Nat → Nat) (sz : Nat) (σ : gs) (hI : InvM σ) (p0 : Int32) (p1 : Int32) (p2 : Int32) : MetD lw_cs l yX12_countsPlain wsX12_countsPlain ({ frames := 2, cells := 0, slots := 0, locals := 55 }) (va_Pc [.ref (ad 0), .int p0, .int p1, .int p2] (gPre adK adV (dC, dI) (wM ad cA σ) (tM cA) sz)) (va_Qv (fun (τ : gs) => InvM τ ∧ mFr [] [] σ τ ∧ ((((τ 0).2.1 4).toInt.natAbs ∣ LL0))) (fun τ t => gPost (dC, dI) (va_A (wM ad cA σ) sz) (wM ad cA τ) t) (va_A (wM ad cA σ) sz)) 0 0 (va_A (wM ad cA σ) sz) := by
  refine MetD.ofW (cc := cX12_countsPlain) (maxL := 5) (ret := none) (by decide) rfl ?_
  intro p e s m args below meth c s₁ B hml hv hd0
  obtain ⟨rfl, hsz, hP, hK, hD0, hT⟩ := hv
  have hx := B.exec
  have hb := B.bytes
  have hr := B.returns
  have hts0 := atoms_spec (ws := wsX12_countsPlain) B.pre
  have hK0 := hK
  have hown0 : s.vm.findClass RX12 = some m.cls := findClass_of_methodNamed B.named
  have hlocks := B.notSynchronized
  subst hsz
  have hD := hD0.self (sz := s.heap.size)
  generalize hAe : va_A (wM ad cA σ) s.heap.size = A at hD hT ⊢
  have hA : ∀ q : Nat, s.heap.size ≤ q → A q := fun q h => by rw [← hAe]; exact Or.inr h
  have hS : va_S A s.heap s.heap [] := va_S.rf
  have hl := lv_entry ([.ref (ad 0), .int p0, .int p1, .int p2]) (n := 5) (Nat.le_of_ble_eq_true rfl)
  rw [lg_entry_eq]
  generalize (lg_sl ([.ref (ad 0), .int p0, .int p1, .int p2]) ++ List.replicate (5 - (lg_sl ([.ref (ad 0), .int p0, .int p1, .int p2])).length) Slot.unset).toArray = ls at hl ⊢
  have hl : lv_has ls 5 [(0, .ref (ad 0)), (1, .int p0), (2, .int p1), (3, .int p2)] := hl
  have hts := dr_words hts0 (s.drawn)
  have hK := gKd hK0 (s.drawn)
  have hown : (s.setDrawn (s.drawn)).vm.findClass RX12 = some m.cls := hown0
  refine lv_iload_n hx hb dX12_countsPlain_0 rfl (lv_at hl 3 rfl) ?_
  have hF := gFree (w := []) (hx_D0 (A := A)) hS hA
  have hKe := hK.sub (tys' := []) [] rfl
  refine va_calli (va_runS (As := [.int p2]) (rest := []) ⟨hx, hb, hml, hown, hts⟩ (k_X12_dayOf l dC dI s.heap.size p2 ) (va_cwS 1 hts gX12_countsPlain_X12_dayOf rfl rfl rfl (by decide +kernel) ⟨Nat.le_of_ble_eq_true rfl, Nat.le_of_ble_eq_true rfl⟩) ⟨fun a U g mk q => by obtain ⟨q0, q1, qP, qK, qD⟩ := q; exact ⟨q0, q1, qP, va_K.moved (u := U) (U := U.calling g mk a) (Vm.Alike.refl U.vm) qK, qD⟩, fun U hU hW => ⟨rfl, by rw [hU], hx_P0, va_K.moved hW.alike hKe, hx_D0⟩⟩ rfl rfl hl.1 rfl (lv_room (Nat.le_of_ble_eq_true rfl)) dX12_countsPlain_1 ⟨Nat.le_of_ble_eq_true rfl, Nat.le_of_ble_eq_true rfl⟩) hS (fun q _ h => hF q h) hF (fun r_1 u t H locs ht hvm hw hB hz1 hk1 hS => ?_)
  have hP := gKeep hP hk1
  have pu_2 : r_1 = f_X12_dayOf p2 := hw
  refine lv_iload_n hx hb dX12_countsPlain_4 rfl (lv_at hl 2 rfl) ?_
  have hF := gFree (w := []) (hx_D0 (A := A)) hS hA
  have hKe := hK.sub (tys' := []) [] rfl
  refine va_calli (va_runS (As := [.int p1]) (rest := [.int r_1]) ⟨hx, hb, hml, hown, hts⟩ (k_X12_dayOf l dC dI H.size p1 ) (va_cwS 1 hts gX12_countsPlain_X12_dayOf rfl rfl rfl (by decide +kernel) ⟨Nat.le_of_ble_eq_true rfl, Nat.le_of_ble_eq_true rfl⟩) ⟨fun a U g mk q => by obtain ⟨q0, q1, qP, qK, qD⟩ := q; exact ⟨q0, q1, qP, va_K.moved (u := U) (U := U.calling g mk a) (Vm.Alike.refl U.vm) qK, qD⟩, fun U hU hW => ⟨rfl, by rw [hU], hx_P0, va_K.moved hW.alike hKe, hx_D0⟩⟩ rfl rfl hl.1 rfl (lv_room (Nat.le_of_ble_eq_true rfl)) dX12_countsPlain_5 ⟨Nat.le_of_ble_eq_true rfl, Nat.le_of_ble_eq_true rfl⟩) hS (fun q _ h => hF q h) hF (fun r_3 u t H locs ht hvm hw hB hz1 hk1 hS => ?_)
  have hP := gKeep hP hk1
  have pu_4 : r_3 = f_X12_dayOf p1 := hw
  refine lv_isub hx hb dX12_countsPlain_8 ?_
  refine lv_topi (fun x_5 ex_5 => ?_)
  refine lv_istore (lv' := [(4, .int x_5), (0, .ref (ad 0)), (1, .int p0), (2, .int p1), (3, .int p2)]) hx hb dX12_countsPlain_9 hl (by decide) rfl (fun ls hl => ?_)
  refine lv_iload_n hx hb dX12_countsPlain_11 rfl (lv_at hl 2 rfl) ?_
  refine lv_iconst (v := 2) hx hb dX12_countsPlain_12 (by decide) ?_
  refine lv_icmp_ne (tgt := 29) hx hb dX12_countsPlain_13 (by decide) (fun c_6 => ?_) (fun c_6 => ?_)
  · refine lv_iload_n hx hb dX12_countsPlain_29 rfl (lv_at hl 2 rfl) ?_
    refine lv_iconst (v := 3) hx hb dX12_countsPlain_30 (by decide) ?_
    refine lv_icmp_ne (tgt := 47) hx hb dX12_countsPlain_31 (by decide) (fun c_7 => ?_) (fun c_7 => ?_)
    · refine lv_aload_n hx hb dX12_countsPlain_47 rfl (lv_at hl 1 rfl) ?_
      refine lv_iload_n hx hb dX12_countsPlain_48 rfl (lv_at hl 3 rfl) ?_
      refine lv_iload_n hx hb dX12_countsPlain_49 rfl (lv_at hl 4 rfl) ?_
      refine lv_iload_n hx hb dX12_countsPlain_50 rfl (lv_at hl 2 rfl) ?_
      refine lv_iconst (v := 1) hx hb dX12_countsPlain_51 (by decide) ?_
      refine lv_icmp_ne (tgt := 59) hx hb dX12_countsPlain_52 (by decide) (fun c_8 => ?_) (fun c_8 => ?_)
      · refine lv_iconst (v := 0) hx hb dX12_countsPlain_59 (by decide) ?_
        have hF := gFree (w := []) (hx_D0 (A := A)) hS hA
        have hKe := hK.sub (tys' := []) [] rfl
        refine va_calli (va_runS (As := [.int p1, .int p2, .int 0]) (rest := [.ref (ad 0)]) ⟨hx, hb, hml, hown, hts⟩ (k_X12_thirties l dC dI H.size p1 p2 0 ) (va_cwS 3 hts gX12_countsPlain_X12_thirties rfl rfl rfl (by decide +kernel) ⟨Nat.le_of_ble_eq_true rfl, Nat.le_of_ble_eq_true rfl⟩) ⟨fun a U g mk q => by obtain ⟨q0, q1, qP, qK, qD⟩ := q; exact ⟨q0, q1, qP, va_K.moved (u := U) (U := U.calling g mk a) (Vm.Alike.refl U.vm) qK, qD⟩, fun U hU hW => ⟨rfl, by rw [hU], hx_P0, va_K.moved hW.alike hKe, hx_D0⟩⟩ rfl rfl hl.1 rfl (lv_room (Nat.le_of_ble_eq_true rfl)) dX12_countsPlain_60 ⟨Nat.le_of_ble_eq_true rfl, Nat.le_of_ble_eq_true rfl⟩) hS (fun q _ h => hF q h) hF (fun r_9 u t H locs ht hvm hw hB hz1 hk1 hS => ?_)
        have hP := gKeep hP hk1
        have pu_10 : r_9 = f_X12_thirties p1 p2 0 := hw
        refine lv_i2l hx hb dX12_countsPlain_63 rfl ?_
        refine lv_ldc2 (v := 360) hx hb hown (hts (.constantLong RX12 172 (360)) (by decide +kernel)) dX12_countsPlain_64 ?_
        have hF := gFree hD hS hA
        refine va_callvD hd0 (va_runV_D (As := [.long (r_9.toInt64), .long 360]) (rest := []) ⟨hx, hb, hml, hown, hts⟩ (n_X12_sets l dC dI ad cA adK adV H.size σ hI (r_9.toInt64) 360 (show dL 360 by unfold dL; decide)) (cwV 2 hts gX12_countsPlain_X12_sets rfl rfl rfl (by decide +kernel) ⟨Nat.le_of_ble_eq_true rfl, Nat.le_of_ble_eq_true rfl⟩) ⟨gBlind, va_recv hK hP (ci := 11) (q0 := 0) rfl (mat_11 rfl), gStart (As := [.ref (ad 0), .long (r_9.toInt64), .long 360]) hP hD hK0 hT hS hF (s.drawn)⟩ rfl rfl hl.1 rfl (lv_room (Nat.le_of_ble_eq_true rfl)) dX12_countsPlain_67 ⟨Nat.le_of_ble_eq_true rfl, Nat.le_of_ble_eq_true rfl⟩) hS (fun q _ h => hF q h) hF (fun σ1 t H locs ht hvm hw hB hz1 hk1 hS d_12 hd0 => ?_)
        have hts := dr_words hts0 (d_12)
        have hK := gKd hK0 (d_12)
        have hown : (s.setDrawn (d_12)).vm.findClass RX12 = some m.cls := hown0
        obtain ⟨hP, hD⟩ := gBack hF ht hB
        obtain ⟨hIσ1, fcσ1, hp_13⟩ := hw
        refine W.endD hd0 ?_
        exact W.vret hx hb hr (fun t ht hW => ⟨⟨σ1, rfl, ⟨hIσ1, (mFr.tr (mFr.rfl (L := []) (F := []) (σ := σ)) fcσ1 (by decide) (by decide)), (dv_360 hp_13)⟩, ⟨by rw [ht]; exact hP, hD⟩⟩, hS.F ht⟩) hS.2.2 dX12_countsPlain_70
      · refine lv_iconst (v := 1) hx hb dX12_countsPlain_55 (by decide) ?_
        refine lv_goto (tgt := 60) hx hb dX12_countsPlain_56 (by decide) ?_
        have hF := gFree (w := []) (hx_D0 (A := A)) hS hA
        have hKe := hK.sub (tys' := []) [] rfl
        refine va_calli (va_runS (As := [.int p1, .int p2, .int 1]) (rest := [.ref (ad 0)]) ⟨hx, hb, hml, hown, hts⟩ (k_X12_thirties l dC dI H.size p1 p2 1 ) (va_cwS 3 hts gX12_countsPlain_X12_thirties rfl rfl rfl (by decide +kernel) ⟨Nat.le_of_ble_eq_true rfl, Nat.le_of_ble_eq_true rfl⟩) ⟨fun a U g mk q => by obtain ⟨q0, q1, qP, qK, qD⟩ := q; exact ⟨q0, q1, qP, va_K.moved (u := U) (U := U.calling g mk a) (Vm.Alike.refl U.vm) qK, qD⟩, fun U hU hW => ⟨rfl, by rw [hU], hx_P0, va_K.moved hW.alike hKe, hx_D0⟩⟩ rfl rfl hl.1 rfl (lv_room (Nat.le_of_ble_eq_true rfl)) dX12_countsPlain_60 ⟨Nat.le_of_ble_eq_true rfl, Nat.le_of_ble_eq_true rfl⟩) hS (fun q _ h => hF q h) hF (fun r_14 u t H locs ht hvm hw hB hz1 hk1 hS => ?_)
        have hP := gKeep hP hk1
        have pu_15 : r_14 = f_X12_thirties p1 p2 1 := hw
        refine lv_i2l hx hb dX12_countsPlain_63 rfl ?_
        refine lv_ldc2 (v := 360) hx hb hown (hts (.constantLong RX12 172 (360)) (by decide +kernel)) dX12_countsPlain_64 ?_
        have hF := gFree hD hS hA
        refine va_callvD hd0 (va_runV_D (As := [.long (r_14.toInt64), .long 360]) (rest := []) ⟨hx, hb, hml, hown, hts⟩ (n_X12_sets l dC dI ad cA adK adV H.size σ hI (r_14.toInt64) 360 (show dL 360 by unfold dL; decide)) (cwV 2 hts gX12_countsPlain_X12_sets rfl rfl rfl (by decide +kernel) ⟨Nat.le_of_ble_eq_true rfl, Nat.le_of_ble_eq_true rfl⟩) ⟨gBlind, va_recv hK hP (ci := 11) (q0 := 0) rfl (mat_11 rfl), gStart (As := [.ref (ad 0), .long (r_14.toInt64), .long 360]) hP hD hK0 hT hS hF (s.drawn)⟩ rfl rfl hl.1 rfl (lv_room (Nat.le_of_ble_eq_true rfl)) dX12_countsPlain_67 ⟨Nat.le_of_ble_eq_true rfl, Nat.le_of_ble_eq_true rfl⟩) hS (fun q _ h => hF q h) hF (fun σ2 t H locs ht hvm hw hB hz1 hk1 hS d_17 hd0 => ?_)
        have hts := dr_words hts0 (d_17)
        have hK := gKd hK0 (d_17)
        have hown : (s.setDrawn (d_17)).vm.findClass RX12 = some m.cls := hown0
        obtain ⟨hP, hD⟩ := gBack hF ht hB
        obtain ⟨hIσ2, fcσ2, hp_18⟩ := hw
        refine W.endD hd0 ?_
        exact W.vret hx hb hr (fun t ht hW => ⟨⟨σ2, rfl, ⟨hIσ2, (mFr.tr (mFr.rfl (L := []) (F := []) (σ := σ)) fcσ2 (by decide) (by decide)), (dv_360 hp_18)⟩, ⟨by rw [ht]; exact hP, hD⟩⟩, hS.F ht⟩) hS.2.2 dX12_countsPlain_70
    · refine lv_aload_n hx hb dX12_countsPlain_34 rfl (lv_at hl 1 rfl) ?_
      refine lv_iload hx hb dX12_countsPlain_35 (lv_at hl 0 rfl) ?_
      refine lv_i2l hx hb dX12_countsPlain_37 rfl ?_
      refine lv_ldc2 (v := 365) hx hb hown (hts (.constantLong RX12 174 (365)) (by decide +kernel)) dX12_countsPlain_38 ?_
      have hF := gFree hD hS hA
      refine va_callvD hd0 (va_runV_D (As := [.long (x_5.toInt64), .long 365]) (rest := []) ⟨hx, hb, hml, hown, hts⟩ (n_X12_sets l dC dI ad cA adK adV H.size σ hI (x_5.toInt64) 365 (show dL 365 by unfold dL; decide)) (cwV 2 hts gX12_countsPlain_X12_sets rfl rfl rfl (by decide +kernel) ⟨Nat.le_of_ble_eq_true rfl, Nat.le_of_ble_eq_true rfl⟩) ⟨gBlind, va_recv hK hP (ci := 11) (q0 := 0) rfl (mat_11 rfl), gStart (As := [.ref (ad 0), .long (x_5.toInt64), .long 365]) hP hD hK0 hT hS hF (s.drawn)⟩ rfl rfl hl.1 rfl (lv_room (Nat.le_of_ble_eq_true rfl)) dX12_countsPlain_41 ⟨Nat.le_of_ble_eq_true rfl, Nat.le_of_ble_eq_true rfl⟩) hS (fun q _ h => hF q h) hF (fun σ3 t H locs ht hvm hw hB hz1 hk1 hS d_20 hd0 => ?_)
      have hts := dr_words hts0 (d_20)
      have hK := gKd hK0 (d_20)
      have hown : (s.setDrawn (d_20)).vm.findClass RX12 = some m.cls := hown0
      obtain ⟨hP, hD⟩ := gBack hF ht hB
      obtain ⟨hIσ3, fcσ3, hp_21⟩ := hw
      refine lv_goto (tgt := 70) hx hb dX12_countsPlain_44 (by decide) ?_
      refine W.endD hd0 ?_
      exact W.vret hx hb hr (fun t ht hW => ⟨⟨σ3, rfl, ⟨hIσ3, (mFr.tr (mFr.rfl (L := []) (F := []) (σ := σ)) fcσ3 (by decide) (by decide)), (dv_365 hp_21)⟩, ⟨by rw [ht]; exact hP, hD⟩⟩, hS.F ht⟩) hS.2.2 dX12_countsPlain_70
  · refine lv_aload_n hx hb dX12_countsPlain_16 rfl (lv_at hl 1 rfl) ?_
    refine lv_iload hx hb dX12_countsPlain_17 (lv_at hl 0 rfl) ?_
    refine lv_i2l hx hb dX12_countsPlain_19 rfl ?_
    refine lv_ldc2 (v := 360) hx hb hown (hts (.constantLong RX12 172 (360)) (by decide +kernel)) dX12_countsPlain_20 ?_
    have hF := gFree hD hS hA
    refine va_callvD hd0 (va_runV_D (As := [.long (x_5.toInt64), .long 360]) (rest := []) ⟨hx, hb, hml, hown, hts⟩ (n_X12_sets l dC dI ad cA adK adV H.size σ hI (x_5.toInt64) 360 (show dL 360 by unfold dL; decide)) (cwV 2 hts gX12_countsPlain_X12_sets rfl rfl rfl (by decide +kernel) ⟨Nat.le_of_ble_eq_true rfl, Nat.le_of_ble_eq_true rfl⟩) ⟨gBlind, va_recv hK hP (ci := 11) (q0 := 0) rfl (mat_11 rfl), gStart (As := [.ref (ad 0), .long (x_5.toInt64), .long 360]) hP hD hK0 hT hS hF (s.drawn)⟩ rfl rfl hl.1 rfl (lv_room (Nat.le_of_ble_eq_true rfl)) dX12_countsPlain_23 ⟨Nat.le_of_ble_eq_true rfl, Nat.le_of_ble_eq_true rfl⟩) hS (fun q _ h => hF q h) hF (fun σ4 t H locs ht hvm hw hB hz1 hk1 hS d_23 hd0 => ?_)
    have hts := dr_words hts0 (d_23)
    have hK := gKd hK0 (d_23)
    have hown : (s.setDrawn (d_23)).vm.findClass RX12 = some m.cls := hown0
    obtain ⟨hP, hD⟩ := gBack hF ht hB
    obtain ⟨hIσ4, fcσ4, hp_24⟩ := hw
    refine lv_goto (tgt := 70) hx hb dX12_countsPlain_26 (by decide) ?_
    refine W.endD hd0 ?_
    exact W.vret hx hb hr (fun t ht hW => ⟨⟨σ4, rfl, ⟨hIσ4, (mFr.tr (mFr.rfl (L := []) (F := []) (σ := σ)) fcσ4 (by decide) (by decide)), (dv_360 hp_24)⟩, ⟨by rw [ht]; exact hP, hD⟩⟩, hS.F ht⟩) hS.2.2 dX12_countsPlain_70
