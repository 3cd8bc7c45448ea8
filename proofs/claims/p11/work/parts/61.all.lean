set_option maxHeartbeats 8000000 in
set_option maxRecDepth 100000 in
theorem n_X12_readLine (l : Launch) (dC : Nat → ClassId) (dI : Nat → Nat → Nat) (ad : Nat → Nat) (cA : Nat → ClassId) (adK adV : Nat → Nat) (sz : Nat) (σ : gs) (hI : InvM σ) (hh0 : mRead σ) : MetD lw_cs l yX12_readLine wsX12_readLine ({ frames := 9, cells := 0, slots := 0, locals := 193 }) (va_Pc [.ref (ad 0)] (gPre adK adV (dC, dI) (wM ad cA σ) (tM cA) sz)) (va_Qv (fun (τ : gs) => InvM τ ∧ mFr [41, 42, 43, 44, 45, 46, 47, 48, 50, 51, 52, 53, 55] [23, 24, 25, 26, 27, 29, 33, 34, 35, 36, 37] σ τ ∧ ((σ 0).1 37 ≤ (τ 0).1 37 ∧ (SP σ τ) ∧ (mRead τ) ∧ (LOW σ τ))) (fun τ t => gPost (dC, dI) (va_A (wM ad cA σ) sz) (wM ad cA τ) t) (va_A (wM ad cA σ) sz)) 0 0 (va_A (wM ad cA σ) sz) := by
  refine MetD.ofW (cc := cX12_readLine) (maxL := 1) (ret := none) (by decide) rfl ?_
  intro p e s m args below meth c s₁ B hml hv hd0
  obtain ⟨rfl, hsz, hP, hK, hD0, hT⟩ := hv
  have hx := B.exec
  have hb := B.bytes
  have hr := B.returns
  have hts0 := atoms_spec (ws := wsX12_readLine) B.pre
  have hK0 := hK
  have hown0 : s.vm.findClass RX12 = some m.cls := findClass_of_methodNamed B.named
  have hlocks := B.notSynchronized
  subst hsz
  have hD := hD0.self (sz := s.heap.size)
  generalize hAe : va_A (wM ad cA σ) s.heap.size = A at hD hT ⊢
  have hA : ∀ q : Nat, s.heap.size ≤ q → A q := fun q h => by rw [← hAe]; exact Or.inr h
  have hS : va_S A s.heap s.heap [] := va_S.rf
  have hl := lv_entry ([.ref (ad 0)]) (n := 1) (Nat.le_of_ble_eq_true rfl)
  rw [lg_entry_eq]
  generalize (lg_sl ([.ref (ad 0)]) ++ List.replicate (1 - (lg_sl ([.ref (ad 0)])).length) Slot.unset).toArray = ls at hl ⊢
  have hl : lv_has ls 1 [(0, .ref (ad 0))] := hl
  have hts := dr_words hts0 (s.drawn)
  have hK := gKd hK0 (s.drawn)
  have hown : (s.setDrawn (s.drawn)).vm.findClass RX12 = some m.cls := hown0
  refine lv_aload_n hx hb dX12_readLine_0 rfl (lv_at hl 0 rfl) ?_
  refine va_ldcSW (tx := "desk") (q := (adK 0)) hx hb hown (vk_R.same rfl hT.2.1.1) dX12_readLine_1 ?_
  have hF := gFree hD hS hA
  refine va_calliD hd0 (va_runV_D (As := [.ref (adK 0)]) (rest := []) ⟨hx, hb, hml, hown, hts⟩ (n_X12_isWord l dC dI ad cA adK adV s.heap.size σ hI 0 (by decide)) (cwV 1 hts gX12_readLine_X12_isWord rfl rfl rfl (by decide +kernel) ⟨Nat.le_of_ble_eq_true rfl, Nat.le_of_ble_eq_true rfl⟩) ⟨gBlind, va_recv hK hP (ci := 11) (q0 := 0) rfl (mat_11 rfl), gStart (As := [.ref (ad 0), .ref (adK 0)]) hP hD hK0 hT hS hF (s.drawn)⟩ rfl rfl hl.1 rfl (lv_room (Nat.le_of_ble_eq_true rfl)) dX12_readLine_4 ⟨Nat.le_of_ble_eq_true rfl, Nat.le_of_ble_eq_true rfl⟩) hS (fun q _ h => hF q h) hF (fun r_1 σ1 t H locs ht hvm hw hB hz1 hk1 hS d_2 hd0 => ?_)
  have hts := dr_words hts0 (d_2)
  have hK := gKd hK0 (d_2)
  have hown : (s.setDrawn (d_2)).vm.findClass RX12 = some m.cls := hown0
  obtain ⟨hP, hD⟩ := gBack hF ht hB
  obtain ⟨hIσ1, hro, hp_3⟩ := hw
  subst hro
  refine lv_if_eq (tgt := 17) hx hb dX12_readLine_7 (by decide) (fun c_4 => ?_) (fun c_4 => ?_)
  · refine lv_aload_n hx hb dX12_readLine_17 rfl (lv_at hl 0 rfl) ?_
    refine va_ldcSW (tx := "holiday") (q := (adK 1)) hx hb hown (vk_R.same rfl hT.2.1.2.1) dX12_readLine_18 ?_
    have hF := gFree hD hS hA
    refine va_calliD hd0 (va_runV_D (As := [.ref (adK 1)]) (rest := []) ⟨hx, hb, hml, hown, hts⟩ (n_X12_isWord l dC dI ad cA adK adV H.size σ hI 1 (by decide)) (cwV 1 hts gX12_readLine_X12_isWord rfl rfl rfl (by decide +kernel) ⟨Nat.le_of_ble_eq_true rfl, Nat.le_of_ble_eq_true rfl⟩) ⟨gBlind, va_recv hK hP (ci := 11) (q0 := 0) rfl (mat_11 rfl), gStart (As := [.ref (ad 0), .ref (adK 1)]) hP hD hK0 hT hS hF (d_2)⟩ rfl rfl hl.1 rfl (lv_room (Nat.le_of_ble_eq_true rfl)) dX12_readLine_21 ⟨Nat.le_of_ble_eq_true rfl, Nat.le_of_ble_eq_true rfl⟩) hS (fun q _ h => hF q h) hF (fun r_5 σ2 t H locs ht hvm hw hB hz1 hk1 hS d_6 hd0 => ?_)
    have hts := dr_words hts0 (d_6)
    have hK := gKd hK0 (d_6)
    have hown : (s.setDrawn (d_6)).vm.findClass RX12 = some m.cls := hown0
    obtain ⟨hP, hD⟩ := gBack hF ht hB
    obtain ⟨hIσ2, hro, hp_7⟩ := hw
    subst hro
    refine lv_if_eq (tgt := 34) hx hb dX12_readLine_24 (by decide) (fun c_8 => ?_) (fun c_8 => ?_)
    · refine lv_aload_n hx hb dX12_readLine_34 rfl (lv_at hl 0 rfl) ?_
      refine va_ldcSW (tx := "bond") (q := (adK 2)) hx hb hown (vk_R.same rfl hT.2.1.2.2.1) dX12_readLine_35 ?_
      have hF := gFree hD hS hA
      refine va_calliD hd0 (va_runV_D (As := [.ref (adK 2)]) (rest := []) ⟨hx, hb, hml, hown, hts⟩ (n_X12_isWord l dC dI ad cA adK adV H.size σ hI 2 (by decide)) (cwV 1 hts gX12_readLine_X12_isWord rfl rfl rfl (by decide +kernel) ⟨Nat.le_of_ble_eq_true rfl, Nat.le_of_ble_eq_true rfl⟩) ⟨gBlind, va_recv hK hP (ci := 11) (q0 := 0) rfl (mat_11 rfl), gStart (As := [.ref (ad 0), .ref (adK 2)]) hP hD hK0 hT hS hF (d_6)⟩ rfl rfl hl.1 rfl (lv_room (Nat.le_of_ble_eq_true rfl)) dX12_readLine_38 ⟨Nat.le_of_ble_eq_true rfl, Nat.le_of_ble_eq_true rfl⟩) hS (fun q _ h => hF q h) hF (fun r_9 σ3 t H locs ht hvm hw hB hz1 hk1 hS d_10 hd0 => ?_)
      have hts := dr_words hts0 (d_10)
      have hK := gKd hK0 (d_10)
      have hown : (s.setDrawn (d_10)).vm.findClass RX12 = some m.cls := hown0
      obtain ⟨hP, hD⟩ := gBack hF ht hB
      obtain ⟨hIσ3, hro, hp_11⟩ := hw
      subst hro
      refine lv_if_eq (tgt := 51) hx hb dX12_readLine_41 (by decide) (fun c_12 => ?_) (fun c_12 => ?_)
      · refine lv_aload_n hx hb dX12_readLine_51 rfl (lv_at hl 0 rfl) ?_
        refine va_ldcSW (tx := "quote") (q := (adK 3)) hx hb hown (vk_R.same rfl hT.2.1.2.2.2.1) dX12_readLine_52 ?_
        have hF := gFree hD hS hA
        refine va_calliD hd0 (va_runV_D (As := [.ref (adK 3)]) (rest := []) ⟨hx, hb, hml, hown, hts⟩ (n_X12_isWord l dC dI ad cA adK adV H.size σ hI 3 (by decide)) (cwV 1 hts gX12_readLine_X12_isWord rfl rfl rfl (by decide +kernel) ⟨Nat.le_of_ble_eq_true rfl, Nat.le_of_ble_eq_true rfl⟩) ⟨gBlind, va_recv hK hP (ci := 11) (q0 := 0) rfl (mat_11 rfl), gStart (As := [.ref (ad 0), .ref (adK 3)]) hP hD hK0 hT hS hF (d_10)⟩ rfl rfl hl.1 rfl (lv_room (Nat.le_of_ble_eq_true rfl)) dX12_readLine_55 ⟨Nat.le_of_ble_eq_true rfl, Nat.le_of_ble_eq_true rfl⟩) hS (fun q _ h => hF q h) hF (fun r_13 σ4 t H locs ht hvm hw hB hz1 hk1 hS d_14 hd0 => ?_)
        have hts := dr_words hts0 (d_14)
        have hK := gKd hK0 (d_14)
        have hown : (s.setDrawn (d_14)).vm.findClass RX12 = some m.cls := hown0
        obtain ⟨hP, hD⟩ := gBack hF ht hB
        obtain ⟨hIσ4, hro, hp_15⟩ := hw
        subst hro
        refine lv_if_eq (tgt := 68) hx hb dX12_readLine_58 (by decide) (fun c_16 => ?_) (fun c_16 => ?_)
        · refine lv_aload_n hx hb dX12_readLine_68 rfl (lv_at hl 0 rfl) ?_
          refine lv_iconst (v := 1) hx hb dX12_readLine_69 (by decide) ?_
          have hF := gFree hD hS hA
          refine va_callvD hd0 (va_runV_D (As := [.int 1]) (rest := []) ⟨hx, hb, hml, hown, hts⟩ (n_X12_wrong l dC dI ad cA adK adV H.size σ hI 1 (show (0 : Int32) < 1 by decide)) (cwV 1 hts gX12_readLine_X12_wrong rfl rfl rfl (by decide +kernel) ⟨Nat.le_of_ble_eq_true rfl, Nat.le_of_ble_eq_true rfl⟩) ⟨gBlind, va_recv hK hP (ci := 11) (q0 := 0) rfl (mat_11 rfl), gStart (As := [.ref (ad 0), .int 1]) hP hD hK0 hT hS hF (d_14)⟩ rfl rfl hl.1 rfl (lv_room (Nat.le_of_ble_eq_true rfl)) dX12_readLine_70 ⟨Nat.le_of_ble_eq_true rfl, Nat.le_of_ble_eq_true rfl⟩) hS (fun q _ h => hF q h) hF (fun σ5 t H locs ht hvm hw hB hz1 hk1 hS d_18 hd0 => ?_)
          have hts := dr_words hts0 (d_18)
          have hK := gKd hK0 (d_18)
          have hown : (s.setDrawn (d_18)).vm.findClass RX12 = some m.cls := hown0
          obtain ⟨hP, hD⟩ := gBack hF ht hB
          obtain ⟨hIσ5, fcσ5, hp_19⟩ := hw
          refine W.endD hd0 ?_
          exact W.vret hx hb hr (fun t ht hW => ⟨⟨σ5, rfl, ⟨hIσ5, (mFr.tr (mFr.rfl (L := [41, 42, 43, 44, 45, 46, 47, 48, 50, 51, 52, 53, 55]) (F := [23, 24, 25, 26, 27, 29, 33, 34, 35, 36, 37]) (σ := σ)) fcσ5 (by decide) (by decide)), ⟨hp_19.1, hp_19.2.2, (mRead_bad hp_19.2.1), (LOW.cells (by rw [fcσ5.1 2 (by decide) (by decide)]) (by rw [fcσ5.1 4 (by decide) (by decide)]) (by rw [fcσ5.1 11 (by decide) (by decide)]) (by rw [fcσ5.1 12 (by decide) (by decide)]))⟩⟩, ⟨by rw [ht]; exact hP, hD⟩⟩, hS.F ht⟩) hS.2.2 dX12_readLine_73
        · refine lv_aload_n hx hb dX12_readLine_61 rfl (lv_at hl 0 rfl) ?_
          have hF := gFree hD hS hA
          refine va_callvD hd0 (va_runV_D (As := []) (rest := []) ⟨hx, hb, hml, hown, hts⟩ (n_X12_readQuote l dC dI ad cA adK adV H.size σ hI (mRead_fr hh0 (Int32.le_refl ((σ 0).1 37)) (fun j => ⟨rfl, rfl, rfl, rfl, rfl, rfl⟩) (Eq.refl _) (Eq.refl _) (Eq.refl _) (Eq.refl _) (Eq.refl _) (Eq.refl _))) (cwV 0 hts gX12_readLine_X12_readQuote rfl rfl rfl (by decide +kernel) ⟨Nat.le_of_ble_eq_true rfl, Nat.le_of_ble_eq_true rfl⟩) ⟨gBlind, va_recv hK hP (ci := 11) (q0 := 0) rfl (mat_11 rfl), gStart (As := [.ref (ad 0)]) hP hD hK0 hT hS hF (d_14)⟩ rfl rfl hl.1 rfl (lv_room (Nat.le_of_ble_eq_true rfl)) dX12_readLine_62 ⟨Nat.le_of_ble_eq_true rfl, Nat.le_of_ble_eq_true rfl⟩) hS (fun q _ h => hF q h) hF (fun σ6 t H locs ht hvm hw hB hz1 hk1 hS d_21 hd0 => ?_)
          have hts := dr_words hts0 (d_21)
          have hK := gKd hK0 (d_21)
          have hown : (s.setDrawn (d_21)).vm.findClass RX12 = some m.cls := hown0
          obtain ⟨hP, hD⟩ := gBack hF ht hB
          obtain ⟨hIσ6, fcσ6, hp_22⟩ := hw
          have lw_23 : LOW σ σ6 := LOW.tr (LOW.cells rfl rfl rfl rfl) hp_22.2.2.2
          refine lv_goto (tgt := 73) hx hb dX12_readLine_65 (by decide) ?_
          refine W.endD hd0 ?_
          exact W.vret hx hb hr (fun t ht hW => ⟨⟨σ6, rfl, ⟨hIσ6, (mFr.tr (mFr.rfl (L := [41, 42, 43, 44, 45, 46, 47, 48, 50, 51, 52, 53, 55]) (F := [23, 24, 25, 26, 27, 29, 33, 34, 35, 36, 37]) (σ := σ)) fcσ6 (by decide) (by decide)), ⟨hp_22.1, hp_22.2.1, hp_22.2.2.1, lw_23⟩⟩, ⟨by rw [ht]; exact hP, hD⟩⟩, hS.F ht⟩) hS.2.2 dX12_readLine_73
      · refine lv_aload_n hx hb dX12_readLine_44 rfl (lv_at hl 0 rfl) ?_
        have hF := gFree hD hS hA
        refine va_callvD hd0 (va_runV_D (As := []) (rest := []) ⟨hx, hb, hml, hown, hts⟩ (n_X12_readBond l dC dI ad cA adK adV H.size σ hI (mRead_fr hh0 (Int32.le_refl ((σ 0).1 37)) (fun j => ⟨rfl, rfl, rfl, rfl, rfl, rfl⟩) (Eq.refl _) (Eq.refl _) (Eq.refl _) (Eq.refl _) (Eq.refl _) (Eq.refl _))) (cwV 0 hts gX12_readLine_X12_readBond rfl rfl rfl (by decide +kernel) ⟨Nat.le_of_ble_eq_true rfl, Nat.le_of_ble_eq_true rfl⟩) ⟨gBlind, va_recv hK hP (ci := 11) (q0 := 0) rfl (mat_11 rfl), gStart (As := [.ref (ad 0)]) hP hD hK0 hT hS hF (d_10)⟩ rfl rfl hl.1 rfl (lv_room (Nat.le_of_ble_eq_true rfl)) dX12_readLine_45 ⟨Nat.le_of_ble_eq_true rfl, Nat.le_of_ble_eq_true rfl⟩) hS (fun q _ h => hF q h) hF (fun σ7 t H locs ht hvm hw hB hz1 hk1 hS d_25 hd0 => ?_)
        have hts := dr_words hts0 (d_25)
        have hK := gKd hK0 (d_25)
        have hown : (s.setDrawn (d_25)).vm.findClass RX12 = some m.cls := hown0
        obtain ⟨hP, hD⟩ := gBack hF ht hB
        obtain ⟨hIσ7, fcσ7, hp_26⟩ := hw
        have lw_27 : LOW σ σ7 := LOW.tr (LOW.cells rfl rfl rfl rfl) hp_26.2.2.2
        refine lv_goto (tgt := 73) hx hb dX12_readLine_48 (by decide) ?_
        refine W.endD hd0 ?_
        exact W.vret hx hb hr (fun t ht hW => ⟨⟨σ7, rfl, ⟨hIσ7, (mFr.tr (mFr.rfl (L := [41, 42, 43, 44, 45, 46, 47, 48, 50, 51, 52, 53, 55]) (F := [23, 24, 25, 26, 27, 29, 33, 34, 35, 36, 37]) (σ := σ)) fcσ7 (by decide) (by decide)), ⟨hp_26.1, hp_26.2.1, hp_26.2.2.1, lw_27⟩⟩, ⟨by rw [ht]; exact hP, hD⟩⟩, hS.F ht⟩) hS.2.2 dX12_readLine_73
    · refine lv_aload_n hx hb dX12_readLine_27 rfl (lv_at hl 0 rfl) ?_
      have hF := gFree hD hS hA
      refine va_callvD hd0 (va_runV_D (As := []) (rest := []) ⟨hx, hb, hml, hown, hts⟩ (n_X12_readHoliday l dC dI ad cA adK adV H.size σ hI (mRead_fr hh0 (Int32.le_refl ((σ 0).1 37)) (fun j => ⟨rfl, rfl, rfl, rfl, rfl, rfl⟩) (Eq.refl _) (Eq.refl _) (Eq.refl _) (Eq.refl _) (Eq.refl _) (Eq.refl _))) (cwV 0 hts gX12_readLine_X12_readHoliday rfl rfl rfl (by decide +kernel) ⟨Nat.le_of_ble_eq_true rfl, Nat.le_of_ble_eq_true rfl⟩) ⟨gBlind, va_recv hK hP (ci := 11) (q0 := 0) rfl (mat_11 rfl), gStart (As := [.ref (ad 0)]) hP hD hK0 hT hS hF (d_6)⟩ rfl rfl hl.1 rfl (lv_room (Nat.le_of_ble_eq_true rfl)) dX12_readLine_28 ⟨Nat.le_of_ble_eq_true rfl, Nat.le_of_ble_eq_true rfl⟩) hS (fun q _ h => hF q h) hF (fun σ8 t H locs ht hvm hw hB hz1 hk1 hS d_29 hd0 => ?_)
      have hts := dr_words hts0 (d_29)
      have hK := gKd hK0 (d_29)
      have hown : (s.setDrawn (d_29)).vm.findClass RX12 = some m.cls := hown0
      obtain ⟨hP, hD⟩ := gBack hF ht hB
      obtain ⟨hIσ8, fcσ8, hp_30⟩ := hw
      refine lv_goto (tgt := 73) hx hb dX12_readLine_31 (by decide) ?_
      refine W.endD hd0 ?_
      exact W.vret hx hb hr (fun t ht hW => ⟨⟨σ8, rfl, ⟨hIσ8, (mFr.tr (mFr.rfl (L := [41, 42, 43, 44, 45, 46, 47, 48, 50, 51, 52, 53, 55]) (F := [23, 24, 25, 26, 27, 29, 33, 34, 35, 36, 37]) (σ := σ)) fcσ8 (by decide) (by decide)), ⟨hp_30.1, hp_30.2.1, hp_30.2.2, (LOW.cells (by rw [fcσ8.1 2 (by decide) (by decide)]) (by rw [fcσ8.1 4 (by decide) (by decide)]) (by rw [fcσ8.1 11 (by decide) (by decide)]) (by rw [fcσ8.1 12 (by decide) (by decide)]))⟩⟩, ⟨by rw [ht]; exact hP, hD⟩⟩, hS.F ht⟩) hS.2.2 dX12_readLine_73
  · refine lv_aload_n hx hb dX12_readLine_10 rfl (lv_at hl 0 rfl) ?_
    have hF := gFree hD hS hA
    refine va_callvD hd0 (va_runV_D (As := []) (rest := []) ⟨hx, hb, hml, hown, hts⟩ (n_X12_readDesk l dC dI ad cA adK adV H.size σ hI (mRead_fr hh0 (Int32.le_refl ((σ 0).1 37)) (fun j => ⟨rfl, rfl, rfl, rfl, rfl, rfl⟩) (Eq.refl _) (Eq.refl _) (Eq.refl _) (Eq.refl _) (Eq.refl _) (Eq.refl _))) (cwV 0 hts gX12_readLine_X12_readDesk rfl rfl rfl (by decide +kernel) ⟨Nat.le_of_ble_eq_true rfl, Nat.le_of_ble_eq_true rfl⟩) ⟨gBlind, va_recv hK hP (ci := 11) (q0 := 0) rfl (mat_11 rfl), gStart (As := [.ref (ad 0)]) hP hD hK0 hT hS hF (d_2)⟩ rfl rfl hl.1 rfl (lv_room (Nat.le_of_ble_eq_true rfl)) dX12_readLine_11 ⟨Nat.le_of_ble_eq_true rfl, Nat.le_of_ble_eq_true rfl⟩) hS (fun q _ h => hF q h) hF (fun σ9 t H locs ht hvm hw hB hz1 hk1 hS d_32 hd0 => ?_)
    have hts := dr_words hts0 (d_32)
    have hK := gKd hK0 (d_32)
    have hown : (s.setDrawn (d_32)).vm.findClass RX12 = some m.cls := hown0
    obtain ⟨hP, hD⟩ := gBack hF ht hB
    obtain ⟨hIσ9, fcσ9, hp_33⟩ := hw
    refine lv_goto (tgt := 73) hx hb dX12_readLine_14 (by decide) ?_
    refine W.endD hd0 ?_
    exact W.vret hx hb hr (fun t ht hW => ⟨⟨σ9, rfl, ⟨hIσ9, (mFr.tr (mFr.rfl (L := [41, 42, 43, 44, 45, 46, 47, 48, 50, 51, 52, 53, 55]) (F := [23, 24, 25, 26, 27, 29, 33, 34, 35, 36, 37]) (σ := σ)) fcσ9 (by decide) (by decide)), ⟨hp_33.1, hp_33.2.1, hp_33.2.2, (LOW.cells (by rw [fcσ9.1 2 (by decide) (by decide)]) (by rw [fcσ9.1 4 (by decide) (by decide)]) (by rw [fcσ9.1 11 (by decide) (by decide)]) (by rw [fcσ9.1 12 (by decide) (by decide)]))⟩⟩, ⟨by rw [ht]; exact hP, hD⟩⟩, hS.F ht⟩) hS.2.2 dX12_readLine_73
set_option maxHeartbeats 8000000 in
set_option maxRecDepth 100000 in
theorem n_X12_readAll (l : Launch) (dC : Nat → ClassId) (dI : Nat → Nat → Nat) (ad : Nat → Nat) (cA : Nat → ClassId) (adK adV : Nat → Nat) (sz : Nat) (σ : gs) (hI : InvM σ) (hh0 : (σ 0).1 37 ≤ 0) : MetD lw_cs l yX12_readAll wsX12_readAll ({ frames := 10, cells := 0, slots := 0, locals := 213 }) (va_Pc [.ref (ad 0)] (gPre adK adV (dC, dI) (wM ad cA σ) (tM cA) sz)) (va_Qv (fun (τ : gs) => InvM τ ∧ mFr [41, 42, 43, 44, 45, 46, 47, 48, 50, 51, 52, 53, 55] [23, 24, 25, 26, 27, 29, 33, 34, 35, 36, 37] σ τ ∧ ((mRead τ) ∧ (LOW σ τ) ∧ ((τ 0).1 37 ≤ 0 → 1 ≤ (τ 0).1 29))) (fun τ t => gPost (dC, dI) (va_A (wM ad cA σ) sz) (wM ad cA τ) t) (va_A (wM ad cA σ) sz)) 0 0 (va_A (wM ad cA σ) sz) := by
  refine MetD.ofW (cc := cX12_readAll) (maxL := 1) (ret := none) (by decide) rfl ?_
  intro p e s m args below meth c s₁ B hml hv hd0
  obtain ⟨rfl, hsz, hP, hK, hD0, hT⟩ := hv
  have hx := B.exec
  have hb := B.bytes
  have hr := B.returns
  have hts0 := atoms_spec (ws := wsX12_readAll) B.pre
  have hK0 := hK
  have hown0 : s.vm.findClass RX12 = some m.cls := findClass_of_methodNamed B.named
  have hlocks := B.notSynchronized
  have hinX12 : ∀ w ∈ u_ws RX12 TX12 69, w ∈ wsX12_readAll := (fun _ h9 => List.mem_cons_of_mem _ (List.mem_append_right _ h9))
  subst hsz
  have hD := hD0.self (sz := s.heap.size)
  generalize hAe : va_A (wM ad cA σ) s.heap.size = A at hD hT ⊢
  have hA : ∀ q : Nat, s.heap.size ≤ q → A q := fun q h => by rw [← hAe]; exact Or.inr h
  have hS : va_S A s.heap s.heap [] := va_S.rf
  have hl := lv_entry ([.ref (ad 0)]) (n := 1) (Nat.le_of_ble_eq_true rfl)
  rw [lg_entry_eq]
  generalize (lg_sl ([.ref (ad 0)]) ++ List.replicate (1 - (lg_sl ([.ref (ad 0)])).length) Slot.unset).toArray = ls at hl ⊢
  have hl : lv_has ls 1 [(0, .ref (ad 0))] := hl
  have hts := dr_words hts0 (s.drawn)
  have hK := gKd hK0 (s.drawn)
  have hown : (s.setDrawn (s.drawn)).vm.findClass RX12 = some m.cls := hown0
  refine lv_aload_n hx hb dX12_readAll_0 rfl (lv_at hl 0 rfl) ?_
  refine lv_iconst (v := 0) hx hb dX12_readAll_1 (by decide) ?_
  refine va_put (D := (dC, dI)) (ci := 11) (v := .int 0) (C := RX12) (T := TX12) (N := 69) hx hb hts hinX12 tyX12 tyX12_ok nmX12 hown hK hP hD hS 0 (mat_11 rfl) rfl 29 (by decide) (hts (.fieldLink RX12 256 "BondCalendarsModel" "isBegun" "Z") (by decide +kernel)) (fun _ h9 => h9) rfl (ty := .boolean) (by decide +kernel) (by decide +kernel) (by decide +kernel) (Nat.le_of_ble_eq_true rfl) dX12_readAll_2 (fun H locs hP hD hS => ?_)
  obtain ⟨σ1, eσ1, hP, hD⟩ := gPut (mse_11_29 rfl) hP hD
  have hIσ1 : InvM σ1 := by rw [eσ1]; exact minv_I hI (mok_11_29 rfl _ ⟨(show (0 : Int32) ≤ 0 by decide), (show (0 : Int32) ≤ 1 by decide)⟩)
  have frσ1 : mFr [41, 42, 43, 44, 45, 46, 47, 48, 50, 51, 52, 53, 55] [23, 24, 25, 26, 27, 29, 33, 34, 35, 36, 37] σ σ1 := by rw [eσ1]; exact mFr.oI (mFr.rfl (L := [41, 42, 43, 44, 45, 46, 47, 48, 50, 51, 52, 53, 55]) (F := [23, 24, 25, 26, 27, 29, 33, 34, 35, 36, 37]) (σ := σ)) (by decide)
  refine lv_aload_n hx hb dX12_readAll_5 rfl (lv_at hl 0 rfl) ?_
  refine lv_iconst (v := 0) hx hb dX12_readAll_6 (by decide) ?_
  refine va_put (D := (dC, dI)) (ci := 11) (v := .int 0) (C := RX12) (T := TX12) (N := 69) hx hb hts hinX12 tyX12 tyX12_ok nmX12 hown hK hP hD hS 0 (mat_11 rfl) rfl 23 (by decide) (hts (.fieldLink RX12 260 "BondCalendarsModel" "readBonds" "I") (by decide +kernel)) (fun _ h9 => h9) rfl (ty := .int) (by decide +kernel) rfl rfl (Nat.le_of_ble_eq_true rfl) dX12_readAll_7 (fun H locs hP hD hS => ?_)
  obtain ⟨σ2, eσ2, hP, hD⟩ := gPut (mse_11_23 rfl) hP hD
  have hIσ2 : InvM σ2 := by rw [eσ2]; exact minv_I hIσ1 (mok_11_23 rfl _ ⟨(show (0 : Int32) ≤ 0 by decide), (show (0 : Int32) ≤ 4 by decide)⟩)
  have frσ2 : mFr [41, 42, 43, 44, 45, 46, 47, 48, 50, 51, 52, 53, 55] [23, 24, 25, 26, 27, 29, 33, 34, 35, 36, 37] σ σ2 := by rw [eσ2]; exact mFr.oI frσ1 (by decide)
  refine lv_aload_n hx hb dX12_readAll_10 rfl (lv_at hl 0 rfl) ?_
  refine lv_iconst (v := 0) hx hb dX12_readAll_11 (by decide) ?_
  refine va_put (D := (dC, dI)) (ci := 11) (v := .int 0) (C := RX12) (T := TX12) (N := 69) hx hb hts hinX12 tyX12 tyX12_ok nmX12 hown hK hP hD hS 0 (mat_11 rfl) rfl 24 (by decide) (hts (.fieldLink RX12 263 "BondCalendarsModel" "readQuotes" "I") (by decide +kernel)) (fun _ h9 => h9) rfl (ty := .int) (by decide +kernel) rfl rfl (Nat.le_of_ble_eq_true rfl) dX12_readAll_12 (fun H locs hP hD hS => ?_)
  obtain ⟨σ3, eσ3, hP, hD⟩ := gPut (mse_11_24 rfl) hP hD
  have hIσ3 : InvM σ3 := by rw [eσ3]; exact minv_I hIσ2 (mok_11_24 rfl _ ⟨(show (0 : Int32) ≤ 0 by decide), (show (0 : Int32) ≤ 6 by decide)⟩)
  have frσ3 : mFr [41, 42, 43, 44, 45, 46, 47, 48, 50, 51, 52, 53, 55] [23, 24, 25, 26, 27, 29, 33, 34, 35, 36, 37] σ σ3 := by rw [eσ3]; exact mFr.oI frσ2 (by decide)
  refine lv_aload_n hx hb dX12_readAll_15 rfl (lv_at hl 0 rfl) ?_
  refine lv_iconst (v := 0) hx hb dX12_readAll_16 (by decide) ?_
  refine va_put (D := (dC, dI)) (ci := 11) (v := .int 0) (C := RX12) (T := TX12) (N := 69) hx hb hts hinX12 tyX12 tyX12_ok nmX12 hown hK hP hD hS 0 (mat_11 rfl) rfl 25 (by decide) (hts (.fieldLink RX12 266 "BondCalendarsModel" "readFrees" "I") (by decide +kernel)) (fun _ h9 => h9) rfl (ty := .int) (by decide +kernel) rfl rfl (Nat.le_of_ble_eq_true rfl) dX12_readAll_17 (fun H locs hP hD hS => ?_)
  obtain ⟨σ4, eσ4, hP, hD⟩ := gPut (mse_11_25 rfl) hP hD
  have hIσ4 : InvM σ4 := by rw [eσ4]; exact minv_I hIσ3 (mok_11_25 rfl _ ⟨(show (0 : Int32) ≤ 0 by decide), (show (0 : Int32) ≤ 10 by decide)⟩)
  have frσ4 : mFr [41, 42, 43, 44, 45, 46, 47, 48, 50, 51, 52, 53, 55] [23, 24, 25, 26, 27, 29, 33, 34, 35, 36, 37] σ σ4 := by rw [eσ4]; exact mFr.oI frσ3 (by decide)
  refine lv_aload_n hx hb dX12_readAll_20 rfl (lv_at hl 0 rfl) ?_
  have hF := gFree hD hS hA
  refine va_callvD hd0 (va_runV_D (As := []) (rest := []) ⟨hx, hb, hml, hown, hts⟩ (n_X12_next l dC dI ad cA adK adV H.size σ4 hIσ4 ) (cwV 0 hts gX12_readAll_X12_next rfl rfl rfl (by decide +kernel) ⟨Nat.le_of_ble_eq_true rfl, Nat.le_of_ble_eq_true rfl⟩) ⟨gBlind, va_recv hK hP (ci := 11) (q0 := 0) rfl (mat_11 rfl), gStart (As := [.ref (ad 0)]) hP hD hK0 hT hS hF (s.drawn)⟩ rfl rfl hl.1 rfl (lv_room (Nat.le_of_ble_eq_true rfl)) dX12_readAll_21 ⟨Nat.le_of_ble_eq_true rfl, Nat.le_of_ble_eq_true rfl⟩) hS (fun q _ h => hF q h) hF (fun σ5 t H locs ht hvm hw hB hz1 hk1 hS d_2 hd0 => ?_)
  have hts := dr_words hts0 (d_2)
  have hK := gKd hK0 (d_2)
  have hown : (s.setDrawn (d_2)).vm.findClass RX12 = some m.cls := hown0
  obtain ⟨hP, hD⟩ := gBack hF ht hB
  obtain ⟨hIσ5, fcσ5, hp_3⟩ := hw
  refine lv_aload_n hx hb dX12_readAll_24 rfl (lv_at hl 0 rfl) ?_
  have hF := gFree hD hS hA
  refine va_callvD hd0 (va_runV_D (As := []) (rest := []) ⟨hx, hb, hml, hown, hts⟩ (n_X12_readLine l dC dI ad cA adK adV H.size σ5 hIσ5 (mRead_0 (by rw [fcσ5.2 23 (by decide), eσ4, gI_oth _ _ _ (by decide), eσ3, gI_oth _ _ _ (by decide), eσ2, gI_self]) (by rw [fcσ5.2 24 (by decide), eσ4, gI_oth _ _ _ (by decide), eσ3, gI_self]) (by rw [fcσ5.2 29 (by decide), eσ4, gI_oth _ _ _ (by decide), eσ3, gI_oth _ _ _ (by decide), eσ2, gI_oth _ _ _ (by decide), eσ1, gI_self]))) (cwV 0 hts gX12_readAll_X12_readLine rfl rfl rfl (by decide +kernel) ⟨Nat.le_of_ble_eq_true rfl, Nat.le_of_ble_eq_true rfl⟩) ⟨gBlind, va_recv hK hP (ci := 11) (q0 := 0) rfl (mat_11 rfl), gStart (As := [.ref (ad 0)]) hP hD hK0 hT hS hF (d_2)⟩ rfl rfl hl.1 rfl (lv_room (Nat.le_of_ble_eq_true rfl)) dX12_readAll_25 ⟨Nat.le_of_ble_eq_true rfl, Nat.le_of_ble_eq_true rfl⟩) hS (fun q _ h => hF q h) hF (fun σ6 t H locs ht hvm hw hB hz1 hk1 hS d_5 hd0 => ?_)
  have hts := dr_words hts0 (d_5)
  have hK := gKd hK0 (d_5)
  have hown : (s.setDrawn (d_5)).vm.findClass RX12 = some m.cls := hown0
  obtain ⟨hP, hD⟩ := gBack hF ht hB
  obtain ⟨hIσ6, fcσ6, hp_6⟩ := hw
  have of_7 : ((σ 0).1 37 : Int32) ≤ ((σ6 0).1 37 : Int32) := le_ch (show ((σ5 0).1 37 : Int32) = ((σ 0).1 37 : Int32) from by rw [fcσ5.2 37 (by decide), eσ4, gI_oth _ _ _ (by decide), eσ3, gI_oth _ _ _ (by decide), eσ2, gI_oth _ _ _ (by decide), eσ1, gI_oth _ _ _ (by decide)]).symm (Eq.refl _).symm hp_6.1
  have lw_8 : LOW σ σ6 := LOW.tr (LOW.cells (by rw [fcσ5.1 2 (by decide) (by decide), eσ4, gI_ne _ _ _ (by decide), eσ3, gI_ne _ _ _ (by decide), eσ2, gI_ne _ _ _ (by decide), eσ1, gI_ne _ _ _ (by decide)]) (by rw [fcσ5.1 4 (by decide) (by decide), eσ4, gI_ne _ _ _ (by decide), eσ3, gI_ne _ _ _ (by decide), eσ2, gI_ne _ _ _ (by decide), eσ1, gI_ne _ _ _ (by decide)]) (by rw [fcσ5.1 11 (by decide) (by decide), eσ4, gI_ne _ _ _ (by decide), eσ3, gI_ne _ _ _ (by decide), eσ2, gI_ne _ _ _ (by decide), eσ1, gI_ne _ _ _ (by decide)]) (by rw [fcσ5.1 12 (by decide) (by decide), eσ4, gI_ne _ _ _ (by decide), eσ3, gI_ne _ _ _ (by decide), eσ2, gI_ne _ _ _ (by decide), eσ1, gI_ne _ _ _ (by decide)])) hp_6.2.2.2
  refine (fun (h : ∀ (n : Nat)  (σ28x : gs) (d28 : Drawn) (H : Heap) (locs : List Loc) (ls : Array Slot), (((900 : Int32).toInt - ((σ28x 0).1 33).toInt).toNat * 2 + (if 4 ≤ (σ28x 0).1 34 then 1 else 0)) < n → (4 ≤ (σ28x 0).1 34 → (σ28x 0).1 37 ≤ 0) → mRead σ28x → LOW σ σ28x → InvM σ28x → mFr [41, 42, 43, 44, 45, 46, 47, 48, 50, 51, 52, 53, 55] [23, 24, 25, 26, 27, 29, 33, 34, 35, 36, 37] σ σ28x → s.drawn.sameBut d28 lw_cs → va_P (dC, dI) vwCl (wM ad cA σ28x) H → va_D A (wM ad cA σ28x) → va_S A s.heap H locs → lv_has ls 1 [(0, .ref (ad 0))] → W p l e _ (s.setDrawn d28) m _ below meth c H locs _ _ _ (F0 m 28 ls [])) => h _  σ6 _ _ _ _ (Nat.lt_succ_self _) (((SP.tr (SP.tr (SP.same (σ := σ) (τ := σ4) (by rw [eσ4, gI_oth _ _ _ (by decide), eσ3, gI_oth _ _ _ (by decide), eσ2, gI_oth _ _ _ (by decide), eσ1, gI_oth _ _ _ (by decide)]) (by rw [eσ4, gI_oth _ _ _ (by decide), eσ3, gI_oth _ _ _ (by decide), eσ2, gI_oth _ _ _ (by decide), eσ1, gI_oth _ _ _ (by decide)]) (by rw [eσ4, gI_oth _ _ _ (by decide), eσ3, gI_oth _ _ _ (by decide), eσ2, gI_oth _ _ _ (by decide), eσ1, gI_oth _ _ _ (by decide)])) hp_3.1) hp_6.2.1)).2.2 (fun _ => hh0)) hp_6.2.2.1 lw_8 hIσ6 (mFr.tr (mFr.tr frσ4 fcσ5 (by decide) (by decide)) fcσ6 (by decide) (by decide)) hd0 hP hD hS (lv_sub hl [0] rfl)) ?_
  intro n28
  induction n28 with
  | zero => intro  σ28x d28 H locs ls hm; exact absurd hm (Nat.not_lt_zero _)
  | succ n28 ih28 =>
    intro  σ28x d28 H locs ls hm28 iv28_0 iv28_1 iv28_2 hIσ28x frσ28x hd0 hP hD hS hl
    have hts := dr_words hts0 (d28)
    have hK := gKd hK0 (d28)
    have hown : (s.setDrawn (d28)).vm.findClass RX12 = some m.cls := hown0
    refine lv_aload_n hx hb dX12_readAll_28 rfl (lv_at hl 0 rfl) ?_
    refine va_get (D := (dC, dI)) (ci := 11) (v := .int ((σ28x 0).1 34)) (C := RX12) (T := TX12) (N := 69) hx hb hts hinX12 hown hK hP 0 (mat_11 rfl) rfl 34 (by decide) (hts (.fieldLink RX12 204 "BondCalendarsModel" "kind" "I") (by decide +kernel)) (fun _ h9 => h9) rfl dX12_readAll_29 ?_
    refine lv_iconst (v := 4) hx hb dX12_readAll_32 (by decide) ?_
    refine lv_icmp_ne (tgt := 47) hx hb dX12_readAll_33 (by decide) (fun c_9 => ?_) (fun c_9 => ?_)
    · refine lv_aload_n hx hb dX12_readAll_47 rfl (lv_at hl 0 rfl) ?_
      refine va_get (D := (dC, dI)) (ci := 11) (v := .int ((σ28x 0).1 34)) (C := RX12) (T := TX12) (N := 69) hx hb hts hinX12 hown hK hP 0 (mat_11 rfl) rfl 34 (by decide) (hts (.fieldLink RX12 204 "BondCalendarsModel" "kind" "I") (by decide +kernel)) (fun _ h9 => h9) rfl dX12_readAll_48 ?_
      refine lv_iconst (v := 1) hx hb dX12_readAll_51 (by decide) ?_
      refine lv_icmp_eq (tgt := 60) hx hb dX12_readAll_52 (by decide) (fun c_10 => ?_) (fun c_10 => ?_)
      · refine lv_aload_n hx hb dX12_readAll_60 rfl (lv_at hl 0 rfl) ?_
        have bd_11 := mrd_11_37 (c := 0) hIσ28x rfl
        refine va_get (D := (dC, dI)) (ci := 11) (v := .int ((σ28x 0).1 37)) (C := RX12) (T := TX12) (N := 69) hx hb hts hinX12 hown hK hP 0 (mat_11 rfl) rfl 37 (by decide) (hts (.fieldLink RX12 192 "BondCalendarsModel" "fault" "I") (by decide +kernel)) (fun _ h9 => h9) rfl dX12_readAll_61 ?_
        refine lv_if_ne (tgt := 80) hx hb dX12_readAll_64 (by decide) (fun c_12 => ?_) (fun c_12 => ?_)
        · refine W.endD hd0 ?_
          exact W.vret hx hb hr (fun t ht hW => ⟨⟨σ28x, rfl, ⟨hIσ28x, frσ28x, ⟨iv28_1, iv28_2, (fun h9 => absurd h9 (Int32.not_le.mpr (ne_lt bd_11 c_12)))⟩⟩, ⟨by rw [ht]; exact hP, hD⟩⟩, hS.F ht⟩) hS.2.2 dX12_readAll_80
        · refine lv_aload_n hx hb dX12_readAll_67 rfl (lv_at hl 0 rfl) ?_
          have bd_13 := mrd_11_29 (c := 0) hIσ28x rfl
          refine va_get (D := (dC, dI)) (ci := 11) (v := .int ((σ28x 0).1 29)) (C := RX12) (T := TX12) (N := 69) hx hb hts hinX12 hown hK hP 0 (mat_11 rfl) rfl 29 (by decide) (hts (.fieldLink RX12 256 "BondCalendarsModel" "isBegun" "Z") (by decide +kernel)) (fun _ h9 => h9) rfl dX12_readAll_68 ?_
          refine lv_if_ne (tgt := 80) hx hb dX12_readAll_71 (by decide) (fun c_14 => ?_) (fun c_14 => ?_)
          · refine W.endD hd0 ?_
            exact W.vret hx hb hr (fun t ht hW => ⟨⟨σ28x, rfl, ⟨hIσ28x, frσ28x, ⟨iv28_1, iv28_2, (fun _ => (gl1 (b := 1) (ne_lt bd_13.1 c_14) (by decide)))⟩⟩, ⟨by rw [ht]; exact hP, hD⟩⟩, hS.F ht⟩) hS.2.2 dX12_readAll_80
          · refine lv_aload_n hx hb dX12_readAll_74 rfl (lv_at hl 0 rfl) ?_
            refine lv_bipush (v := 7) hx hb dX12_readAll_75 (by decide) ?_
            have hF := gFree hD hS hA
            refine va_callvD hd0 (va_runV_D (As := [.int 7]) (rest := []) ⟨hx, hb, hml, hown, hts⟩ (n_X12_wrong l dC dI ad cA adK adV H.size σ28x hIσ28x 7 (show (0 : Int32) < 7 by decide)) (cwV 1 hts gX12_readAll_X12_wrong rfl rfl rfl (by decide +kernel) ⟨Nat.le_of_ble_eq_true rfl, Nat.le_of_ble_eq_true rfl⟩) ⟨gBlind, va_recv hK hP (ci := 11) (q0 := 0) rfl (mat_11 rfl), gStart (As := [.ref (ad 0), .int 7]) hP hD hK0 hT hS hF (d28)⟩ rfl rfl hl.1 rfl (lv_room (Nat.le_of_ble_eq_true rfl)) dX12_readAll_77 ⟨Nat.le_of_ble_eq_true rfl, Nat.le_of_ble_eq_true rfl⟩) hS (fun q _ h => hF q h) hF (fun σ7 t H locs ht hvm hw hB hz1 hk1 hS d_16 hd0 => ?_)
            have hts := dr_words hts0 (d_16)
            have hK := gKd hK0 (d_16)
            have hown : (s.setDrawn (d_16)).vm.findClass RX12 = some m.cls := hown0
            obtain ⟨hP, hD⟩ := gBack hF ht hB
            obtain ⟨hIσ7, fcσ7, hp_17⟩ := hw
            refine W.endD hd0 ?_
            exact W.vret hx hb hr (fun t ht hW => ⟨⟨σ7, rfl, ⟨hIσ7, (mFr.tr frσ28x fcσ7 (by decide) (by decide)), ⟨(mRead_bad hp_17.2.1), (LOW.tr iv28_2 (LOW.cells (by rw [fcσ7.1 2 (by decide) (by decide)]) (by rw [fcσ7.1 4 (by decide) (by decide)]) (by rw [fcσ7.1 11 (by decide) (by decide)]) (by rw [fcσ7.1 12 (by decide) (by decide)]))), (fun h9 => absurd h9 (Int32.not_le.mpr (Int32.lt_of_lt_of_le (show (0 : Int32) < 1 by decide) hp_17.2.1)))⟩⟩, ⟨by rw [ht]; exact hP, hD⟩⟩, hS.F ht⟩) hS.2.2 dX12_readAll_80
      · refine lv_aload_n hx hb dX12_readAll_55 rfl (lv_at hl 0 rfl) ?_
        refine lv_iconst (v := 1) hx hb dX12_readAll_56 (by decide) ?_
        have hF := gFree hD hS hA
        refine va_callvD hd0 (va_runV_D (As := [.int 1]) (rest := []) ⟨hx, hb, hml, hown, hts⟩ (n_X12_wrong l dC dI ad cA adK adV H.size σ28x hIσ28x 1 (show (0 : Int32) < 1 by decide)) (cwV 1 hts gX12_readAll_X12_wrong rfl rfl rfl (by decide +kernel) ⟨Nat.le_of_ble_eq_true rfl, Nat.le_of_ble_eq_true rfl⟩) ⟨gBlind, va_recv hK hP (ci := 11) (q0 := 0) rfl (mat_11 rfl), gStart (As := [.ref (ad 0), .int 1]) hP hD hK0 hT hS hF (d28)⟩ rfl rfl hl.1 rfl (lv_room (Nat.le_of_ble_eq_true rfl)) dX12_readAll_57 ⟨Nat.le_of_ble_eq_true rfl, Nat.le_of_ble_eq_true rfl⟩) hS (fun q _ h => hF q h) hF (fun σ8 t H locs ht hvm hw hB hz1 hk1 hS d_19 hd0 => ?_)
        have hts := dr_words hts0 (d_19)
        have hK := gKd hK0 (d_19)
        have hown : (s.setDrawn (d_19)).vm.findClass RX12 = some m.cls := hown0
        obtain ⟨hP, hD⟩ := gBack hF ht hB
        obtain ⟨hIσ8, fcσ8, hp_20⟩ := hw
        refine lv_aload_n hx hb dX12_readAll_60 rfl (lv_at hl 0 rfl) ?_
        have bd_21 := mrd_11_37 (c := 0) hIσ8 rfl
        refine va_get (D := (dC, dI)) (ci := 11) (v := .int ((σ8 0).1 37)) (C := RX12) (T := TX12) (N := 69) hx hb hts hinX12 hown hK hP 0 (mat_11 rfl) rfl 37 (by decide) (hts (.fieldLink RX12 192 "BondCalendarsModel" "fault" "I") (by decide +kernel)) (fun _ h9 => h9) rfl dX12_readAll_61 ?_
        refine lv_if_ne (tgt := 80) hx hb dX12_readAll_64 (by decide) (fun c_22 => ?_) (fun c_22 => ?_)
        · refine W.endD hd0 ?_
          exact W.vret hx hb hr (fun t ht hW => ⟨⟨σ8, rfl, ⟨hIσ8, (mFr.tr frσ28x fcσ8 (by decide) (by decide)), ⟨(mRead_bad hp_20.2.1), (LOW.tr iv28_2 (LOW.cells (by rw [fcσ8.1 2 (by decide) (by decide)]) (by rw [fcσ8.1 4 (by decide) (by decide)]) (by rw [fcσ8.1 11 (by decide) (by decide)]) (by rw [fcσ8.1 12 (by decide) (by decide)]))), (fun h9 => absurd h9 (Int32.not_le.mpr (ne_lt bd_21 c_22)))⟩⟩, ⟨by rw [ht]; exact hP, hD⟩⟩, hS.F ht⟩) hS.2.2 dX12_readAll_80
        · exact absurd c_22 (fun h9 => absurd hp_20.2.1 (by rw [h9]; decide))
    · refine lv_aload_n hx hb dX12_readAll_36 rfl (lv_at hl 0 rfl) ?_
      have hF := gFree hD hS hA
      refine va_callvD hd0 (va_runV_D (As := []) (rest := []) ⟨hx, hb, hml, hown, hts⟩ (n_X12_next l dC dI ad cA adK adV H.size σ28x hIσ28x ) (cwV 0 hts gX12_readAll_X12_next rfl rfl rfl (by decide +kernel) ⟨Nat.le_of_ble_eq_true rfl, Nat.le_of_ble_eq_true rfl⟩) ⟨gBlind, va_recv hK hP (ci := 11) (q0 := 0) rfl (mat_11 rfl), gStart (As := [.ref (ad 0)]) hP hD hK0 hT hS hF (d28)⟩ rfl rfl hl.1 rfl (lv_room (Nat.le_of_ble_eq_true rfl)) dX12_readAll_37 ⟨Nat.le_of_ble_eq_true rfl, Nat.le_of_ble_eq_true rfl⟩) hS (fun q _ h => hF q h) hF (fun σ9 t H locs ht hvm hw hB hz1 hk1 hS d_24 hd0 => ?_)
      have hts := dr_words hts0 (d_24)
      have hK := gKd hK0 (d_24)
      have hown : (s.setDrawn (d_24)).vm.findClass RX12 = some m.cls := hown0
      obtain ⟨hP, hD⟩ := gBack hF ht hB
      obtain ⟨hIσ9, fcσ9, hp_25⟩ := hw
      refine lv_aload_n hx hb dX12_readAll_40 rfl (lv_at hl 0 rfl) ?_
      have hF := gFree hD hS hA
      refine va_callvD hd0 (va_runV_D (As := []) (rest := []) ⟨hx, hb, hml, hown, hts⟩ (n_X12_readLine l dC dI ad cA adK adV H.size σ9 hIσ9 (mRead_fr iv28_1 (le_ch (Eq.refl _) (show ((σ9 0).1 37 : Int32) = ((σ28x 0).1 37 : Int32) from by rw [fcσ9.2 37 (by decide)]) (Int32.le_refl ((σ28x 0).1 37))) (fun j => ⟨by rw [fcσ9.1 2 (by decide) (by decide)], by rw [fcσ9.1 4 (by decide) (by decide)], by rw [fcσ9.1 5 (by decide) (by decide)], by rw [fcσ9.1 6 (by decide) (by decide)], by rw [fcσ9.1 7 (by decide) (by decide)], by rw [fcσ9.1 8 (by decide) (by decide)]⟩) (by rw [fcσ9.1 11 (by decide) (by decide)]) (by rw [fcσ9.1 12 (by decide) (by decide)]) (by rw [fcσ9.2 23 (by decide)]) (by rw [fcσ9.2 24 (by decide)]) (by rw [fcσ9.2 29 (by decide)]) (by rw [fcσ9.2 26 (by decide)]))) (cwV 0 hts gX12_readAll_X12_readLine rfl rfl rfl (by decide +kernel) ⟨Nat.le_of_ble_eq_true rfl, Nat.le_of_ble_eq_true rfl⟩) ⟨gBlind, va_recv hK hP (ci := 11) (q0 := 0) rfl (mat_11 rfl), gStart (As := [.ref (ad 0)]) hP hD hK0 hT hS hF (d_24)⟩ rfl rfl hl.1 rfl (lv_room (Nat.le_of_ble_eq_true rfl)) dX12_readAll_41 ⟨Nat.le_of_ble_eq_true rfl, Nat.le_of_ble_eq_true rfl⟩) hS (fun q _ h => hF q h) hF (fun σ10 t H locs ht hvm hw hB hz1 hk1 hS d_27 hd0 => ?_)
      have hts := dr_words hts0 (d_27)
      have hK := gKd hK0 (d_27)
      have hown : (s.setDrawn (d_27)).vm.findClass RX12 = some m.cls := hown0
      obtain ⟨hP, hD⟩ := gBack hF ht hB
      obtain ⟨hIσ10, fcσ10, hp_28⟩ := hw
      have of_29 : ((σ28x 0).1 37 : Int32) ≤ ((σ10 0).1 37 : Int32) := le_ch (show ((σ9 0).1 37 : Int32) = ((σ28x 0).1 37 : Int32) from by rw [fcσ9.2 37 (by decide)]).symm (Eq.refl _).symm hp_28.1
      have lw_30 : LOW σ σ10 := LOW.tr (LOW.tr iv28_2 (LOW.cells (by rw [fcσ9.1 2 (by decide) (by decide)]) (by rw [fcσ9.1 4 (by decide) (by decide)]) (by rw [fcσ9.1 11 (by decide) (by decide)]) (by rw [fcσ9.1 12 (by decide) (by decide)]))) hp_28.2.2.2
      refine lv_goto (tgt := 28) hx hb dX12_readAll_44 (by decide) ?_
      exact ih28  σ10 _ _ _ _ (ra_m (ra_lt iv28_0 (eq_le c_9.symm) hp_25.2 hp_25.1 hp_28.2.1) (SP.tr hp_25.1 hp_28.2.1).1 (eq_le c_9.symm) (mrd_11_33 (c := 0) hIσ10 rfl).2 hm28) ((SP.tr hp_25.1 hp_28.2.1).2.2 iv28_0) hp_28.2.2.1 lw_30 hIσ10 (mFr.tr (mFr.tr frσ28x fcσ9 (by decide) (by decide)) fcσ10 (by decide) (by decide)) hd0 hP hD hS (lv_sub hl [0] rfl)
