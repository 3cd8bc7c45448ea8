set_option maxHeartbeats 8000000 in
set_option maxRecDepth 100000 in
theorem n_X12_readMature (l : Launch) (dC : Nat → ClassId) (dI : Nat → Nat → Nat) (ad : Nat → Nat) (cA : Nat → ClassId) (adK adV : Nat → Nat) (sz : Nat) (σ : gs) (hI : InvM σ) (p0 : Int32) (hh0 : 0 ≤ p0) (hh1 : p0 < 8) (hh2 : (σ 0).1 37 ≤ 0 → oft ((σ 2).1 p0.toNatClampNeg)) : MetD lw_cs l yX12_readMature wsX12_readMature ({ frames := 7, cells := 0, slots := 0, locals := 151 }) (va_Pc [.ref (ad 0), .int p0] (gPre adK adV (dC, dI) (wM ad cA σ) (tM cA) sz)) (va_Qv (fun (τ : gs) => InvM τ ∧ mFr [44, 45] [33, 34, 35, 36, 37] σ τ ∧ ((σ 0).1 37 ≤ (τ 0).1 37 ∧ (SP σ τ) ∧ ((τ 0).1 37 ≤ 0 → 1 ≤ f_X12_isDate ((τ 5).1 p0.toNatClampNeg)) ∧ ((τ 0).1 37 ≤ 0 → (τ 5).1 p0.toNatClampNeg ≤ (τ 4).1 p0.toNatClampNeg) ∧ ((τ 0).1 37 ≤ 0 → (τ 4).1 p0.toNatClampNeg ≤ 20791231) ∧ (∀ j : Nat, j ≠ p0.toNatClampNeg → (τ 4).1 j = (σ 4).1 j ∧ (τ 5).1 j = (σ 5).1 j))) (fun τ t => gPost (dC, dI) (va_A (wM ad cA σ) sz) (wM ad cA τ) t) (va_A (wM ad cA σ) sz)) 0 0 (va_A (wM ad cA σ) sz) := by
  refine MetD.ofW (cc := cX12_readMature) (maxL := 2) (ret := none) (by decide) rfl ?_
  intro p e s m args below meth c s₁ B hml hv hd0
  obtain ⟨rfl, hsz, hP, hK, hD0, hT⟩ := hv
  have hx := B.exec
  have hb := B.bytes
  have hr := B.returns
  have hts0 := atoms_spec (ws := wsX12_readMature) B.pre
  have hK0 := hK
  have hown0 : s.vm.findClass RX12 = some m.cls := findClass_of_methodNamed B.named
  have hlocks := B.notSynchronized
  have hinX12 : ∀ w ∈ u_ws RX12 TX12 69, w ∈ wsX12_readMature := (fun _ h9 => List.mem_cons_of_mem _ (List.mem_append_right _ h9))
  subst hsz
  have hD := hD0.self (sz := s.heap.size)
  generalize hAe : va_A (wM ad cA σ) s.heap.size = A at hD hT ⊢
  have hA : ∀ q : Nat, s.heap.size ≤ q → A q := fun q h => by rw [← hAe]; exact Or.inr h
  have hS : va_S A s.heap s.heap [] := va_S.rf
  have hl := lv_entry ([.ref (ad 0), .int p0]) (n := 2) (Nat.le_of_ble_eq_true rfl)
  rw [lg_entry_eq]
  generalize (lg_sl ([.ref (ad 0), .int p0]) ++ List.replicate (2 - (lg_sl ([.ref (ad 0), .int p0])).length) Slot.unset).toArray = ls at hl ⊢
  have hl : lv_has ls 2 [(0, .ref (ad 0)), (1, .int p0)] := hl
  have hts := dr_words hts0 (s.drawn)
  have hK := gKd hK0 (s.drawn)
  have hown : (s.setDrawn (s.drawn)).vm.findClass RX12 = some m.cls := hown0
  refine lv_aload_n hx hb dX12_readMature_0 rfl (lv_at hl 0 rfl) ?_
  refine va_get (D := (dC, dI)) (ci := 11) (v := .ref (ad 4)) (C := RX12) (T := TX12) (N := 69) hx hb hts hinX12 hown hK hP 0 (mat_11 rfl) rfl 8 (by decide) (hts (.fieldLink RX12 23 "BondCalendarsModel" "mature" "[I") (by decide +kernel)) (fun _ h9 => h9) rfl dX12_readMature_1 ?_
  refine lv_iload_n hx hb dX12_readMature_4 rfl (lv_at hl 1 rfl) ?_
  refine lv_aload_n hx hb dX12_readMature_5 rfl (lv_at hl 0 rfl) ?_
  refine va_ldcSW (tx := "mature") (q := (adK 14)) hx hb hown (vk_R.same rfl hT.2.1.2.2.2.2.2.2.2.2.2.2.2.2.2.2.1) dX12_readMature_6 ?_
  have hF := gFree hD hS hA
  refine va_calliD hd0 (va_runV_D (As := [.ref (adK 14)]) (rest := [.int p0, .ref (ad 4)]) ⟨hx, hb, hml, hown, hts⟩ (n_X12_dateBehind l dC dI ad cA adK adV s.heap.size σ hI 14 (by decide)) (cwV 1 hts gX12_readMature_X12_dateBehind rfl rfl rfl (by decide +kernel) ⟨Nat.le_of_ble_eq_true rfl, Nat.le_of_ble_eq_true rfl⟩) ⟨gBlind, va_recv hK hP (ci := 11) (q0 := 0) rfl (mat_11 rfl), gStart (As := [.ref (ad 0), .ref (adK 14)]) hP hD hK0 hT hS hF (s.drawn)⟩ rfl rfl hl.1 rfl (lv_room (Nat.le_of_ble_eq_true rfl)) dX12_readMature_9 ⟨Nat.le_of_ble_eq_true rfl, Nat.le_of_ble_eq_true rfl⟩) hS (fun q _ h => hF q h) hF (fun r_1 σ1 t H locs ht hvm hw hB hz1 hk1 hS d_2 hd0 => ?_)
  have hts := dr_words hts0 (d_2)
  have hK := gKd hK0 (d_2)
  have hown : (s.setDrawn (d_2)).vm.findClass RX12 = some m.cls := hown0
  obtain ⟨hP, hD⟩ := gBack hF ht hB
  obtain ⟨hIσ1, fcσ1, hp_3⟩ := hw
  refine va_iast hx hb hK hP hD hS 4 4 (mat_44 rfl) (mty_44 rfl) (gin (N := 8) (by decide) hh0 hh1) dX12_readMature_12 (fun H locs hP hD hS => ?_)
  obtain ⟨σ2, eσ2, hP, hD⟩ := gPut (mse_44 rfl) hP hD
  have hIσ2 : InvM σ2 := by rw [eσ2]; exact minv_I hIσ1 (mok_44 rfl _ _)
  have frσ2 : mFr [44, 45] [33, 34, 35, 36, 37] σ σ2 := by rw [eσ2]; exact mFr.aI (mFr.tr (mFr.rfl (L := [44, 45]) (F := [33, 34, 35, 36, 37]) (σ := σ)) fcσ1 (by decide) (by decide)) (by decide) (by decide)
  refine lv_aload_n hx hb dX12_readMature_13 rfl (lv_at hl 0 rfl) ?_
  refine va_get (D := (dC, dI)) (ci := 11) (v := .ref (ad 5)) (C := RX12) (T := TX12) (N := 69) hx hb hts hinX12 hown hK hP 0 (mat_11 rfl) rfl 9 (by decide) (hts (.fieldLink RX12 26 "BondCalendarsModel" "anchor" "[I") (by decide +kernel)) (fun _ h9 => h9) rfl dX12_readMature_14 ?_
  refine lv_iload_n hx hb dX12_readMature_17 rfl (lv_at hl 1 rfl) ?_
  refine lv_aload_n hx hb dX12_readMature_18 rfl (lv_at hl 0 rfl) ?_
  refine va_get (D := (dC, dI)) (ci := 11) (v := .ref (ad 4)) (C := RX12) (T := TX12) (N := 69) hx hb hts hinX12 hown hK hP 0 (mat_11 rfl) rfl 8 (by decide) (hts (.fieldLink RX12 23 "BondCalendarsModel" "mature" "[I") (by decide +kernel)) (fun _ h9 => h9) rfl dX12_readMature_19 ?_
  refine lv_iload_n hx hb dX12_readMature_22 rfl (lv_at hl 1 rfl) ?_
  refine va_iald hx hb hK hP 4 4 (mat_44 rfl) (mty_44 rfl) (gin (N := 8) (by decide) hh0 hh1) dX12_readMature_23 ?_
  refine lv_eqi (y := r_1) (by rw [eσ2, gI_self]) ?_
  refine va_iast hx hb hK hP hD hS 5 5 (mat_45 rfl) (mty_45 rfl) (gin (N := 8) (by decide) hh0 hh1) dX12_readMature_24 (fun H locs hP hD hS => ?_)
  obtain ⟨σ3, eσ3, hP, hD⟩ := gPut (mse_45 rfl) hP hD
  have hIσ3 : InvM σ3 := by rw [eσ3]; exact minv_I hIσ2 (mok_45 rfl _ _)
  have frσ3 : mFr [44, 45] [33, 34, 35, 36, 37] σ σ3 := by rw [eσ3]; exact mFr.aI frσ2 (by decide) (by decide)
  refine lv_aload_n hx hb dX12_readMature_25 rfl (lv_at hl 0 rfl) ?_
  have hF := gFree hD hS hA
  refine va_callvD hd0 (va_runV_D (As := []) (rest := []) ⟨hx, hb, hml, hown, hts⟩ (n_X12_next l dC dI ad cA adK adV H.size σ3 hIσ3 ) (cwV 0 hts gX12_readMature_X12_next rfl rfl rfl (by decide +kernel) ⟨Nat.le_of_ble_eq_true rfl, Nat.le_of_ble_eq_true rfl⟩) ⟨gBlind, va_recv hK hP (ci := 11) (q0 := 0) rfl (mat_11 rfl), gStart (As := [.ref (ad 0)]) hP hD hK0 hT hS hF (d_2)⟩ rfl rfl hl.1 rfl (lv_room (Nat.le_of_ble_eq_true rfl)) dX12_readMature_26 ⟨Nat.le_of_ble_eq_true rfl, Nat.le_of_ble_eq_true rfl⟩) hS (fun q _ h => hF q h) hF (fun σ4 t H locs ht hvm hw hB hz1 hk1 hS d_6 hd0 => ?_)
  have hts := dr_words hts0 (d_6)
  have hK := gKd hK0 (d_6)
  have hown : (s.setDrawn (d_6)).vm.findClass RX12 = some m.cls := hown0
  obtain ⟨hP, hD⟩ := gBack hF ht hB
  obtain ⟨hIσ4, fcσ4, hp_7⟩ := hw
  refine lv_aload_n hx hb dX12_readMature_29 rfl (lv_at hl 0 rfl) ?_
  refine va_ldcSW (tx := "last") (q := (adK 15)) hx hb hown (vk_R.same rfl hT.2.1.2.2.2.2.2.2.2.2.2.2.2.2.2.2.2.1) dX12_readMature_30 ?_
  have hF := gFree hD hS hA
  refine va_calliD hd0 (va_runV_D (As := [.ref (adK 15)]) (rest := []) ⟨hx, hb, hml, hown, hts⟩ (n_X12_isWord l dC dI ad cA adK adV H.size σ4 hIσ4 15 (by decide)) (cwV 1 hts gX12_readMature_X12_isWord rfl rfl rfl (by decide +kernel) ⟨Nat.le_of_ble_eq_true rfl, Nat.le_of_ble_eq_true rfl⟩) ⟨gBlind, va_recv hK hP (ci := 11) (q0 := 0) rfl (mat_11 rfl), gStart (As := [.ref (ad 0), .ref (adK 15)]) hP hD hK0 hT hS hF (d_6)⟩ rfl rfl hl.1 rfl (lv_room (Nat.le_of_ble_eq_true rfl)) dX12_readMature_33 ⟨Nat.le_of_ble_eq_true rfl, Nat.le_of_ble_eq_true rfl⟩) hS (fun q _ h => hF q h) hF (fun r_8 σ5 t H locs ht hvm hw hB hz1 hk1 hS d_9 hd0 => ?_)
  have hts := dr_words hts0 (d_9)
  have hK := gKd hK0 (d_9)
  have hown : (s.setDrawn (d_9)).vm.findClass RX12 = some m.cls := hown0
  obtain ⟨hP, hD⟩ := gBack hF ht hB
  obtain ⟨hIσ5, hro, hp_10⟩ := hw
  subst hro
  refine lv_if_ne (tgt := 40) hx hb dX12_readMature_36 (by decide) (fun c_11 => ?_) (fun c_11 => ?_)
  · refine lv_aload_n hx hb dX12_readMature_40 rfl (lv_at hl 0 rfl) ?_
    have hF := gFree hD hS hA
    refine va_callvD hd0 (va_runV_D (As := []) (rest := []) ⟨hx, hb, hml, hown, hts⟩ (n_X12_next l dC dI ad cA adK adV H.size σ4 hIσ4 ) (cwV 0 hts gX12_readMature_X12_next rfl rfl rfl (by decide +kernel) ⟨Nat.le_of_ble_eq_true rfl, Nat.le_of_ble_eq_true rfl⟩) ⟨gBlind, va_recv hK hP (ci := 11) (q0 := 0) rfl (mat_11 rfl), gStart (As := [.ref (ad 0)]) hP hD hK0 hT hS hF (d_9)⟩ rfl rfl hl.1 rfl (lv_room (Nat.le_of_ble_eq_true rfl)) dX12_readMature_41 ⟨Nat.le_of_ble_eq_true rfl, Nat.le_of_ble_eq_true rfl⟩) hS (fun q _ h => hF q h) hF (fun σ6 t H locs ht hvm hw hB hz1 hk1 hS d_13 hd0 => ?_)
    have hts := dr_words hts0 (d_13)
    have hK := gKd hK0 (d_13)
    have hown : (s.setDrawn (d_13)).vm.findClass RX12 = some m.cls := hown0
    obtain ⟨hP, hD⟩ := gBack hF ht hB
    obtain ⟨hIσ6, fcσ6, hp_14⟩ := hw
    refine lv_aload_n hx hb dX12_readMature_44 rfl (lv_at hl 0 rfl) ?_
    refine va_get (D := (dC, dI)) (ci := 11) (v := .ref (ad 5)) (C := RX12) (T := TX12) (N := 69) hx hb hts hinX12 hown hK hP 0 (mat_11 rfl) rfl 9 (by decide) (hts (.fieldLink RX12 26 "BondCalendarsModel" "anchor" "[I") (by decide +kernel)) (fun _ h9 => h9) rfl dX12_readMature_45 ?_
    refine lv_iload_n hx hb dX12_readMature_48 rfl (lv_at hl 1 rfl) ?_
    refine lv_aload_n hx hb dX12_readMature_49 rfl (lv_at hl 0 rfl) ?_
    have hF := gFree hD hS hA
    refine va_calliD hd0 (va_runV_D (As := []) (rest := [.int p0, .ref (ad 5)]) ⟨hx, hb, hml, hown, hts⟩ (n_X12_dateAt l dC dI ad cA adK adV H.size σ6 hIσ6 ) (cwV 0 hts gX12_readMature_X12_dateAt rfl rfl rfl (by decide +kernel) ⟨Nat.le_of_ble_eq_true rfl, Nat.le_of_ble_eq_true rfl⟩) ⟨gBlind, va_recv hK hP (ci := 11) (q0 := 0) rfl (mat_11 rfl), gStart (As := [.ref (ad 0)]) hP hD hK0 hT hS hF (d_13)⟩ rfl rfl hl.1 rfl (lv_room (Nat.le_of_ble_eq_true rfl)) dX12_readMature_50 ⟨Nat.le_of_ble_eq_true rfl, Nat.le_of_ble_eq_true rfl⟩) hS (fun q _ h => hF q h) hF (fun r_15 σ7 t H locs ht hvm hw hB hz1 hk1 hS d_16 hd0 => ?_)
    have hts := dr_words hts0 (d_16)
    have hK := gKd hK0 (d_16)
    have hown : (s.setDrawn (d_16)).vm.findClass RX12 = some m.cls := hown0
    obtain ⟨hP, hD⟩ := gBack hF ht hB
    obtain ⟨hIσ7, fcσ7, hp_17⟩ := hw
    have of_18 : ((σ1 0).1 37 : Int32) ≤ ((σ7 0).1 37 : Int32) := le_ch (show ((σ6 0).1 37 : Int32) = ((σ1 0).1 37 : Int32) from by rw [fcσ6.2 37 (by decide), fcσ4.2 37 (by decide), eσ3, gI_ne _ _ _ (by decide), eσ2, gI_ne _ _ _ (by decide)]).symm (Eq.refl _).symm hp_17.1
    refine va_iast hx hb hK hP hD hS 5 5 (mat_45 rfl) (mty_45 rfl) (gin (N := 8) (by decide) hh0 hh1) dX12_readMature_53 (fun H locs hP hD hS => ?_)
    obtain ⟨σ8, eσ8, hP, hD⟩ := gPut (mse_45 rfl) hP hD
    have hIσ8 : InvM σ8 := by rw [eσ8]; exact minv_I hIσ7 (mok_45 rfl _ _)
    have frσ8 : mFr [44, 45] [33, 34, 35, 36, 37] σ σ8 := by rw [eσ8]; exact mFr.aI (mFr.tr (mFr.tr (mFr.tr frσ3 fcσ4 (by decide) (by decide)) fcσ6 (by decide) (by decide)) fcσ7 (by decide) (by decide)) (by decide) (by decide)
    refine lv_aload_n hx hb dX12_readMature_54 rfl (lv_at hl 0 rfl) ?_
    have bd_19 := mrd_11_37 (c := 0) hIσ7 rfl
    refine va_get (D := (dC, dI)) (ci := 11) (v := .int ((σ7 0).1 37)) (C := RX12) (T := TX12) (N := 69) hx hb hts hinX12 hown hK hP 0 (mat_11 rfl) rfl 37 (by decide) (hts (.fieldLink RX12 192 "BondCalendarsModel" "fault" "I") (by decide +kernel)) (fun _ h9 => h9) (congrArg (fun z => some (Value.int z)) (show (σ8 0).1 37 = ((σ7 0).1 37) from by rw [eσ8, gI_ne _ _ _ (by decide)])) dX12_readMature_55 ?_
    refine lv_if_ne (tgt := 96) hx hb dX12_readMature_58 (by decide) (fun c_20 => ?_) (fun c_20 => ?_)
    · refine lv_aload_n hx hb dX12_readMature_96 rfl (lv_at hl 0 rfl) ?_
      have hF := gFree hD hS hA
      refine va_callvD hd0 (va_runV_D (As := []) (rest := []) ⟨hx, hb, hml, hown, hts⟩ (n_X12_next l dC dI ad cA adK adV H.size σ8 hIσ8 ) (cwV 0 hts gX12_readMature_X12_next rfl rfl rfl (by decide +kernel) ⟨Nat.le_of_ble_eq_true rfl, Nat.le_of_ble_eq_true rfl⟩) ⟨gBlind, va_recv hK hP (ci := 11) (q0 := 0) rfl (mat_11 rfl), gStart (As := [.ref (ad 0)]) hP hD hK0 hT hS hF (d_16)⟩ rfl rfl hl.1 rfl (lv_room (Nat.le_of_ble_eq_true rfl)) dX12_readMature_97 ⟨Nat.le_of_ble_eq_true rfl, Nat.le_of_ble_eq_true rfl⟩) hS (fun q _ h => hF q h) hF (fun σ9 t H locs ht hvm hw hB hz1 hk1 hS d_22 hd0 => ?_)
      have hts := dr_words hts0 (d_22)
      have hK := gKd hK0 (d_22)
      have hown : (s.setDrawn (d_22)).vm.findClass RX12 = some m.cls := hown0
      obtain ⟨hP, hD⟩ := gBack hF ht hB
      obtain ⟨hIσ9, fcσ9, hp_23⟩ := hw
      refine W.endD hd0 ?_
      exact W.vret hx hb hr (fun t ht hW => ⟨⟨σ9, rfl, ⟨hIσ9, (mFr.tr frσ8 fcσ9 (by decide) (by decide)), ⟨(le_ch (Eq.refl _) (show ((σ9 0).1 37 : Int32) = ((σ7 0).1 37 : Int32) from by rw [fcσ9.2 37 (by decide), eσ8, gI_ne _ _ _ (by decide)]) (Int32.le_trans hp_3.1 of_18)), (SP.tr (SP.tr (SP.tr (SP.tr (SP.tr (SP.tr hp_3.2.1 (SP.same (σ := σ1) (τ := σ3) (by rw [eσ3, gI_ne _ _ _ (by decide), eσ2, gI_ne _ _ _ (by decide)]) (by rw [eσ3, gI_ne _ _ _ (by decide), eσ2, gI_ne _ _ _ (by decide)]) (by rw [eσ3, gI_ne _ _ _ (by decide), eσ2, gI_ne _ _ _ (by decide)]))) hp_7.1) hp_14.1) hp_17.2.2.1) (SP.same (σ := σ7) (τ := σ8) (by rw [eσ8, gI_ne _ _ _ (by decide)]) (by rw [eσ8, gI_ne _ _ _ (by decide)]) (by rw [eσ8, gI_ne _ _ _ (by decide)]))) hp_23.1), (fun h9 => absurd h9 (Int32.not_le.mpr (lt_ch (Eq.refl _) (show ((σ9 0).1 37 : Int32) = ((σ7 0).1 37 : Int32) from by rw [fcσ9.2 37 (by decide), eσ8, gI_ne _ _ _ (by decide)]) (ne_lt bd_19 c_20)))), (fun h9 => absurd h9 (Int32.not_le.mpr (lt_ch (Eq.refl _) (show ((σ9 0).1 37 : Int32) = ((σ7 0).1 37 : Int32) from by rw [fcσ9.2 37 (by decide), eσ8, gI_ne _ _ _ (by decide)]) (ne_lt bd_19 c_20)))), (fun h9 => absurd h9 (Int32.not_le.mpr (lt_ch (Eq.refl _) (show ((σ9 0).1 37 : Int32) = ((σ7 0).1 37 : Int32) from by rw [fcσ9.2 37 (by decide), eσ8, gI_ne _ _ _ (by decide)]) (ne_lt bd_19 c_20)))), (fun j hj => ⟨by rw [fcσ9.1 4 (by decide) (by decide), eσ8, gI_ne _ _ _ (by decide), fcσ7.1 4 (by decide) (by decide), fcσ6.1 4 (by decide) (by decide), fcσ4.1 4 (by decide) (by decide), eσ3, gI_ne _ _ _ (by decide), eσ2, gI_oth _ _ _ hj, fcσ1.1 4 (by decide) (by decide)], by rw [fcσ9.1 5 (by decide) (by decide), eσ8, gI_oth _ _ _ hj, fcσ7.1 5 (by decide) (by decide), fcσ6.1 5 (by decide) (by decide), fcσ4.1 5 (by decide) (by decide), eσ3, gI_oth _ _ _ hj, eσ2, gI_ne _ _ _ (by decide), fcσ1.1 5 (by decide) (by decide)]⟩)⟩⟩, ⟨by rw [ht]; exact hP, hD⟩⟩, hS.F ht⟩) hS.2.2 dX12_readMature_100
    · refine lv_aload_n hx hb dX12_readMature_61 rfl (lv_at hl 0 rfl) ?_
      refine va_get (D := (dC, dI)) (ci := 11) (v := .ref (ad 5)) (C := RX12) (T := TX12) (N := 69) hx hb hts hinX12 hown hK hP 0 (mat_11 rfl) rfl 9 (by decide) (hts (.fieldLink RX12 26 "BondCalendarsModel" "anchor" "[I") (by decide +kernel)) (fun _ h9 => h9) rfl dX12_readMature_62 ?_
      refine lv_iload_n hx hb dX12_readMature_65 rfl (lv_at hl 1 rfl) ?_
      refine va_iald hx hb hK hP 5 5 (mat_45 rfl) (mty_45 rfl) (gin (N := 8) (by decide) hh0 hh1) dX12_readMature_66 ?_
      refine lv_eqi (y := r_15) (by rw [eσ8, gI_self]) ?_
      refine lv_aload_n hx hb dX12_readMature_67 rfl (lv_at hl 0 rfl) ?_
      refine va_get (D := (dC, dI)) (ci := 11) (v := .ref (ad 4)) (C := RX12) (T := TX12) (N := 69) hx hb hts hinX12 hown hK hP 0 (mat_11 rfl) rfl 8 (by decide) (hts (.fieldLink RX12 23 "BondCalendarsModel" "mature" "[I") (by decide +kernel)) (fun _ h9 => h9) rfl dX12_readMature_68 ?_
      refine lv_iload_n hx hb dX12_readMature_71 rfl (lv_at hl 1 rfl) ?_
      refine va_iald hx hb hK hP 4 4 (mat_44 rfl) (mty_44 rfl) (gin (N := 8) (by decide) hh0 hh1) dX12_readMature_72 ?_
      refine lv_eqi (y := r_1) (by rw [eσ8, gI_ne _ _ _ (by decide), fcσ7.1 4 (by decide) (by decide), fcσ6.1 4 (by decide) (by decide), fcσ4.1 4 (by decide) (by decide), eσ3, gI_ne _ _ _ (by decide), eσ2, gI_self]) ?_
      refine lv_icmp_ge (tgt := 91) hx hb dX12_readMature_73 (by decide) (fun c_26 => ?_) (fun c_26 => ?_)
      · refine lv_aload_n hx hb dX12_readMature_91 rfl (lv_at hl 0 rfl) ?_
        refine lv_iconst (v := 4) hx hb dX12_readMature_92 (by decide) ?_
        have hF := gFree hD hS hA
        refine va_callvD hd0 (va_runV_D (As := [.int 4]) (rest := []) ⟨hx, hb, hml, hown, hts⟩ (n_X12_wrong l dC dI ad cA adK adV H.size σ8 hIσ8 4 (show (0 : Int32) < 4 by decide)) (cwV 1 hts gX12_readMature_X12_wrong rfl rfl rfl (by decide +kernel) ⟨Nat.le_of_ble_eq_true rfl, Nat.le_of_ble_eq_true rfl⟩) ⟨gBlind, va_recv hK hP (ci := 11) (q0 := 0) rfl (mat_11 rfl), gStart (As := [.ref (ad 0), .int 4]) hP hD hK0 hT hS hF (d_16)⟩ rfl rfl hl.1 rfl (lv_room (Nat.le_of_ble_eq_true rfl)) dX12_readMature_93 ⟨Nat.le_of_ble_eq_true rfl, Nat.le_of_ble_eq_true rfl⟩) hS (fun q _ h => hF q h) hF (fun σ10 t H locs ht hvm hw hB hz1 hk1 hS d_28 hd0 => ?_)
        have hts := dr_words hts0 (d_28)
        have hK := gKd hK0 (d_28)
        have hown : (s.setDrawn (d_28)).vm.findClass RX12 = some m.cls := hown0
        obtain ⟨hP, hD⟩ := gBack hF ht hB
        obtain ⟨hIσ10, fcσ10, hp_29⟩ := hw
        have of_30 : ((σ7 0).1 37 : Int32) ≤ ((σ10 0).1 37 : Int32) := le_ch (show ((σ8 0).1 37 : Int32) = ((σ7 0).1 37 : Int32) from by rw [eσ8, gI_ne _ _ _ (by decide)]).symm (Eq.refl _).symm hp_29.1
        refine lv_aload_n hx hb dX12_readMature_96 rfl (lv_at hl 0 rfl) ?_
        have hF := gFree hD hS hA
        refine va_callvD hd0 (va_runV_D (As := []) (rest := []) ⟨hx, hb, hml, hown, hts⟩ (n_X12_next l dC dI ad cA adK adV H.size σ10 hIσ10 ) (cwV 0 hts gX12_readMature_X12_next rfl rfl rfl (by decide +kernel) ⟨Nat.le_of_ble_eq_true rfl, Nat.le_of_ble_eq_true rfl⟩) ⟨gBlind, va_recv hK hP (ci := 11) (q0 := 0) rfl (mat_11 rfl), gStart (As := [.ref (ad 0)]) hP hD hK0 hT hS hF (d_28)⟩ rfl rfl hl.1 rfl (lv_room (Nat.le_of_ble_eq_true rfl)) dX12_readMature_97 ⟨Nat.le_of_ble_eq_true rfl, Nat.le_of_ble_eq_true rfl⟩) hS (fun q _ h => hF q h) hF (fun σ11 t H locs ht hvm hw hB hz1 hk1 hS d_32 hd0 => ?_)
        have hts := dr_words hts0 (d_32)
        have hK := gKd hK0 (d_32)
        have hown : (s.setDrawn (d_32)).vm.findClass RX12 = some m.cls := hown0
        obtain ⟨hP, hD⟩ := gBack hF ht hB
        obtain ⟨hIσ11, fcσ11, hp_33⟩ := hw
        refine W.endD hd0 ?_
        exact W.vret hx hb hr (fun t ht hW => ⟨⟨σ11, rfl, ⟨hIσ11, (mFr.tr (mFr.tr frσ8 fcσ10 (by decide) (by decide)) fcσ11 (by decide) (by decide)), ⟨(le_ch (Eq.refl _) (show ((σ11 0).1 37 : Int32) = ((σ10 0).1 37 : Int32) from by rw [fcσ11.2 37 (by decide)]) (Int32.le_trans (Int32.le_trans hp_3.1 of_18) of_30)), (SP.tr (SP.tr (SP.tr (SP.tr (SP.tr (SP.tr (SP.tr hp_3.2.1 (SP.same (σ := σ1) (τ := σ3) (by rw [eσ3, gI_ne _ _ _ (by decide), eσ2, gI_ne _ _ _ (by decide)]) (by rw [eσ3, gI_ne _ _ _ (by decide), eσ2, gI_ne _ _ _ (by decide)]) (by rw [eσ3, gI_ne _ _ _ (by decide), eσ2, gI_ne _ _ _ (by decide)]))) hp_7.1) hp_14.1) hp_17.2.2.1) (SP.same (σ := σ7) (τ := σ8) (by rw [eσ8, gI_ne _ _ _ (by decide)]) (by rw [eσ8, gI_ne _ _ _ (by decide)]) (by rw [eσ8, gI_ne _ _ _ (by decide)]))) hp_29.2.2) hp_33.1), (fun _ => (le_ch (Eq.refl _) (show (f_X12_isDate ((σ11 5).1 p0.toNatClampNeg) : Int32) = (f_X12_isDate r_15 : Int32) from by rw [fcσ11.1 5 (by decide) (by decide), fcσ10.1 5 (by decide) (by decide), eσ8, gI_self]) ((hp_17.2.1) (eq_le c_20)))), (fun h9 => absurd h9 (Int32.not_le.mpr (lt_ch (Eq.refl _) (show ((σ11 0).1 37 : Int32) = ((σ10 0).1 37 : Int32) from by rw [fcσ11.2 37 (by decide)]) (Int32.lt_of_lt_of_le (show (0 : Int32) < 1 by decide) hp_29.2.1)))), (fun _ => (le_ch (show ((σ11 4).1 p0.toNatClampNeg : Int32) = (r_1 : Int32) from by rw [fcσ11.1 4 (by decide) (by decide), fcσ10.1 4 (by decide) (by decide), eσ8, gI_ne _ _ _ (by decide), fcσ7.1 4 (by decide) (by decide), fcσ6.1 4 (by decide) (by decide), fcσ4.1 4 (by decide) (by decide), eσ3, gI_ne _ _ _ (by decide), eσ2, gI_self]) (Eq.refl _) (date_le ((hp_3.2.2.1) (Int32.le_trans of_18 (eq_le c_20)))))), (fun j hj => ⟨by rw [fcσ11.1 4 (by decide) (by decide), fcσ10.1 4 (by decide) (by decide), eσ8, gI_ne _ _ _ (by decide), fcσ7.1 4 (by decide) (by decide), fcσ6.1 4 (by decide) (by decide), fcσ4.1 4 (by decide) (by decide), eσ3, gI_ne _ _ _ (by decide), eσ2, gI_oth _ _ _ hj, fcσ1.1 4 (by decide) (by decide)], by rw [fcσ11.1 5 (by decide) (by decide), fcσ10.1 5 (by decide) (by decide), eσ8, gI_oth _ _ _ hj, fcσ7.1 5 (by decide) (by decide), fcσ6.1 5 (by decide) (by decide), fcσ4.1 5 (by decide) (by decide), eσ3, gI_oth _ _ _ hj, eσ2, gI_ne _ _ _ (by decide), fcσ1.1 5 (by decide) (by decide)]⟩)⟩⟩, ⟨by rw [ht]; exact hP, hD⟩⟩, hS.F ht⟩) hS.2.2 dX12_readMature_100
      · refine lv_aload_n hx hb dX12_readMature_76 rfl (lv_at hl 0 rfl) ?_
        refine va_get (D := (dC, dI)) (ci := 11) (v := .ref (ad 4)) (C := RX12) (T := TX12) (N := 69) hx hb hts hinX12 hown hK hP 0 (mat_11 rfl) rfl 8 (by decide) (hts (.fieldLink RX12 23 "BondCalendarsModel" "mature" "[I") (by decide +kernel)) (fun _ h9 => h9) rfl dX12_readMature_77 ?_
        refine lv_iload_n hx hb dX12_readMature_80 rfl (lv_at hl 1 rfl) ?_
        refine va_iald hx hb hK hP 4 4 (mat_44 rfl) (mty_44 rfl) (gin (N := 8) (by decide) hh0 hh1) dX12_readMature_81 ?_
        refine lv_eqi (y := r_1) (by rw [eσ8, gI_ne _ _ _ (by decide), fcσ7.1 4 (by decide) (by decide), fcσ6.1 4 (by decide) (by decide), fcσ4.1 4 (by decide) (by decide), eσ3, gI_ne _ _ _ (by decide), eσ2, gI_self]) ?_
        refine lv_aload_n hx hb dX12_readMature_82 rfl (lv_at hl 0 rfl) ?_
        refine lv_iload_n hx hb dX12_readMature_83 rfl (lv_at hl 1 rfl) ?_
        refine lv_iconst (v := 3) hx hb dX12_readMature_84 (by decide) ?_
        have hF := gFree hD hS hA
        refine va_calliD hd0 (va_runV_D (As := [.int p0, .int 3]) (rest := [.int r_1]) ⟨hx, hb, hml, hown, hts⟩ (n_X12_gridDate l dC dI ad cA adK adV H.size σ8 hIσ8 p0 3 hh0 hh1 (by rw [eσ8, gI_ne _ _ _ (by decide), fcσ7.1 2 (by decide) (by decide), fcσ6.1 2 (by decide) (by decide), fcσ4.1 2 (by decide) (by decide), eσ3, gI_ne _ _ _ (by decide), eσ2, gI_ne _ _ _ (by decide), fcσ1.1 2 (by decide) (by decide)]; exact oft_1 (hh2 (Int32.le_trans (Int32.le_trans hp_3.1 of_18) (eq_le c_20))))) (cwV 2 hts gX12_readMature_X12_gridDate rfl rfl rfl (by decide +kernel) ⟨Nat.le_of_ble_eq_true rfl, Nat.le_of_ble_eq_true rfl⟩) ⟨gBlind, va_recv hK hP (ci := 11) (q0 := 0) rfl (mat_11 rfl), gStart (As := [.ref (ad 0), .int p0, .int 3]) hP hD hK0 hT hS hF (d_16)⟩ rfl rfl hl.1 rfl (lv_room (Nat.le_of_ble_eq_true rfl)) dX12_readMature_85 ⟨Nat.le_of_ble_eq_true rfl, Nat.le_of_ble_eq_true rfl⟩) hS (fun q _ h => hF q h) hF (fun r_35 σ12 t H locs ht hvm hw hB hz1 hk1 hS d_36 hd0 => ?_)
        have hts := dr_words hts0 (d_36)
        have hK := gKd hK0 (d_36)
        have hown : (s.setDrawn (d_36)).vm.findClass RX12 = some m.cls := hown0
        obtain ⟨hP, hD⟩ := gBack hF ht hB
        obtain ⟨hIσ12, hro, hp_37⟩ := hw
        subst hro
        have gq_38 : r_35 = gdt r_15 ((σ 2).1 p0.toNatClampNeg) ((σ 10).1 p0.toNatClampNeg) (3 : Int32) := hp_37.trans (gdt_ch (show ((σ8 5).1 p0.toNatClampNeg : Int32) = (r_15 : Int32) from by rw [eσ8, gI_self]) (show ((σ8 2).1 p0.toNatClampNeg : Int32) = ((σ 2).1 p0.toNatClampNeg : Int32) from by rw [eσ8, gI_ne _ _ _ (by decide), fcσ7.1 2 (by decide) (by decide), fcσ6.1 2 (by decide) (by decide), fcσ4.1 2 (by decide) (by decide), eσ3, gI_ne _ _ _ (by decide), eσ2, gI_ne _ _ _ (by decide), fcσ1.1 2 (by decide) (by decide)]) (show ((σ8 10).1 p0.toNatClampNeg : Int32) = ((σ 10).1 p0.toNatClampNeg : Int32) from by rw [eσ8, gI_ne _ _ _ (by decide), fcσ7.1 10 (by decide) (by decide), fcσ6.1 10 (by decide) (by decide), fcσ4.1 10 (by decide) (by decide), eσ3, gI_ne _ _ _ (by decide), eσ2, gI_ne _ _ _ (by decide), fcσ1.1 10 (by decide) (by decide)]))
        have gb_39 := gdt_b (A := (σ8 5).1 p0.toNatClampNeg) (O := (σ8 2).1 p0.toNatClampNeg) (E := (σ8 10).1 p0.toNatClampNeg) (k := (3 : Int32)) (by rw [eσ8, gI_self]; exact ((hp_17.2.1) (eq_le c_20))) (by rw [eσ8, gI_ne _ _ _ (by decide), fcσ7.1 2 (by decide) (by decide), fcσ6.1 2 (by decide) (by decide), fcσ4.1 2 (by decide) (by decide), eσ3, gI_ne _ _ _ (by decide), eσ2, gI_ne _ _ _ (by decide), fcσ1.1 2 (by decide) (by decide)]; exact (hh2 (Int32.le_trans (Int32.le_trans hp_3.1 of_18) (eq_le c_20)))) (show ((-91) : Int32) ≤ 3 by decide) (show (3 : Int32) ≤ 4 by decide)
        rw [← hp_37] at gb_39
        refine lv_icmp_le (tgt := 96) hx hb dX12_readMature_88 (by decide) (fun c_40 => ?_) (fun c_40 => ?_)
        · refine lv_aload_n hx hb dX12_readMature_96 rfl (lv_at hl 0 rfl) ?_
          have hF := gFree hD hS hA
          refine va_callvD hd0 (va_runV_D (As := []) (rest := []) ⟨hx, hb, hml, hown, hts⟩ (n_X12_next l dC dI ad cA adK adV H.size σ8 hIσ8 ) (cwV 0 hts gX12_readMature_X12_next rfl rfl rfl (by decide +kernel) ⟨Nat.le_of_ble_eq_true rfl, Nat.le_of_ble_eq_true rfl⟩) ⟨gBlind, va_recv hK hP (ci := 11) (q0 := 0) rfl (mat_11 rfl), gStart (As := [.ref (ad 0)]) hP hD hK0 hT hS hF (d_36)⟩ rfl rfl hl.1 rfl (lv_room (Nat.le_of_ble_eq_true rfl)) dX12_readMature_97 ⟨Nat.le_of_ble_eq_true rfl, Nat.le_of_ble_eq_true rfl⟩) hS (fun q _ h => hF q h) hF (fun σ13 t H locs ht hvm hw hB hz1 hk1 hS d_42 hd0 => ?_)
          have hts := dr_words hts0 (d_42)
          have hK := gKd hK0 (d_42)
          have hown : (s.setDrawn (d_42)).vm.findClass RX12 = some m.cls := hown0
          obtain ⟨hP, hD⟩ := gBack hF ht hB
          obtain ⟨hIσ13, fcσ13, hp_43⟩ := hw
          refine W.endD hd0 ?_
          exact W.vret hx hb hr (fun t ht hW => ⟨⟨σ13, rfl, ⟨hIσ13, (mFr.tr frσ8 fcσ13 (by decide) (by decide)), ⟨(le_ch (Eq.refl _) (show ((σ13 0).1 37 : Int32) = ((σ7 0).1 37 : Int32) from by rw [fcσ13.2 37 (by decide), eσ8, gI_ne _ _ _ (by decide)]) (Int32.le_trans hp_3.1 of_18)), (SP.tr (SP.tr (SP.tr (SP.tr (SP.tr (SP.tr hp_3.2.1 (SP.same (σ := σ1) (τ := σ3) (by rw [eσ3, gI_ne _ _ _ (by decide), eσ2, gI_ne _ _ _ (by decide)]) (by rw [eσ3, gI_ne _ _ _ (by decide), eσ2, gI_ne _ _ _ (by decide)]) (by rw [eσ3, gI_ne _ _ _ (by decide), eσ2, gI_ne _ _ _ (by decide)]))) hp_7.1) hp_14.1) hp_17.2.2.1) (SP.same (σ := σ7) (τ := σ8) (by rw [eσ8, gI_ne _ _ _ (by decide)]) (by rw [eσ8, gI_ne _ _ _ (by decide)]) (by rw [eσ8, gI_ne _ _ _ (by decide)]))) hp_43.1), (fun _ => (le_ch (Eq.refl _) (show (f_X12_isDate ((σ13 5).1 p0.toNatClampNeg) : Int32) = (f_X12_isDate r_15 : Int32) from by rw [fcσ13.1 5 (by decide) (by decide), eσ8, gI_self]) ((hp_17.2.1) (eq_le c_20)))), (fun _ => (le_ch (show ((σ13 5).1 p0.toNatClampNeg : Int32) = (r_15 : Int32) from by rw [fcσ13.1 5 (by decide) (by decide), eσ8, gI_self]) (show ((σ13 4).1 p0.toNatClampNeg : Int32) = (r_1 : Int32) from by rw [fcσ13.1 4 (by decide) (by decide), eσ8, gI_ne _ _ _ (by decide), fcσ7.1 4 (by decide) (by decide), fcσ6.1 4 (by decide) (by decide), fcσ4.1 4 (by decide) (by decide), eσ3, gI_ne _ _ _ (by decide), eσ2, gI_self]) (Int32.le_of_lt (Int32.not_le.mp c_26)))), (fun _ => (le_ch (show ((σ13 4).1 p0.toNatClampNeg : Int32) = (r_1 : Int32) from by rw [fcσ13.1 4 (by decide) (by decide), eσ8, gI_ne _ _ _ (by decide), fcσ7.1 4 (by decide) (by decide), fcσ6.1 4 (by decide) (by decide), fcσ4.1 4 (by decide) (by decide), eσ3, gI_ne _ _ _ (by decide), eσ2, gI_self]) (Eq.refl _) (date_le ((hp_3.2.2.1) (Int32.le_trans of_18 (eq_le c_20)))))), (fun j hj => ⟨by rw [fcσ13.1 4 (by decide) (by decide), eσ8, gI_ne _ _ _ (by decide), fcσ7.1 4 (by decide) (by decide), fcσ6.1 4 (by decide) (by decide), fcσ4.1 4 (by decide) (by decide), eσ3, gI_ne _ _ _ (by decide), eσ2, gI_oth _ _ _ hj, fcσ1.1 4 (by decide) (by decide)], by rw [fcσ13.1 5 (by decide) (by decide), eσ8, gI_oth _ _ _ hj, fcσ7.1 5 (by decide) (by decide), fcσ6.1 5 (by decide) (by decide), fcσ4.1 5 (by decide) (by decide), eσ3, gI_oth _ _ _ hj, eσ2, gI_ne _ _ _ (by decide), fcσ1.1 5 (by decide) (by decide)]⟩)⟩⟩, ⟨by rw [ht]; exact hP, hD⟩⟩, hS.F ht⟩) hS.2.2 dX12_readMature_100
        · refine lv_aload_n hx hb dX12_readMature_91 rfl (lv_at hl 0 rfl) ?_
          refine lv_iconst (v := 4) hx hb dX12_readMature_92 (by decide) ?_
          have hF := gFree hD hS hA
          refine va_callvD hd0 (va_runV_D (As := [.int 4]) (rest := []) ⟨hx, hb, hml, hown, hts⟩ (n_X12_wrong l dC dI ad cA adK adV H.size σ8 hIσ8 4 (show (0 : Int32) < 4 by decide)) (cwV 1 hts gX12_readMature_X12_wrong rfl rfl rfl (by decide +kernel) ⟨Nat.le_of_ble_eq_true rfl, Nat.le_of_ble_eq_true rfl⟩) ⟨gBlind, va_recv hK hP (ci := 11) (q0 := 0) rfl (mat_11 rfl), gStart (As := [.ref (ad 0), .int 4]) hP hD hK0 hT hS hF (d_36)⟩ rfl rfl hl.1 rfl (lv_room (Nat.le_of_ble_eq_true rfl)) dX12_readMature_93 ⟨Nat.le_of_ble_eq_true rfl, Nat.le_of_ble_eq_true rfl⟩) hS (fun q _ h => hF q h) hF (fun σ14 t H locs ht hvm hw hB hz1 hk1 hS d_45 hd0 => ?_)
          have hts := dr_words hts0 (d_45)
          have hK := gKd hK0 (d_45)
          have hown : (s.setDrawn (d_45)).vm.findClass RX12 = some m.cls := hown0
          obtain ⟨hP, hD⟩ := gBack hF ht hB
          obtain ⟨hIσ14, fcσ14, hp_46⟩ := hw
          have of_47 : ((σ7 0).1 37 : Int32) ≤ ((σ14 0).1 37 : Int32) := le_ch (show ((σ8 0).1 37 : Int32) = ((σ7 0).1 37 : Int32) from by rw [eσ8, gI_ne _ _ _ (by decide)]).symm (Eq.refl _).symm hp_46.1
          refine lv_aload_n hx hb dX12_readMature_96 rfl (lv_at hl 0 rfl) ?_
          have hF := gFree hD hS hA
          refine va_callvD hd0 (va_runV_D (As := []) (rest := []) ⟨hx, hb, hml, hown, hts⟩ (n_X12_next l dC dI ad cA adK adV H.size σ14 hIσ14 ) (cwV 0 hts gX12_readMature_X12_next rfl rfl rfl (by decide +kernel) ⟨Nat.le_of_ble_eq_true rfl, Nat.le_of_ble_eq_true rfl⟩) ⟨gBlind, va_recv hK hP (ci := 11) (q0 := 0) rfl (mat_11 rfl), gStart (As := [.ref (ad 0)]) hP hD hK0 hT hS hF (d_45)⟩ rfl rfl hl.1 rfl (lv_room (Nat.le_of_ble_eq_true rfl)) dX12_readMature_97 ⟨Nat.le_of_ble_eq_true rfl, Nat.le_of_ble_eq_true rfl⟩) hS (fun q _ h => hF q h) hF (fun σ15 t H locs ht hvm hw hB hz1 hk1 hS d_49 hd0 => ?_)
          have hts := dr_words hts0 (d_49)
          have hK := gKd hK0 (d_49)
          have hown : (s.setDrawn (d_49)).vm.findClass RX12 = some m.cls := hown0
          obtain ⟨hP, hD⟩ := gBack hF ht hB
          obtain ⟨hIσ15, fcσ15, hp_50⟩ := hw
          refine W.endD hd0 ?_
          exact W.vret hx hb hr (fun t ht hW => ⟨⟨σ15, rfl, ⟨hIσ15, (mFr.tr (mFr.tr frσ8 fcσ14 (by decide) (by decide)) fcσ15 (by decide) (by decide)), ⟨(le_ch (Eq.refl _) (show ((σ15 0).1 37 : Int32) = ((σ14 0).1 37 : Int32) from by rw [fcσ15.2 37 (by decide)]) (Int32.le_trans (Int32.le_trans hp_3.1 of_18) of_47)), (SP.tr (SP.tr (SP.tr (SP.tr (SP.tr (SP.tr (SP.tr hp_3.2.1 (SP.same (σ := σ1) (τ := σ3) (by rw [eσ3, gI_ne _ _ _ (by decide), eσ2, gI_ne _ _ _ (by decide)]) (by rw [eσ3, gI_ne _ _ _ (by decide), eσ2, gI_ne _ _ _ (by decide)]) (by rw [eσ3, gI_ne _ _ _ (by decide), eσ2, gI_ne _ _ _ (by decide)]))) hp_7.1) hp_14.1) hp_17.2.2.1) (SP.same (σ := σ7) (τ := σ8) (by rw [eσ8, gI_ne _ _ _ (by decide)]) (by rw [eσ8, gI_ne _ _ _ (by decide)]) (by rw [eσ8, gI_ne _ _ _ (by decide)]))) hp_46.2.2) hp_50.1), (fun _ => (le_ch (Eq.refl _) (show (f_X12_isDate ((σ15 5).1 p0.toNatClampNeg) : Int32) = (f_X12_isDate r_15 : Int32) from by rw [fcσ15.1 5 (by decide) (by decide), fcσ14.1 5 (by decide) (by decide), eσ8, gI_self]) ((hp_17.2.1) (eq_le c_20)))), (fun _ => (le_ch (show ((σ15 5).1 p0.toNatClampNeg : Int32) = (r_15 : Int32) from by rw [fcσ15.1 5 (by decide) (by decide), fcσ14.1 5 (by decide) (by decide), eσ8, gI_self]) (show ((σ15 4).1 p0.toNatClampNeg : Int32) = (r_1 : Int32) from by rw [fcσ15.1 4 (by decide) (by decide), fcσ14.1 4 (by decide) (by decide), eσ8, gI_ne _ _ _ (by decide), fcσ7.1 4 (by decide) (by decide), fcσ6.1 4 (by decide) (by decide), fcσ4.1 4 (by decide) (by decide), eσ3, gI_ne _ _ _ (by decide), eσ2, gI_self]) (Int32.le_of_lt (Int32.not_le.mp c_26)))), (fun _ => (le_ch (show ((σ15 4).1 p0.toNatClampNeg : Int32) = (r_1 : Int32) from by rw [fcσ15.1 4 (by decide) (by decide), fcσ14.1 4 (by decide) (by decide), eσ8, gI_ne _ _ _ (by decide), fcσ7.1 4 (by decide) (by decide), fcσ6.1 4 (by decide) (by decide), fcσ4.1 4 (by decide) (by decide), eσ3, gI_ne _ _ _ (by decide), eσ2, gI_self]) (Eq.refl _) (date_le ((hp_3.2.2.1) (Int32.le_trans of_18 (eq_le c_20)))))), (fun j hj => ⟨by rw [fcσ15.1 4 (by decide) (by decide), fcσ14.1 4 (by decide) (by decide), eσ8, gI_ne _ _ _ (by decide), fcσ7.1 4 (by decide) (by decide), fcσ6.1 4 (by decide) (by decide), fcσ4.1 4 (by decide) (by decide), eσ3, gI_ne _ _ _ (by decide), eσ2, gI_oth _ _ _ hj, fcσ1.1 4 (by decide) (by decide)], by rw [fcσ15.1 5 (by decide) (by decide), fcσ14.1 5 (by decide) (by decide), eσ8, gI_oth _ _ _ hj, fcσ7.1 5 (by decide) (by decide), fcσ6.1 5 (by decide) (by decide), fcσ4.1 5 (by decide) (by decide), eσ3, gI_oth _ _ _ hj, eσ2, gI_ne _ _ _ (by decide), fcσ1.1 5 (by decide) (by decide)]⟩)⟩⟩, ⟨by rw [ht]; exact hP, hD⟩⟩, hS.F ht⟩) hS.2.2 dX12_readMature_100
  · refine W.endD hd0 ?_
    exact W.vret hx hb hr (fun t ht hW => ⟨⟨σ4, rfl, ⟨hIσ4, (mFr.tr frσ3 fcσ4 (by decide) (by decide)), ⟨(le_ch (Eq.refl _) (show ((σ4 0).1 37 : Int32) = ((σ1 0).1 37 : Int32) from by rw [fcσ4.2 37 (by decide), eσ3, gI_ne _ _ _ (by decide), eσ2, gI_ne _ _ _ (by decide)]) hp_3.1), (SP.tr (SP.tr hp_3.2.1 (SP.same (σ := σ1) (τ := σ3) (by rw [eσ3, gI_ne _ _ _ (by decide), eσ2, gI_ne _ _ _ (by decide)]) (by rw [eσ3, gI_ne _ _ _ (by decide), eσ2, gI_ne _ _ _ (by decide)]) (by rw [eσ3, gI_ne _ _ _ (by decide), eσ2, gI_ne _ _ _ (by decide)]))) hp_7.1), (fun h9 => (fun (h8 : ((σ1 0).1 37 : Int32) ≤ (0 : Int32)) => (le_ch (Eq.refl _) (show (f_X12_isDate ((σ4 5).1 p0.toNatClampNeg) : Int32) = (f_X12_isDate r_1 : Int32) from by rw [fcσ4.1 5 (by decide) (by decide), eσ3, gI_self]) ((hp_3.2.2.1) h8))) (le_ch (show ((σ4 0).1 37 : Int32) = ((σ1 0).1 37 : Int32) from by rw [fcσ4.2 37 (by decide), eσ3, gI_ne _ _ _ (by decide), eσ2, gI_ne _ _ _ (by decide)]).symm (Eq.refl _).symm h9)), (fun _ => (le_ch (show ((σ4 5).1 p0.toNatClampNeg : Int32) = (r_1 : Int32) from by rw [fcσ4.1 5 (by decide) (by decide), eσ3, gI_self]) (show ((σ4 4).1 p0.toNatClampNeg : Int32) = (r_1 : Int32) from by rw [fcσ4.1 4 (by decide) (by decide), eσ3, gI_ne _ _ _ (by decide), eσ2, gI_self]) (Int32.le_refl r_1))), (fun h9 => (fun (h8 : ((σ1 0).1 37 : Int32) ≤ (0 : Int32)) => (le_ch (show ((σ4 4).1 p0.toNatClampNeg : Int32) = (r_1 : Int32) from by rw [fcσ4.1 4 (by decide) (by decide), eσ3, gI_ne _ _ _ (by decide), eσ2, gI_self]) (Eq.refl _) (date_le ((hp_3.2.2.1) h8)))) (le_ch (show ((σ4 0).1 37 : Int32) = ((σ1 0).1 37 : Int32) from by rw [fcσ4.2 37 (by decide), eσ3, gI_ne _ _ _ (by decide), eσ2, gI_ne _ _ _ (by decide)]).symm (Eq.refl _).symm h9)), (fun j hj => ⟨by rw [fcσ4.1 4 (by decide) (by decide), eσ3, gI_ne _ _ _ (by decide), eσ2, gI_oth _ _ _ hj, fcσ1.1 4 (by decide) (by decide)], by rw [fcσ4.1 5 (by decide) (by decide), eσ3, gI_oth _ _ _ hj, eσ2, gI_ne _ _ _ (by decide), fcσ1.1 5 (by decide) (by decide)]⟩)⟩⟩, ⟨by rw [ht]; exact hP, hD⟩⟩, hS.F ht⟩) hS.2.2 dX12_readMature_39
set_option maxHeartbeats 8000000 in
set_option maxRecDepth 100000 in
theorem n_X12_readIssue (l : Launch) (dC : Nat → ClassId) (dI : Nat → Nat → Nat) (ad : Nat → Nat) (cA : Nat → ClassId) (adK adV : Nat → Nat) (sz : Nat) (σ : gs) (hI : InvM σ) (p0 : Int32) (hh0 : 0 ≤ p0) (hh1 : p0 < 8) (hh2 : (σ 0).1 37 ≤ 0 → oft ((σ 2).1 p0.toNatClampNeg)) (hh3 : (σ 0).1 37 ≤ 0 → 1 ≤ f_X12_isDate ((σ 5).1 p0.toNatClampNeg)) : MetD lw_cs l yX12_readIssue wsX12_readIssue ({ frames := 7, cells := 0, slots := 0, locals := 151 }) (va_Pc [.ref (ad 0), .int p0] (gPre adK adV (dC, dI) (wM ad cA σ) (tM cA) sz)) (va_Qv (fun (τ : gs) => InvM τ ∧ mFr [46] [33, 34, 35, 36, 37] σ τ ∧ ((σ 0).1 37 ≤ (τ 0).1 37 ∧ (SP σ τ) ∧ ((τ 0).1 37 ≤ 0 → (τ 6).1 p0.toNatClampNeg < (σ 5).1 p0.toNatClampNeg) ∧ (∀ j : Nat, j ≠ p0.toNatClampNeg → (τ 6).1 j = (σ 6).1 j))) (fun τ t => gPost (dC, dI) (va_A (wM ad cA σ) sz) (wM ad cA τ) t) (va_A (wM ad cA σ) sz)) 0 0 (va_A (wM ad cA σ) sz) := by
  refine MetD.ofW (cc := cX12_readIssue) (maxL := 2) (ret := none) (by decide) rfl ?_
  intro p e s m args below meth c s₁ B hml hv hd0
  obtain ⟨rfl, hsz, hP, hK, hD0, hT⟩ := hv
  have hx := B.exec
  have hb := B.bytes
  have hr := B.returns
  have hts0 := atoms_spec (ws := wsX12_readIssue) B.pre
  have hK0 := hK
  have hown0 : s.vm.findClass RX12 = some m.cls := findClass_of_methodNamed B.named
  have hlocks := B.notSynchronized
  have hinX12 : ∀ w ∈ u_ws RX12 TX12 69, w ∈ wsX12_readIssue := (fun _ h9 => List.mem_cons_of_mem _ (List.mem_append_right _ h9))
  subst hsz
  have hD := hD0.self (sz := s.heap.size)
  generalize hAe : va_A (wM ad cA σ) s.heap.size = A at hD hT ⊢
  have hA : ∀ q : Nat, s.heap.size ≤ q → A q := fun q h => by rw [← hAe]; exact Or.inr h
  have hS : va_S A s.heap s.heap [] := va_S.rf
  have hl := lv_entry ([.ref (ad 0), .int p0]) (n := 2) (Nat.le_of_ble_eq_true rfl)
  rw [lg_entry_eq]
  generalize (lg_sl ([.ref (ad 0), .int p0]) ++ List.replicate (2 - (lg_sl ([.ref (ad 0), .int p0])).length) Slot.unset).toArray = ls at hl ⊢
  have hl : lv_has ls 2 [(0, .ref (ad 0)), (1, .int p0)] := hl
  have hts := dr_words hts0 (s.drawn)
  have hK := gKd hK0 (s.drawn)
  have hown : (s.setDrawn (s.drawn)).vm.findClass RX12 = some m.cls := hown0
  refine lv_aload_n hx hb dX12_readIssue_0 rfl (lv_at hl 0 rfl) ?_
  refine va_get (D := (dC, dI)) (ci := 11) (v := .ref (ad 6)) (C := RX12) (T := TX12) (N := 69) hx hb hts hinX12 hown hK hP 0 (mat_11 rfl) rfl 10 (by decide) (hts (.fieldLink RX12 29 "BondCalendarsModel" "issue" "[I") (by decide +kernel)) (fun _ h9 => h9) rfl dX12_readIssue_1 ?_
  refine lv_iload_n hx hb dX12_readIssue_4 rfl (lv_at hl 1 rfl) ?_
  refine lv_aload_n hx hb dX12_readIssue_5 rfl (lv_at hl 0 rfl) ?_
  refine va_ldcSW (tx := "issue") (q := (adK 16)) hx hb hown (vk_R.same rfl hT.2.1.2.2.2.2.2.2.2.2.2.2.2.2.2.2.2.2.1) dX12_readIssue_6 ?_
  have hF := gFree hD hS hA
  refine va_calliD hd0 (va_runV_D (As := [.ref (adK 16)]) (rest := [.int p0, .ref (ad 6)]) ⟨hx, hb, hml, hown, hts⟩ (n_X12_dateBehind l dC dI ad cA adK adV s.heap.size σ hI 16 (by decide)) (cwV 1 hts gX12_readIssue_X12_dateBehind rfl rfl rfl (by decide +kernel) ⟨Nat.le_of_ble_eq_true rfl, Nat.le_of_ble_eq_true rfl⟩) ⟨gBlind, va_recv hK hP (ci := 11) (q0 := 0) rfl (mat_11 rfl), gStart (As := [.ref (ad 0), .ref (adK 16)]) hP hD hK0 hT hS hF (s.drawn)⟩ rfl rfl hl.1 rfl (lv_room (Nat.le_of_ble_eq_true rfl)) dX12_readIssue_9 ⟨Nat.le_of_ble_eq_true rfl, Nat.le_of_ble_eq_true rfl⟩) hS (fun q _ h => hF q h) hF (fun r_1 σ1 t H locs ht hvm hw hB hz1 hk1 hS d_2 hd0 => ?_)
  have hts := dr_words hts0 (d_2)
  have hK := gKd hK0 (d_2)
  have hown : (s.setDrawn (d_2)).vm.findClass RX12 = some m.cls := hown0
  obtain ⟨hP, hD⟩ := gBack hF ht hB
  obtain ⟨hIσ1, fcσ1, hp_3⟩ := hw
  refine va_iast hx hb hK hP hD hS 6 6 (mat_46 rfl) (mty_46 rfl) (gin (N := 8) (by decide) hh0 hh1) dX12_readIssue_12 (fun H locs hP hD hS => ?_)
  obtain ⟨σ2, eσ2, hP, hD⟩ := gPut (mse_46 rfl) hP hD
  have hIσ2 : InvM σ2 := by rw [eσ2]; exact minv_I hIσ1 (mok_46 rfl _ _)
  have frσ2 : mFr [46] [33, 34, 35, 36, 37] σ σ2 := by rw [eσ2]; exact mFr.aI (mFr.tr (mFr.rfl (L := [46]) (F := [33, 34, 35, 36, 37]) (σ := σ)) fcσ1 (by decide) (by decide)) (by decide) (by decide)
  refine lv_aload_n hx hb dX12_readIssue_13 rfl (lv_at hl 0 rfl) ?_
  have bd_4 := mrd_11_37 (c := 0) hIσ1 rfl
  refine va_get (D := (dC, dI)) (ci := 11) (v := .int ((σ1 0).1 37)) (C := RX12) (T := TX12) (N := 69) hx hb hts hinX12 hown hK hP 0 (mat_11 rfl) rfl 37 (by decide) (hts (.fieldLink RX12 192 "BondCalendarsModel" "fault" "I") (by decide +kernel)) (fun _ h9 => h9) (congrArg (fun z => some (Value.int z)) (show (σ2 0).1 37 = ((σ1 0).1 37) from by rw [eσ2, gI_ne _ _ _ (by decide)])) dX12_readIssue_14 ?_
  refine lv_if_ne (tgt := 40) hx hb dX12_readIssue_17 (by decide) (fun c_5 => ?_) (fun c_5 => ?_)
  · refine lv_aload_n hx hb dX12_readIssue_40 rfl (lv_at hl 0 rfl) ?_
    refine va_get (D := (dC, dI)) (ci := 11) (v := .int ((σ1 0).1 37)) (C := RX12) (T := TX12) (N := 69) hx hb hts hinX12 hown hK hP 0 (mat_11 rfl) rfl 37 (by decide) (hts (.fieldLink RX12 192 "BondCalendarsModel" "fault" "I") (by decide +kernel)) (fun _ h9 => h9) (congrArg (fun z => some (Value.int z)) (show (σ2 0).1 37 = ((σ1 0).1 37) from by rw [eσ2, gI_ne _ _ _ (by decide)])) dX12_readIssue_41 ?_
    refine lv_if_ne (tgt := 68) hx hb dX12_readIssue_44 (by decide) (fun c_6 => ?_) (fun c_6 => ?_)
    · refine lv_aload_n hx hb dX12_readIssue_68 rfl (lv_at hl 0 rfl) ?_
      have hF := gFree hD hS hA
      refine va_callvD hd0 (va_runV_D (As := []) (rest := []) ⟨hx, hb, hml, hown, hts⟩ (n_X12_next l dC dI ad cA adK adV H.size σ2 hIσ2 ) (cwV 0 hts gX12_readIssue_X12_next rfl rfl rfl (by decide +kernel) ⟨Nat.le_of_ble_eq_true rfl, Nat.le_of_ble_eq_true rfl⟩) ⟨gBlind, va_recv hK hP (ci := 11) (q0 := 0) rfl (mat_11 rfl), gStart (As := [.ref (ad 0)]) hP hD hK0 hT hS hF (d_2)⟩ rfl rfl hl.1 rfl (lv_room (Nat.le_of_ble_eq_true rfl)) dX12_readIssue_69 ⟨Nat.le_of_ble_eq_true rfl, Nat.le_of_ble_eq_true rfl⟩) hS (fun q _ h => hF q h) hF (fun σ3 t H locs ht hvm hw hB hz1 hk1 hS d_8 hd0 => ?_)
      have hts := dr_words hts0 (d_8)
      have hK := gKd hK0 (d_8)
      have hown : (s.setDrawn (d_8)).vm.findClass RX12 = some m.cls := hown0
      obtain ⟨hP, hD⟩ := gBack hF ht hB
      obtain ⟨hIσ3, fcσ3, hp_9⟩ := hw
      refine W.endD hd0 ?_
      exact W.vret hx hb hr (fun t ht hW => ⟨⟨σ3, rfl, ⟨hIσ3, (mFr.tr frσ2 fcσ3 (by decide) (by decide)), ⟨(le_ch (Eq.refl _) (show ((σ3 0).1 37 : Int32) = ((σ1 0).1 37 : Int32) from by rw [fcσ3.2 37 (by decide), eσ2, gI_ne _ _ _ (by decide)]) hp_3.1), (SP.tr (SP.tr hp_3.2.1 (SP.same (σ := σ1) (τ := σ2) (by rw [eσ2, gI_ne _ _ _ (by decide)]) (by rw [eσ2, gI_ne _ _ _ (by decide)]) (by rw [eσ2, gI_ne _ _ _ (by decide)]))) hp_9.1), (fun h9 => absurd h9 (Int32.not_le.mpr (lt_ch (Eq.refl _) (show ((σ3 0).1 37 : Int32) = ((σ1 0).1 37 : Int32) from by rw [fcσ3.2 37 (by decide), eσ2, gI_ne _ _ _ (by decide)]) (ne_lt bd_4 c_5)))), (fun j hj => (by rw [fcσ3.1 6 (by decide) (by decide), eσ2, gI_oth _ _ _ hj, fcσ1.1 6 (by decide) (by decide)]))⟩⟩, ⟨by rw [ht]; exact hP, hD⟩⟩, hS.F ht⟩) hS.2.2 dX12_readIssue_72
    · exact absurd c_6 c_5
  · refine lv_aload_n hx hb dX12_readIssue_20 rfl (lv_at hl 0 rfl) ?_
    refine va_get (D := (dC, dI)) (ci := 11) (v := .ref (ad 6)) (C := RX12) (T := TX12) (N := 69) hx hb hts hinX12 hown hK hP 0 (mat_11 rfl) rfl 10 (by decide) (hts (.fieldLink RX12 29 "BondCalendarsModel" "issue" "[I") (by decide +kernel)) (fun _ h9 => h9) rfl dX12_readIssue_21 ?_
    refine lv_iload_n hx hb dX12_readIssue_24 rfl (lv_at hl 1 rfl) ?_
    refine va_iald hx hb hK hP 6 6 (mat_46 rfl) (mty_46 rfl) (gin (N := 8) (by decide) hh0 hh1) dX12_readIssue_25 ?_
    refine lv_eqi (y := r_1) (by rw [eσ2, gI_self]) ?_
    refine lv_aload_n hx hb dX12_readIssue_26 rfl (lv_at hl 0 rfl) ?_
    refine va_get (D := (dC, dI)) (ci := 11) (v := .ref (ad 5)) (C := RX12) (T := TX12) (N := 69) hx hb hts hinX12 hown hK hP 0 (mat_11 rfl) rfl 9 (by decide) (hts (.fieldLink RX12 26 "BondCalendarsModel" "anchor" "[I") (by decide +kernel)) (fun _ h9 => h9) rfl dX12_readIssue_27 ?_
    refine lv_iload_n hx hb dX12_readIssue_30 rfl (lv_at hl 1 rfl) ?_
    refine va_iald hx hb hK hP 5 5 (mat_45 rfl) (mty_45 rfl) (gin (N := 8) (by decide) hh0 hh1) dX12_readIssue_31 ?_
    refine lv_topi (fun x_11 ex_11 => ?_)
    have ex_11 : x_11 = ((σ 5).1 p0.toNatClampNeg) := by rw [ex_11, eσ2, gI_ne _ _ _ (by decide), fcσ1.1 5 (by decide) (by decide)]
    refine lv_icmp_lt (tgt := 40) hx hb dX12_readIssue_32 (by decide) (fun c_12 => ?_) (fun c_12 => ?_)
    · refine lv_aload_n hx hb dX12_readIssue_40 rfl (lv_at hl 0 rfl) ?_
      refine va_get (D := (dC, dI)) (ci := 11) (v := .int ((σ1 0).1 37)) (C := RX12) (T := TX12) (N := 69) hx hb hts hinX12 hown hK hP 0 (mat_11 rfl) rfl 37 (by decide) (hts (.fieldLink RX12 192 "BondCalendarsModel" "fault" "I") (by decide +kernel)) (fun _ h9 => h9) (congrArg (fun z => some (Value.int z)) (show (σ2 0).1 37 = ((σ1 0).1 37) from by rw [eσ2, gI_ne _ _ _ (by decide)])) dX12_readIssue_41 ?_
      refine lv_if_ne (tgt := 68) hx hb dX12_readIssue_44 (by decide) (fun c_13 => ?_) (fun c_13 => ?_)
      · exact absurd c_5 c_13
      · refine lv_aload_n hx hb dX12_readIssue_47 rfl (lv_at hl 0 rfl) ?_
        refine lv_iload_n hx hb dX12_readIssue_48 rfl (lv_at hl 1 rfl) ?_
        refine lv_bipush (v := (-80)) hx hb dX12_readIssue_49 (by decide) ?_
        have hF := gFree hD hS hA
        refine va_calliD hd0 (va_runV_D (As := [.int p0, .int (-80)]) (rest := []) ⟨hx, hb, hml, hown, hts⟩ (n_X12_gridDate l dC dI ad cA adK adV H.size σ2 hIσ2 p0 (-80) hh0 hh1 (by rw [eσ2, gI_ne _ _ _ (by decide), fcσ1.1 2 (by decide) (by decide)]; exact oft_1 (hh2 (Int32.le_trans hp_3.1 (eq_le c_5))))) (cwV 2 hts gX12_readIssue_X12_gridDate rfl rfl rfl (by decide +kernel) ⟨Nat.le_of_ble_eq_true rfl, Nat.le_of_ble_eq_true rfl⟩) ⟨gBlind, va_recv hK hP (ci := 11) (q0 := 0) rfl (mat_11 rfl), gStart (As := [.ref (ad 0), .int p0, .int (-80)]) hP hD hK0 hT hS hF (d_2)⟩ rfl rfl hl.1 rfl (lv_room (Nat.le_of_ble_eq_true rfl)) dX12_readIssue_51 ⟨Nat.le_of_ble_eq_true rfl, Nat.le_of_ble_eq_true rfl⟩) hS (fun q _ h => hF q h) hF (fun r_14 σ4 t H locs ht hvm hw hB hz1 hk1 hS d_15 hd0 => ?_)
        have hts := dr_words hts0 (d_15)
        have hK := gKd hK0 (d_15)
        have hown : (s.setDrawn (d_15)).vm.findClass RX12 = some m.cls := hown0
        obtain ⟨hP, hD⟩ := gBack hF ht hB
        obtain ⟨hIσ4, hro, hp_16⟩ := hw
        subst hro
        have gq_17 : r_14 = gdt ((σ 5).1 p0.toNatClampNeg) ((σ 2).1 p0.toNatClampNeg) ((σ 10).1 p0.toNatClampNeg) ((-80) : Int32) := hp_16.trans (gdt_ch (show ((σ2 5).1 p0.toNatClampNeg : Int32) = ((σ 5).1 p0.toNatClampNeg : Int32) from by rw [eσ2, gI_ne _ _ _ (by decide), fcσ1.1 5 (by decide) (by decide)]) (show ((σ2 2).1 p0.toNatClampNeg : Int32) = ((σ 2).1 p0.toNatClampNeg : Int32) from by rw [eσ2, gI_ne _ _ _ (by decide), fcσ1.1 2 (by decide) (by decide)]) (show ((σ2 10).1 p0.toNatClampNeg : Int32) = ((σ 10).1 p0.toNatClampNeg : Int32) from by rw [eσ2, gI_ne _ _ _ (by decide), fcσ1.1 10 (by decide) (by decide)]))
        have gb_18 := gdt_b (A := (σ2 5).1 p0.toNatClampNeg) (O := (σ2 2).1 p0.toNatClampNeg) (E := (σ2 10).1 p0.toNatClampNeg) (k := ((-80) : Int32)) (by rw [eσ2, gI_ne _ _ _ (by decide), fcσ1.1 5 (by decide) (by decide)]; exact (hh3 (Int32.le_trans hp_3.1 (eq_le c_5)))) (by rw [eσ2, gI_ne _ _ _ (by decide), fcσ1.1 2 (by decide) (by decide)]; exact (hh2 (Int32.le_trans hp_3.1 (eq_le c_5)))) (show ((-91) : Int32) ≤ (-80) by decide) (show ((-80) : Int32) ≤ 4 by decide)
        rw [← hp_16] at gb_18
        have gl_19 : r_14 ≤ ((σ 5).1 p0.toNatClampNeg) := le_ch hp_16 (show ((σ2 5).1 p0.toNatClampNeg : Int32) = ((σ 5).1 p0.toNatClampNeg : Int32) from by rw [eσ2, gI_ne _ _ _ (by decide), fcσ1.1 5 (by decide) (by decide)]).symm (gdt_le (A := (σ2 5).1 p0.toNatClampNeg) (O := (σ2 2).1 p0.toNatClampNeg) (E := (σ2 10).1 p0.toNatClampNeg) (k := ((-80) : Int32)) (by rw [eσ2, gI_ne _ _ _ (by decide), fcσ1.1 5 (by decide) (by decide)]; exact (hh3 (Int32.le_trans hp_3.1 (eq_le c_5)))) (by rw [eσ2, gI_ne _ _ _ (by decide), fcσ1.1 2 (by decide) (by decide)]; exact (hh2 (Int32.le_trans hp_3.1 (eq_le c_5)))) (show ((-91) : Int32) ≤ (-80) by decide) (show ((-80) : Int32) ≤ 0 by decide))
        refine lv_aload_n hx hb dX12_readIssue_54 rfl (lv_at hl 0 rfl) ?_
        refine va_get (D := (dC, dI)) (ci := 11) (v := .ref (ad 6)) (C := RX12) (T := TX12) (N := 69) hx hb hts hinX12 hown hK hP 0 (mat_11 rfl) rfl 10 (by decide) (hts (.fieldLink RX12 29 "BondCalendarsModel" "issue" "[I") (by decide +kernel)) (fun _ h9 => h9) rfl dX12_readIssue_55 ?_
        refine lv_iload_n hx hb dX12_readIssue_58 rfl (lv_at hl 1 rfl) ?_
        refine va_iald hx hb hK hP 6 6 (mat_46 rfl) (mty_46 rfl) (gin (N := 8) (by decide) hh0 hh1) dX12_readIssue_59 ?_
        refine lv_eqi (y := r_1) (by rw [eσ2, gI_self]) ?_
        refine lv_icmp_le (tgt := 68) hx hb dX12_readIssue_60 (by decide) (fun c_21 => ?_) (fun c_21 => ?_)
        · refine lv_aload_n hx hb dX12_readIssue_68 rfl (lv_at hl 0 rfl) ?_
          have hF := gFree hD hS hA
          refine va_callvD hd0 (va_runV_D (As := []) (rest := []) ⟨hx, hb, hml, hown, hts⟩ (n_X12_next l dC dI ad cA adK adV H.size σ2 hIσ2 ) (cwV 0 hts gX12_readIssue_X12_next rfl rfl rfl (by decide +kernel) ⟨Nat.le_of_ble_eq_true rfl, Nat.le_of_ble_eq_true rfl⟩) ⟨gBlind, va_recv hK hP (ci := 11) (q0 := 0) rfl (mat_11 rfl), gStart (As := [.ref (ad 0)]) hP hD hK0 hT hS hF (d_15)⟩ rfl rfl hl.1 rfl (lv_room (Nat.le_of_ble_eq_true rfl)) dX12_readIssue_69 ⟨Nat.le_of_ble_eq_true rfl, Nat.le_of_ble_eq_true rfl⟩) hS (fun q _ h => hF q h) hF (fun σ5 t H locs ht hvm hw hB hz1 hk1 hS d_23 hd0 => ?_)
          have hts := dr_words hts0 (d_23)
          have hK := gKd hK0 (d_23)
          have hown : (s.setDrawn (d_23)).vm.findClass RX12 = some m.cls := hown0
          obtain ⟨hP, hD⟩ := gBack hF ht hB
          obtain ⟨hIσ5, fcσ5, hp_24⟩ := hw
          refine W.endD hd0 ?_
          exact W.vret hx hb hr (fun t ht hW => ⟨⟨σ5, rfl, ⟨hIσ5, (mFr.tr frσ2 fcσ5 (by decide) (by decide)), ⟨(le_ch (Eq.refl _) (show ((σ5 0).1 37 : Int32) = ((σ1 0).1 37 : Int32) from by rw [fcσ5.2 37 (by decide), eσ2, gI_ne _ _ _ (by decide)]) hp_3.1), (SP.tr (SP.tr hp_3.2.1 (SP.same (σ := σ1) (τ := σ2) (by rw [eσ2, gI_ne _ _ _ (by decide)]) (by rw [eσ2, gI_ne _ _ _ (by decide)]) (by rw [eσ2, gI_ne _ _ _ (by decide)]))) hp_24.1), (fun _ => (lt_ch (show ((σ5 6).1 p0.toNatClampNeg : Int32) = (r_1 : Int32) from by rw [fcσ5.1 6 (by decide) (by decide), eσ2, gI_self]) (Eq.refl _) (Int32.lt_of_lt_of_le c_12 (eq_le ex_11)))), (fun j hj => (by rw [fcσ5.1 6 (by decide) (by decide), eσ2, gI_oth _ _ _ hj, fcσ1.1 6 (by decide) (by decide)]))⟩⟩, ⟨by rw [ht]; exact hP, hD⟩⟩, hS.F ht⟩) hS.2.2 dX12_readIssue_72
        · refine lv_aload_n hx hb dX12_readIssue_63 rfl (lv_at hl 0 rfl) ?_
          refine lv_iconst (v := 5) hx hb dX12_readIssue_64 (by decide) ?_
          have hF := gFree hD hS hA
          refine va_callvD hd0 (va_runV_D (As := [.int 5]) (rest := []) ⟨hx, hb, hml, hown, hts⟩ (n_X12_wrong l dC dI ad cA adK adV H.size σ2 hIσ2 5 (show (0 : Int32) < 5 by decide)) (cwV 1 hts gX12_readIssue_X12_wrong rfl rfl rfl (by decide +kernel) ⟨Nat.le_of_ble_eq_true rfl, Nat.le_of_ble_eq_true rfl⟩) ⟨gBlind, va_recv hK hP (ci := 11) (q0 := 0) rfl (mat_11 rfl), gStart (As := [.ref (ad 0), .int 5]) hP hD hK0 hT hS hF (d_15)⟩ rfl rfl hl.1 rfl (lv_room (Nat.le_of_ble_eq_true rfl)) dX12_readIssue_65 ⟨Nat.le_of_ble_eq_true rfl, Nat.le_of_ble_eq_true rfl⟩) hS (fun q _ h => hF q h) hF (fun σ6 t H locs ht hvm hw hB hz1 hk1 hS d_26 hd0 => ?_)
          have hts := dr_words hts0 (d_26)
          have hK := gKd hK0 (d_26)
          have hown : (s.setDrawn (d_26)).vm.findClass RX12 = some m.cls := hown0
          obtain ⟨hP, hD⟩ := gBack hF ht hB
          obtain ⟨hIσ6, fcσ6, hp_27⟩ := hw
          have of_28 : ((σ1 0).1 37 : Int32) ≤ ((σ6 0).1 37 : Int32) := le_ch (show ((σ2 0).1 37 : Int32) = ((σ1 0).1 37 : Int32) from by rw [eσ2, gI_ne _ _ _ (by decide)]).symm (Eq.refl _).symm hp_27.1
          refine lv_aload_n hx hb dX12_readIssue_68 rfl (lv_at hl 0 rfl) ?_
          have hF := gFree hD hS hA
          refine va_callvD hd0 (va_runV_D (As := []) (rest := []) ⟨hx, hb, hml, hown, hts⟩ (n_X12_next l dC dI ad cA adK adV H.size σ6 hIσ6 ) (cwV 0 hts gX12_readIssue_X12_next rfl rfl rfl (by decide +kernel) ⟨Nat.le_of_ble_eq_true rfl, Nat.le_of_ble_eq_true rfl⟩) ⟨gBlind, va_recv hK hP (ci := 11) (q0 := 0) rfl (mat_11 rfl), gStart (As := [.ref (ad 0)]) hP hD hK0 hT hS hF (d_26)⟩ rfl rfl hl.1 rfl (lv_room (Nat.le_of_ble_eq_true rfl)) dX12_readIssue_69 ⟨Nat.le_of_ble_eq_true rfl, Nat.le_of_ble_eq_true rfl⟩) hS (fun q _ h => hF q h) hF (fun σ7 t H locs ht hvm hw hB hz1 hk1 hS d_30 hd0 => ?_)
          have hts := dr_words hts0 (d_30)
          have hK := gKd hK0 (d_30)
          have hown : (s.setDrawn (d_30)).vm.findClass RX12 = some m.cls := hown0
          obtain ⟨hP, hD⟩ := gBack hF ht hB
          obtain ⟨hIσ7, fcσ7, hp_31⟩ := hw
          refine W.endD hd0 ?_
          exact W.vret hx hb hr (fun t ht hW => ⟨⟨σ7, rfl, ⟨hIσ7, (mFr.tr (mFr.tr frσ2 fcσ6 (by decide) (by decide)) fcσ7 (by decide) (by decide)), ⟨(le_ch (Eq.refl _) (show ((σ7 0).1 37 : Int32) = ((σ6 0).1 37 : Int32) from by rw [fcσ7.2 37 (by decide)]) (Int32.le_trans hp_3.1 of_28)), (SP.tr (SP.tr (SP.tr hp_3.2.1 (SP.same (σ := σ1) (τ := σ2) (by rw [eσ2, gI_ne _ _ _ (by decide)]) (by rw [eσ2, gI_ne _ _ _ (by decide)]) (by rw [eσ2, gI_ne _ _ _ (by decide)]))) hp_27.2.2) hp_31.1), (fun _ => (lt_ch (show ((σ7 6).1 p0.toNatClampNeg : Int32) = (r_1 : Int32) from by rw [fcσ7.1 6 (by decide) (by decide), fcσ6.1 6 (by decide) (by decide), eσ2, gI_self]) (Eq.refl _) (Int32.lt_of_lt_of_le c_12 (eq_le ex_11)))), (fun j hj => (by rw [fcσ7.1 6 (by decide) (by decide), fcσ6.1 6 (by decide) (by decide), eσ2, gI_oth _ _ _ hj, fcσ1.1 6 (by decide) (by decide)]))⟩⟩, ⟨by rw [ht]; exact hP, hD⟩⟩, hS.F ht⟩) hS.2.2 dX12_readIssue_72
    · refine lv_aload_n hx hb dX12_readIssue_35 rfl (lv_at hl 0 rfl) ?_
      refine lv_iconst (v := 4) hx hb dX12_readIssue_36 (by decide) ?_
      have hF := gFree hD hS hA
      refine va_callvD hd0 (va_runV_D (As := [.int 4]) (rest := []) ⟨hx, hb, hml, hown, hts⟩ (n_X12_wrong l dC dI ad cA adK adV H.size σ2 hIσ2 4 (show (0 : Int32) < 4 by decide)) (cwV 1 hts gX12_readIssue_X12_wrong rfl rfl rfl (by decide +kernel) ⟨Nat.le_of_ble_eq_true rfl, Nat.le_of_ble_eq_true rfl⟩) ⟨gBlind, va_recv hK hP (ci := 11) (q0 := 0) rfl (mat_11 rfl), gStart (As := [.ref (ad 0), .int 4]) hP hD hK0 hT hS hF (d_2)⟩ rfl rfl hl.1 rfl (lv_room (Nat.le_of_ble_eq_true rfl)) dX12_readIssue_37 ⟨Nat.le_of_ble_eq_true rfl, Nat.le_of_ble_eq_true rfl⟩) hS (fun q _ h => hF q h) hF (fun σ8 t H locs ht hvm hw hB hz1 hk1 hS d_33 hd0 => ?_)
      have hts := dr_words hts0 (d_33)
      have hK := gKd hK0 (d_33)
      have hown : (s.setDrawn (d_33)).vm.findClass RX12 = some m.cls := hown0
      obtain ⟨hP, hD⟩ := gBack hF ht hB
      obtain ⟨hIσ8, fcσ8, hp_34⟩ := hw
      have of_35 : ((σ1 0).1 37 : Int32) ≤ ((σ8 0).1 37 : Int32) := le_ch (show ((σ2 0).1 37 : Int32) = ((σ1 0).1 37 : Int32) from by rw [eσ2, gI_ne _ _ _ (by decide)]).symm (Eq.refl _).symm hp_34.1
      refine lv_aload_n hx hb dX12_readIssue_40 rfl (lv_at hl 0 rfl) ?_
      have bd_36 := mrd_11_37 (c := 0) hIσ8 rfl
      refine va_get (D := (dC, dI)) (ci := 11) (v := .int ((σ8 0).1 37)) (C := RX12) (T := TX12) (N := 69) hx hb hts hinX12 hown hK hP 0 (mat_11 rfl) rfl 37 (by decide) (hts (.fieldLink RX12 192 "BondCalendarsModel" "fault" "I") (by decide +kernel)) (fun _ h9 => h9) rfl dX12_readIssue_41 ?_
      refine lv_if_ne (tgt := 68) hx hb dX12_readIssue_44 (by decide) (fun c_37 => ?_) (fun c_37 => ?_)
      · refine lv_aload_n hx hb dX12_readIssue_68 rfl (lv_at hl 0 rfl) ?_
        have hF := gFree hD hS hA
        refine va_callvD hd0 (va_runV_D (As := []) (rest := []) ⟨hx, hb, hml, hown, hts⟩ (n_X12_next l dC dI ad cA adK adV H.size σ8 hIσ8 ) (cwV 0 hts gX12_readIssue_X12_next rfl rfl rfl (by decide +kernel) ⟨Nat.le_of_ble_eq_true rfl, Nat.le_of_ble_eq_true rfl⟩) ⟨gBlind, va_recv hK hP (ci := 11) (q0 := 0) rfl (mat_11 rfl), gStart (As := [.ref (ad 0)]) hP hD hK0 hT hS hF (d_33)⟩ rfl rfl hl.1 rfl (lv_room (Nat.le_of_ble_eq_true rfl)) dX12_readIssue_69 ⟨Nat.le_of_ble_eq_true rfl, Nat.le_of_ble_eq_true rfl⟩) hS (fun q _ h => hF q h) hF (fun σ9 t H locs ht hvm hw hB hz1 hk1 hS d_39 hd0 => ?_)
        have hts := dr_words hts0 (d_39)
        have hK := gKd hK0 (d_39)
        have hown : (s.setDrawn (d_39)).vm.findClass RX12 = some m.cls := hown0
        obtain ⟨hP, hD⟩ := gBack hF ht hB
        obtain ⟨hIσ9, fcσ9, hp_40⟩ := hw
        refine W.endD hd0 ?_
        exact W.vret hx hb hr (fun t ht hW => ⟨⟨σ9, rfl, ⟨hIσ9, (mFr.tr (mFr.tr frσ2 fcσ8 (by decide) (by decide)) fcσ9 (by decide) (by decide)), ⟨(le_ch (Eq.refl _) (show ((σ9 0).1 37 : Int32) = ((σ8 0).1 37 : Int32) from by rw [fcσ9.2 37 (by decide)]) (Int32.le_trans hp_3.1 of_35)), (SP.tr (SP.tr (SP.tr hp_3.2.1 (SP.same (σ := σ1) (τ := σ2) (by rw [eσ2, gI_ne _ _ _ (by decide)]) (by rw [eσ2, gI_ne _ _ _ (by decide)]) (by rw [eσ2, gI_ne _ _ _ (by decide)]))) hp_34.2.2) hp_40.1), (fun h9 => absurd h9 (Int32.not_le.mpr (lt_ch (Eq.refl _) (show ((σ9 0).1 37 : Int32) = ((σ8 0).1 37 : Int32) from by rw [fcσ9.2 37 (by decide)]) (ne_lt bd_36 c_37)))), (fun j hj => (by rw [fcσ9.1 6 (by decide) (by decide), fcσ8.1 6 (by decide) (by decide), eσ2, gI_oth _ _ _ hj, fcσ1.1 6 (by decide) (by decide)]))⟩⟩, ⟨by rw [ht]; exact hP, hD⟩⟩, hS.F ht⟩) hS.2.2 dX12_readIssue_72
      · exact absurd c_37 (fun h9 => absurd hp_34.2.1 (by rw [h9]; decide))
set_option maxHeartbeats 8000000 in
set_option maxRecDepth 100000 in
theorem n_X12_isFirst (l : Launch) (dC : Nat → ClassId) (dI : Nat → Nat → Nat) (ad : Nat → Nat) (cA : Nat → ClassId) (adK adV : Nat → Nat) (sz : Nat) (σ : gs) (hI : InvM σ) (p0 : Int32) (hh0 : 0 ≤ p0) (hh1 : p0 < 8) (hh2 : oft ((σ 2).1 p0.toNatClampNeg)) (hh3 : 1 ≤ f_X12_isDate ((σ 5).1 p0.toNatClampNeg)) : MetD lw_cs l yX12_isFirst wsX12_isFirst ({ frames := 3, cells := 0, slots := 0, locals := 68 }) (va_Pc [.ref (ad 0), .int p0] (gPre adK adV (dC, dI) (wM ad cA σ) (tM cA) sz)) (va_Qi (fun (r : Int32) (τ : gs) => InvM τ ∧ σ = τ ∧ ((r = 0 ∨ r = 1) ∧ (1 ≤ r → (σ 8).1 p0.toNatClampNeg ≤ (σ 5).1 p0.toNatClampNeg))) (fun τ t => gPost (dC, dI) (va_A (wM ad cA σ) sz) (wM ad cA τ) t) (va_A (wM ad cA σ) sz)) 0 0 (va_A (wM ad cA σ) sz) := by
  refine MetD.ofW (cc := cX12_isFirst) (maxL := 3) (ret := (some .boolean)) (by decide) rfl ?_
  intro p e s m args below meth c s₁ B hml hv hd0
  obtain ⟨rfl, hsz, hP, hK, hD0, hT⟩ := hv
  have hx := B.exec
  have hb := B.bytes
  have hr := B.returns
  have hts0 := atoms_spec (ws := wsX12_isFirst) B.pre
  have hK0 := hK
  have hown0 : s.vm.findClass RX12 = some m.cls := findClass_of_methodNamed B.named
  have hlocks := B.notSynchronized
  have hinX12 : ∀ w ∈ u_ws RX12 TX12 69, w ∈ wsX12_isFirst := (fun _ h9 => List.mem_cons_of_mem _ (List.mem_append_right _ h9))
  subst hsz
  have hD := hD0.self (sz := s.heap.size)
  generalize hAe : va_A (wM ad cA σ) s.heap.size = A at hD hT ⊢
  have hA : ∀ q : Nat, s.heap.size ≤ q → A q := fun q h => by rw [← hAe]; exact Or.inr h
  have hS : va_S A s.heap s.heap [] := va_S.rf
  have hl := lv_entry ([.ref (ad 0), .int p0]) (n := 3) (Nat.le_of_ble_eq_true rfl)
  rw [lg_entry_eq]
  generalize (lg_sl ([.ref (ad 0), .int p0]) ++ List.replicate (3 - (lg_sl ([.ref (ad 0), .int p0])).length) Slot.unset).toArray = ls at hl ⊢
  have hl : lv_has ls 3 [(0, .ref (ad 0)), (1, .int p0)] := hl
  have hts := dr_words hts0 (s.drawn)
  have hK := gKd hK0 (s.drawn)
  have hown : (s.setDrawn (s.drawn)).vm.findClass RX12 = some m.cls := hown0
  refine lv_aload_n hx hb dX12_isFirst_0 rfl (lv_at hl 0 rfl) ?_
  refine va_get (D := (dC, dI)) (ci := 11) (v := .ref (ad 8)) (C := RX12) (T := TX12) (N := 69) hx hb hts hinX12 hown hK hP 0 (mat_11 rfl) rfl 12 (by decide) (hts (.fieldLink RX12 35 "BondCalendarsModel" "first" "[I") (by decide +kernel)) (fun _ h9 => h9) rfl dX12_isFirst_1 ?_
  refine lv_iload_n hx hb dX12_isFirst_4 rfl (lv_at hl 1 rfl) ?_
  refine va_iald hx hb hK hP 8 8 (mat_48 rfl) (mty_48 rfl) (gin (N := 8) (by decide) hh0 hh1) dX12_isFirst_5 ?_
  refine lv_topi (fun x_1 ex_1 => ?_)
  refine lv_aload_n hx hb dX12_isFirst_6 rfl (lv_at hl 0 rfl) ?_
  refine va_get (D := (dC, dI)) (ci := 11) (v := .ref (ad 6)) (C := RX12) (T := TX12) (N := 69) hx hb hts hinX12 hown hK hP 0 (mat_11 rfl) rfl 10 (by decide) (hts (.fieldLink RX12 29 "BondCalendarsModel" "issue" "[I") (by decide +kernel)) (fun _ h9 => h9) rfl dX12_isFirst_7 ?_
  refine lv_iload_n hx hb dX12_isFirst_10 rfl (lv_at hl 1 rfl) ?_
  refine va_iald hx hb hK hP 6 6 (mat_46 rfl) (mty_46 rfl) (gin (N := 8) (by decide) hh0 hh1) dX12_isFirst_11 ?_
  refine lv_topi (fun x_2 ex_2 => ?_)
  refine lv_icmp_gt (tgt := 17) hx hb dX12_isFirst_12 (by decide) (fun c_3 => ?_) (fun c_3 => ?_)
  · refine lv_iconst (v := 0) hx hb dX12_isFirst_17 (by decide) ?_
    refine lv_istore_n (lv' := [(2, .int 0), (0, .ref (ad 0)), (1, .int p0)]) hx hb dX12_isFirst_18 rfl hl (by decide) rfl (fun ls hl => ?_)
    refine (fun (h : ∀ (n : Nat) (k2 : Int32) (d19 : Drawn) (H : Heap) (locs : List Loc) (ls : Array Slot), (k2.toInt + 80).toNat < n → -80 ≤ k2 → k2 ≤ 0 → s.drawn.sameBut d19 lw_cs → va_P (dC, dI) vwCl (wM ad cA σ) H → va_D A (wM ad cA σ) → va_S A s.heap H locs → lv_has ls 3 [(2, .int k2), (0, .ref (ad 0)), (1, .int p0)] → W p l e _ (s.setDrawn d19) m _ below meth c H locs _ _ _ (F0 m 19 ls [])) => h _ 0 _ _ _ _ (Nat.lt_succ_self _) (by decide) (by decide) hd0 hP hD hS (lv_sub hl [0, 1, 2] rfl)) ?_
    intro n19
    induction n19 with
    | zero => intro k2  d19 H locs ls hm; exact absurd hm (Nat.not_lt_zero _)
    | succ n19 ih19 =>
      intro k2  d19 H locs ls hm19 iv19_0 iv19_1  hd0 hP hD hS hl
      have hts := dr_words hts0 (d19)
      have hK := gKd hK0 (d19)
      have hown : (s.setDrawn (d19)).vm.findClass RX12 = some m.cls := hown0
      refine lv_iload_n hx hb dX12_isFirst_19 rfl (lv_at hl 0 rfl) ?_
      refine lv_bipush (v := (-80)) hx hb dX12_isFirst_20 (by decide) ?_
      refine lv_icmp_le (tgt := 69) hx hb dX12_isFirst_22 (by decide) (fun c_4 => ?_) (fun c_4 => ?_)
      · refine lv_iconst (v := 0) hx hb dX12_isFirst_69 (by decide) ?_
        refine W.endD hd0 ?_
        exact W.zret (v := 0) hx hb hr (by decide) (fun t ht hW => ⟨⟨0, σ, rfl, ⟨hI, rfl, ⟨Or.inl rfl, (fun h9 => absurd h9 (Int32.not_le.mpr (show (0 : Int32) < 1 by decide)))⟩⟩, ⟨by rw [ht]; exact hP, hD⟩⟩, hS.F ht⟩) hS.2.2 dX12_isFirst_70
      · refine lv_aload_n hx hb dX12_isFirst_25 rfl (lv_at hl 1 rfl) ?_
        refine lv_iload_n hx hb dX12_isFirst_26 rfl (lv_at hl 2 rfl) ?_
        refine lv_iload_n hx hb dX12_isFirst_27 rfl (lv_at hl 0 rfl) ?_
        have hF := gFree hD hS hA
        refine va_calliD hd0 (va_runV_D (As := [.int p0, .int k2]) (rest := []) ⟨hx, hb, hml, hown, hts⟩ (n_X12_gridDate l dC dI ad cA adK adV H.size σ hI p0 k2 hh0 hh1 (oft_1 hh2)) (cwV 2 hts gX12_isFirst_X12_gridDate rfl rfl rfl (by decide +kernel) ⟨Nat.le_of_ble_eq_true rfl, Nat.le_of_ble_eq_true rfl⟩) ⟨gBlind, va_recv hK hP (ci := 11) (q0 := 0) rfl (mat_11 rfl), gStart (As := [.ref (ad 0), .int p0, .int k2]) hP hD hK0 hT hS hF (d19)⟩ rfl rfl hl.1 rfl (lv_room (Nat.le_of_ble_eq_true rfl)) dX12_isFirst_28 ⟨Nat.le_of_ble_eq_true rfl, Nat.le_of_ble_eq_true rfl⟩) hS (fun q _ h => hF q h) hF (fun r_5 σ1 t H locs ht hvm hw hB hz1 hk1 hS d_6 hd0 => ?_)
        have hts := dr_words hts0 (d_6)
        have hK := gKd hK0 (d_6)
        have hown : (s.setDrawn (d_6)).vm.findClass RX12 = some m.cls := hown0
        obtain ⟨hP, hD⟩ := gBack hF ht hB
        obtain ⟨hIσ1, hro, hp_7⟩ := hw
        subst hro
        have gb_8 := gdt_b (A := (σ 5).1 p0.toNatClampNeg) (O := (σ 2).1 p0.toNatClampNeg) (E := (σ 10).1 p0.toNatClampNeg) (k := k2) hh3 hh2 (Int32.le_of_lt (Int32.lt_of_lt_of_le (show ((-91) : Int32) < (-79) by decide) (gl1 (b := (-79)) (Int32.not_le.mp c_4) (by decide)))) (Int32.le_of_lt (Int32.lt_of_le_of_lt iv19_1 (show (0 : Int32) < 4 by decide)))
        rw [← hp_7] at gb_8
        have gl_9 : r_5 ≤ ((σ 5).1 p0.toNatClampNeg) := le_ch hp_7 (Eq.refl _).symm (gdt_le (A := (σ 5).1 p0.toNatClampNeg) (O := (σ 2).1 p0.toNatClampNeg) (E := (σ 10).1 p0.toNatClampNeg) (k := k2) hh3 hh2 (Int32.le_of_lt (Int32.lt_of_lt_of_le (show ((-91) : Int32) < (-79) by decide) (gl1 (b := (-79)) (Int32.not_le.mp c_4) (by decide)))) iv19_1)
        refine lv_aload_n hx hb dX12_isFirst_31 rfl (lv_at hl 1 rfl) ?_
        refine va_get (D := (dC, dI)) (ci := 11) (v := .ref (ad 8)) (C := RX12) (T := TX12) (N := 69) hx hb hts hinX12 hown hK hP 0 (mat_11 rfl) rfl 12 (by decide) (hts (.fieldLink RX12 35 "BondCalendarsModel" "first" "[I") (by decide +kernel)) (fun _ h9 => h9) rfl dX12_isFirst_32 ?_
        refine lv_iload_n hx hb dX12_isFirst_35 rfl (lv_at hl 2 rfl) ?_
        refine va_iald hx hb hK hP 8 8 (mat_48 rfl) (mty_48 rfl) (gin (N := 8) (by decide) hh0 hh1) dX12_isFirst_36 ?_
        refine lv_topi (fun x_10 ex_10 => ?_)
        refine lv_icmp_ne (tgt := 63) hx hb dX12_isFirst_37 (by decide) (fun c_11 => ?_) (fun c_11 => ?_)
        · obtain ⟨x_12, ex_12⟩ : ∃ zz : Int32, zz = k2 + (-1) := ⟨_, rfl⟩
          refine lv_iinc (v := x_12) (lv' := [(2, .int x_12), (0, .ref (ad 0)), (1, .int p0)]) hx hb dX12_isFirst_63 hl (k := 0) rfl (by rw [ex_12]; rfl) (by decide) rfl (fun ls hl => ?_)
          refine lv_goto (tgt := 19) hx hb dX12_isFirst_66 (by decide) ?_
          exact ih19 x_12 _ _ _ _ ((kd (Int32.not_le.mp c_4) iv19_1 ex_12).2.2 hm19) (kd (n := 0) (Int32.not_le.mp c_4) iv19_1 ex_12).1 (kd (n := 0) (Int32.not_le.mp c_4) iv19_1 ex_12).2.1 hd0 hP hD hS (lv_sub hl [0, 1, 2] rfl)
        · refine lv_aload_n hx hb dX12_isFirst_40 rfl (lv_at hl 1 rfl) ?_
          refine lv_iload_n hx hb dX12_isFirst_41 rfl (lv_at hl 2 rfl) ?_
          refine lv_iload_n hx hb dX12_isFirst_42 rfl (lv_at hl 0 rfl) ?_
          refine lv_iconst (v := 3) hx hb dX12_isFirst_43 (by decide) ?_
          refine lv_isub hx hb dX12_isFirst_44 ?_
          refine lv_topi (fun x_13 ex_13 => ?_)
          have hF := gFree hD hS hA
          refine va_calliD hd0 (va_runV_D (As := [.int p0, .int x_13]) (rest := []) ⟨hx, hb, hml, hown, hts⟩ (n_X12_gridDate l dC dI ad cA adK adV H.size σ hI p0 x_13 hh0 hh1 (oft_1 hh2)) (cwV 2 hts gX12_isFirst_X12_gridDate rfl rfl rfl (by decide +kernel) ⟨Nat.le_of_ble_eq_true rfl, Nat.le_of_ble_eq_true rfl⟩) ⟨gBlind, va_recv hK hP (ci := 11) (q0 := 0) rfl (mat_11 rfl), gStart (As := [.ref (ad 0), .int p0, .int x_13]) hP hD hK0 hT hS hF (d_6)⟩ rfl rfl hl.1 rfl (lv_room (Nat.le_of_ble_eq_true rfl)) dX12_isFirst_45 ⟨Nat.le_of_ble_eq_true rfl, Nat.le_of_ble_eq_true rfl⟩) hS (fun q _ h => hF q h) hF (fun r_14 σ2 t H locs ht hvm hw hB hz1 hk1 hS d_15 hd0 => ?_)
          have hts := dr_words hts0 (d_15)
          have hK := gKd hK0 (d_15)
          have hown : (s.setDrawn (d_15)).vm.findClass RX12 = some m.cls := hown0
          obtain ⟨hP, hD⟩ := gBack hF ht hB
          obtain ⟨hIσ2, hro, hp_16⟩ := hw
          subst hro
          refine lv_aload_n hx hb dX12_isFirst_48 rfl (lv_at hl 1 rfl) ?_
          refine va_get (D := (dC, dI)) (ci := 11) (v := .ref (ad 6)) (C := RX12) (T := TX12) (N := 69) hx hb hts hinX12 hown hK hP 0 (mat_11 rfl) rfl 10 (by decide) (hts (.fieldLink RX12 29 "BondCalendarsModel" "issue" "[I") (by decide +kernel)) (fun _ h9 => h9) rfl dX12_isFirst_49 ?_
          refine lv_iload_n hx hb dX12_isFirst_52 rfl (lv_at hl 2 rfl) ?_
          refine va_iald hx hb hK hP 6 6 (mat_46 rfl) (mty_46 rfl) (gin (N := 8) (by decide) hh0 hh1) dX12_isFirst_53 ?_
          refine lv_topi (fun x_17 ex_17 => ?_)
          refine lv_icmp_gt (tgt := 61) hx hb dX12_isFirst_54 (by decide) (fun c_18 => ?_) (fun c_18 => ?_)
          · refine lv_iconst (v := 0) hx hb dX12_isFirst_61 (by decide) ?_
            refine W.endD hd0 ?_
            exact W.zret (v := 0) hx hb hr (by decide) (fun t ht hW => ⟨⟨0, σ, rfl, ⟨hI, rfl, ⟨Or.inl rfl, (fun _ => (Int32.le_trans (Int32.le_trans (eq_le ex_10.symm) (eq_le c_11.symm)) gl_9))⟩⟩, ⟨by rw [ht]; exact hP, hD⟩⟩, hS.F ht⟩) hS.2.2 dX12_isFirst_62
          · refine lv_iconst (v := 1) hx hb dX12_isFirst_57 (by decide) ?_
            refine lv_goto (tgt := 62) hx hb dX12_isFirst_58 (by decide) ?_
            refine W.endD hd0 ?_
            exact W.zret (v := 1) hx hb hr (by decide) (fun t ht hW => ⟨⟨1, σ, rfl, ⟨hI, rfl, ⟨Or.inr rfl, (fun _ => (Int32.le_trans (Int32.le_trans (eq_le ex_10.symm) (eq_le c_11.symm)) gl_9))⟩⟩, ⟨by rw [ht]; exact hP, hD⟩⟩, hS.F ht⟩) hS.2.2 dX12_isFirst_62
  · refine lv_iconst (v := 0) hx hb dX12_isFirst_15 (by decide) ?_
    refine W.endD hd0 ?_
    exact W.zret (v := 0) hx hb hr (by decide) (fun t ht hW => ⟨⟨0, σ, rfl, ⟨hI, rfl, ⟨Or.inl rfl, (fun h9 => absurd h9 (Int32.not_le.mpr (show (0 : Int32) < 1 by decide)))⟩⟩, ⟨by rw [ht]; exact hP, hD⟩⟩, hS.F ht⟩) hS.2.2 dX12_isFirst_16
set_option maxHeartbeats 8000000 in
set_option maxRecDepth 100000 in
theorem n_X12_readFirst (l : Launch) (dC : Nat → ClassId) (dI : Nat → Nat → Nat) (ad : Nat → Nat) (cA : Nat → ClassId) (adK adV : Nat → Nat) (sz : Nat) (σ : gs) (hI : InvM σ) (p0 : Int32) (hh0 : 0 ≤ p0) (hh1 : p0 < 8) (hh2 : (σ 0).1 37 ≤ 0 → oft ((σ 2).1 p0.toNatClampNeg)) (hh3 : (σ 0).1 37 ≤ 0 → 1 ≤ f_X12_isDate ((σ 5).1 p0.toNatClampNeg)) : MetD lw_cs l yX12_readFirst wsX12_readFirst ({ frames := 5, cells := 0, slots := 0, locals := 109 }) (va_Pc [.ref (ad 0), .int p0] (gPre adK adV (dC, dI) (wM ad cA σ) (tM cA) sz)) (va_Qv (fun (τ : gs) => InvM τ ∧ mFr [48] [33, 34, 35, 36, 37] σ τ ∧ ((σ 0).1 37 ≤ (τ 0).1 37 ∧ (SP σ τ) ∧ ((τ 0).1 37 ≤ 0 → (τ 8).1 p0.toNatClampNeg ≤ (σ 5).1 p0.toNatClampNeg) ∧ (∀ j : Nat, j ≠ p0.toNatClampNeg → (τ 8).1 j = (σ 8).1 j))) (fun τ t => gPost (dC, dI) (va_A (wM ad cA σ) sz) (wM ad cA τ) t) (va_A (wM ad cA σ) sz)) 0 0 (va_A (wM ad cA σ) sz) := by
  refine MetD.ofW (cc := cX12_readFirst) (maxL := 2) (ret := none) (by decide) rfl ?_
  intro p e s m args below meth c s₁ B hml hv hd0
  obtain ⟨rfl, hsz, hP, hK, hD0, hT⟩ := hv
  have hx := B.exec
  have hb := B.bytes
  have hr := B.returns
  have hts0 := atoms_spec (ws := wsX12_readFirst) B.pre
  have hK0 := hK
  have hown0 : s.vm.findClass RX12 = some m.cls := findClass_of_methodNamed B.named
  have hlocks := B.notSynchronized
  have hinX12 : ∀ w ∈ u_ws RX12 TX12 69, w ∈ wsX12_readFirst := (fun _ h9 => List.mem_cons_of_mem _ (List.mem_append_right _ h9))
  subst hsz
  have hD := hD0.self (sz := s.heap.size)
  generalize hAe : va_A (wM ad cA σ) s.heap.size = A at hD hT ⊢
  have hA : ∀ q : Nat, s.heap.size ≤ q → A q := fun q h => by rw [← hAe]; exact Or.inr h
  have hS : va_S A s.heap s.heap [] := va_S.rf
  have hl := lv_entry ([.ref (ad 0), .int p0]) (n := 2) (Nat.le_of_ble_eq_true rfl)
  rw [lg_entry_eq]
  generalize (lg_sl ([.ref (ad 0), .int p0]) ++ List.replicate (2 - (lg_sl ([.ref (ad 0), .int p0])).length) Slot.unset).toArray = ls at hl ⊢
  have hl : lv_has ls 2 [(0, .ref (ad 0)), (1, .int p0)] := hl
  have hts := dr_words hts0 (s.drawn)
  have hK := gKd hK0 (s.drawn)
  have hown : (s.setDrawn (s.drawn)).vm.findClass RX12 = some m.cls := hown0
  refine lv_aload_n hx hb dX12_readFirst_0 rfl (lv_at hl 0 rfl) ?_
  refine va_get (D := (dC, dI)) (ci := 11) (v := .ref (ad 8)) (C := RX12) (T := TX12) (N := 69) hx hb hts hinX12 hown hK hP 0 (mat_11 rfl) rfl 12 (by decide) (hts (.fieldLink RX12 35 "BondCalendarsModel" "first" "[I") (by decide +kernel)) (fun _ h9 => h9) rfl dX12_readFirst_1 ?_
  refine lv_iload_n hx hb dX12_readFirst_4 rfl (lv_at hl 1 rfl) ?_
  refine lv_iconst (v := 0) hx hb dX12_readFirst_5 (by decide) ?_
  refine va_iast hx hb hK hP hD hS 8 8 (mat_48 rfl) (mty_48 rfl) (gin (N := 8) (by decide) hh0 hh1) dX12_readFirst_6 (fun H locs hP hD hS => ?_)
  obtain ⟨σ1, eσ1, hP, hD⟩ := gPut (mse_48 rfl) hP hD
  have hIσ1 : InvM σ1 := by rw [eσ1]; exact minv_I hI (mok_48 rfl _ _)
  have frσ1 : mFr [48] [33, 34, 35, 36, 37] σ σ1 := by rw [eσ1]; exact mFr.aI (mFr.rfl (L := [48]) (F := [33, 34, 35, 36, 37]) (σ := σ)) (by decide) (by decide)
  refine lv_aload_n hx hb dX12_readFirst_7 rfl (lv_at hl 0 rfl) ?_
  refine va_ldcSW (tx := "first") (q := (adK 17)) hx hb hown (vk_R.same rfl hT.2.1.2.2.2.2.2.2.2.2.2.2.2.2.2.2.2.2.2.1) dX12_readFirst_8 ?_
  have hF := gFree hD hS hA
  refine va_calliD hd0 (va_runV_D (As := [.ref (adK 17)]) (rest := []) ⟨hx, hb, hml, hown, hts⟩ (n_X12_isWord l dC dI ad cA adK adV H.size σ1 hIσ1 17 (by decide)) (cwV 1 hts gX12_readFirst_X12_isWord rfl rfl rfl (by decide +kernel) ⟨Nat.le_of_ble_eq_true rfl, Nat.le_of_ble_eq_true rfl⟩) ⟨gBlind, va_recv hK hP (ci := 11) (q0 := 0) rfl (mat_11 rfl), gStart (As := [.ref (ad 0), .ref (adK 17)]) hP hD hK0 hT hS hF (s.drawn)⟩ rfl rfl hl.1 rfl (lv_room (Nat.le_of_ble_eq_true rfl)) dX12_readFirst_11 ⟨Nat.le_of_ble_eq_true rfl, Nat.le_of_ble_eq_true rfl⟩) hS (fun q _ h => hF q h) hF (fun r_1 σ2 t H locs ht hvm hw hB hz1 hk1 hS d_2 hd0 => ?_)
  have hts := dr_words hts0 (d_2)
  have hK := gKd hK0 (d_2)
  have hown : (s.setDrawn (d_2)).vm.findClass RX12 = some m.cls := hown0
  obtain ⟨hP, hD⟩ := gBack hF ht hB
  obtain ⟨hIσ2, hro, hp_3⟩ := hw
  subst hro
  refine lv_if_ne (tgt := 18) hx hb dX12_readFirst_14 (by decide) (fun c_4 => ?_) (fun c_4 => ?_)
  · refine lv_aload_n hx hb dX12_readFirst_18 rfl (lv_at hl 0 rfl) ?_
    have hF := gFree hD hS hA
    refine va_callvD hd0 (va_runV_D (As := []) (rest := []) ⟨hx, hb, hml, hown, hts⟩ (n_X12_next l dC dI ad cA adK adV H.size σ1 hIσ1 ) (cwV 0 hts gX12_readFirst_X12_next rfl rfl rfl (by decide +kernel) ⟨Nat.le_of_ble_eq_true rfl, Nat.le_of_ble_eq_true rfl⟩) ⟨gBlind, va_recv hK hP (ci := 11) (q0 := 0) rfl (mat_11 rfl), gStart (As := [.ref (ad 0)]) hP hD hK0 hT hS hF (d_2)⟩ rfl rfl hl.1 rfl (lv_room (Nat.le_of_ble_eq_true rfl)) dX12_readFirst_19 ⟨Nat.le_of_ble_eq_true rfl, Nat.le_of_ble_eq_true rfl⟩) hS (fun q _ h => hF q h) hF (fun σ3 t H locs ht hvm hw hB hz1 hk1 hS d_6 hd0 => ?_)
    have hts := dr_words hts0 (d_6)
    have hK := gKd hK0 (d_6)
    have hown : (s.setDrawn (d_6)).vm.findClass RX12 = some m.cls := hown0
    obtain ⟨hP, hD⟩ := gBack hF ht hB
    obtain ⟨hIσ3, fcσ3, hp_7⟩ := hw
    refine lv_aload_n hx hb dX12_readFirst_22 rfl (lv_at hl 0 rfl) ?_
    refine va_get (D := (dC, dI)) (ci := 11) (v := .ref (ad 8)) (C := RX12) (T := TX12) (N := 69) hx hb hts hinX12 hown hK hP 0 (mat_11 rfl) rfl 12 (by decide) (hts (.fieldLink RX12 35 "BondCalendarsModel" "first" "[I") (by decide +kernel)) (fun _ h9 => h9) rfl dX12_readFirst_23 ?_
    refine lv_iload_n hx hb dX12_readFirst_26 rfl (lv_at hl 1 rfl) ?_
    refine lv_aload_n hx hb dX12_readFirst_27 rfl (lv_at hl 0 rfl) ?_
    have hF := gFree hD hS hA
    refine va_calliD hd0 (va_runV_D (As := []) (rest := [.int p0, .ref (ad 8)]) ⟨hx, hb, hml, hown, hts⟩ (n_X12_dateAt l dC dI ad cA adK adV H.size σ3 hIσ3 ) (cwV 0 hts gX12_readFirst_X12_dateAt rfl rfl rfl (by decide +kernel) ⟨Nat.le_of_ble_eq_true rfl, Nat.le_of_ble_eq_true rfl⟩) ⟨gBlind, va_recv hK hP (ci := 11) (q0 := 0) rfl (mat_11 rfl), gStart (As := [.ref (ad 0)]) hP hD hK0 hT hS hF (d_6)⟩ rfl rfl hl.1 rfl (lv_room (Nat.le_of_ble_eq_true rfl)) dX12_readFirst_28 ⟨Nat.le_of_ble_eq_true rfl, Nat.le_of_ble_eq_true rfl⟩) hS (fun q _ h => hF q h) hF (fun r_8 σ4 t H locs ht hvm hw hB hz1 hk1 hS d_9 hd0 => ?_)
    have hts := dr_words hts0 (d_9)
    have hK := gKd hK0 (d_9)
    have hown : (s.setDrawn (d_9)).vm.findClass RX12 = some m.cls := hown0
    obtain ⟨hP, hD⟩ := gBack hF ht hB
    obtain ⟨hIσ4, fcσ4, hp_10⟩ := hw
    have of_11 : ((σ 0).1 37 : Int32) ≤ ((σ4 0).1 37 : Int32) := le_ch (show ((σ3 0).1 37 : Int32) = ((σ 0).1 37 : Int32) from by rw [fcσ3.2 37 (by decide), eσ1, gI_ne _ _ _ (by decide)]).symm (Eq.refl _).symm hp_10.1
    refine va_iast hx hb hK hP hD hS 8 8 (mat_48 rfl) (mty_48 rfl) (gin (N := 8) (by decide) hh0 hh1) dX12_readFirst_31 (fun H locs hP hD hS => ?_)
    obtain ⟨σ5, eσ5, hP, hD⟩ := gPut (mse_48 rfl) hP hD
    have hIσ5 : InvM σ5 := by rw [eσ5]; exact minv_I hIσ4 (mok_48 rfl _ _)
    have frσ5 : mFr [48] [33, 34, 35, 36, 37] σ σ5 := by rw [eσ5]; exact mFr.aI (mFr.tr (mFr.tr frσ1 fcσ3 (by decide) (by decide)) fcσ4 (by decide) (by decide)) (by decide) (by decide)
    refine lv_aload_n hx hb dX12_readFirst_32 rfl (lv_at hl 0 rfl) ?_
    have bd_12 := mrd_11_37 (c := 0) hIσ4 rfl
    refine va_get (D := (dC, dI)) (ci := 11) (v := .int ((σ4 0).1 37)) (C := RX12) (T := TX12) (N := 69) hx hb hts hinX12 hown hK hP 0 (mat_11 rfl) rfl 37 (by decide) (hts (.fieldLink RX12 192 "BondCalendarsModel" "fault" "I") (by decide +kernel)) (fun _ h9 => h9) (congrArg (fun z => some (Value.int z)) (show (σ5 0).1 37 = ((σ4 0).1 37) from by rw [eσ5, gI_ne _ _ _ (by decide)])) dX12_readFirst_33 ?_
    refine lv_if_ne (tgt := 52) hx hb dX12_readFirst_36 (by decide) (fun c_13 => ?_) (fun c_13 => ?_)
    · refine lv_aload_n hx hb dX12_readFirst_52 rfl (lv_at hl 0 rfl) ?_
      have hF := gFree hD hS hA
      refine va_callvD hd0 (va_runV_D (As := []) (rest := []) ⟨hx, hb, hml, hown, hts⟩ (n_X12_next l dC dI ad cA adK adV H.size σ5 hIσ5 ) (cwV 0 hts gX12_readFirst_X12_next rfl rfl rfl (by decide +kernel) ⟨Nat.le_of_ble_eq_true rfl, Nat.le_of_ble_eq_true rfl⟩) ⟨gBlind, va_recv hK hP (ci := 11) (q0 := 0) rfl (mat_11 rfl), gStart (As := [.ref (ad 0)]) hP hD hK0 hT hS hF (d_9)⟩ rfl rfl hl.1 rfl (lv_room (Nat.le_of_ble_eq_true rfl)) dX12_readFirst_53 ⟨Nat.le_of_ble_eq_true rfl, Nat.le_of_ble_eq_true rfl⟩) hS (fun q _ h => hF q h) hF (fun σ6 t H locs ht hvm hw hB hz1 hk1 hS d_15 hd0 => ?_)
      have hts := dr_words hts0 (d_15)
      have hK := gKd hK0 (d_15)
      have hown : (s.setDrawn (d_15)).vm.findClass RX12 = some m.cls := hown0
      obtain ⟨hP, hD⟩ := gBack hF ht hB
      obtain ⟨hIσ6, fcσ6, hp_16⟩ := hw
      refine W.endD hd0 ?_
      exact W.vret hx hb hr (fun t ht hW => ⟨⟨σ6, rfl, ⟨hIσ6, (mFr.tr frσ5 fcσ6 (by decide) (by decide)), ⟨(le_ch (Eq.refl _) (show ((σ6 0).1 37 : Int32) = ((σ4 0).1 37 : Int32) from by rw [fcσ6.2 37 (by decide), eσ5, gI_ne _ _ _ (by decide)]) of_11), (SP.tr (SP.tr (SP.tr (SP.tr (SP.same (σ := σ) (τ := σ1) (by rw [eσ1, gI_ne _ _ _ (by decide)]) (by rw [eσ1, gI_ne _ _ _ (by decide)]) (by rw [eσ1, gI_ne _ _ _ (by decide)])) hp_7.1) hp_10.2.2.1) (SP.same (σ := σ4) (τ := σ5) (by rw [eσ5, gI_ne _ _ _ (by decide)]) (by rw [eσ5, gI_ne _ _ _ (by decide)]) (by rw [eσ5, gI_ne _ _ _ (by decide)]))) hp_16.1), (fun h9 => absurd h9 (Int32.not_le.mpr (lt_ch (Eq.refl _) (show ((σ6 0).1 37 : Int32) = ((σ4 0).1 37 : Int32) from by rw [fcσ6.2 37 (by decide), eσ5, gI_ne _ _ _ (by decide)]) (ne_lt bd_12 c_13)))), (fun j hj => (by rw [fcσ6.1 8 (by decide) (by decide), eσ5, gI_oth _ _ _ hj, fcσ4.1 8 (by decide) (by decide), fcσ3.1 8 (by decide) (by decide), eσ1, gI_oth _ _ _ hj]))⟩⟩, ⟨by rw [ht]; exact hP, hD⟩⟩, hS.F ht⟩) hS.2.2 dX12_readFirst_56
    · refine lv_aload_n hx hb dX12_readFirst_39 rfl (lv_at hl 0 rfl) ?_
      refine lv_iload_n hx hb dX12_readFirst_40 rfl (lv_at hl 1 rfl) ?_
      have hF := gFree hD hS hA
      refine va_calliD hd0 (va_runV_D (As := [.int p0]) (rest := []) ⟨hx, hb, hml, hown, hts⟩ (n_X12_isFirst l dC dI ad cA adK adV H.size σ5 hIσ5 p0 hh0 hh1 (by rw [eσ5, gI_ne _ _ _ (by decide), fcσ4.1 2 (by decide) (by decide), fcσ3.1 2 (by decide) (by decide), eσ1, gI_ne _ _ _ (by decide)]; exact (hh2 (Int32.le_trans of_11 (eq_le c_13)))) (by rw [eσ5, gI_ne _ _ _ (by decide), fcσ4.1 5 (by decide) (by decide), fcσ3.1 5 (by decide) (by decide), eσ1, gI_ne _ _ _ (by decide)]; exact (hh3 (Int32.le_trans of_11 (eq_le c_13))))) (cwV 1 hts gX12_readFirst_X12_isFirst rfl rfl rfl (by decide +kernel) ⟨Nat.le_of_ble_eq_true rfl, Nat.le_of_ble_eq_true rfl⟩) ⟨gBlind, va_recv hK hP (ci := 11) (q0 := 0) rfl (mat_11 rfl), gStart (As := [.ref (ad 0), .int p0]) hP hD hK0 hT hS hF (d_9)⟩ rfl rfl hl.1 rfl (lv_room (Nat.le_of_ble_eq_true rfl)) dX12_readFirst_41 ⟨Nat.le_of_ble_eq_true rfl, Nat.le_of_ble_eq_true rfl⟩) hS (fun q _ h => hF q h) hF (fun r_17 σ7 t H locs ht hvm hw hB hz1 hk1 hS d_18 hd0 => ?_)
      have hts := dr_words hts0 (d_18)
      have hK := gKd hK0 (d_18)
      have hown : (s.setDrawn (d_18)).vm.findClass RX12 = some m.cls := hown0
      obtain ⟨hP, hD⟩ := gBack hF ht hB
      obtain ⟨hIσ7, hro, hp_19⟩ := hw
      subst hro
      have im_20 : (1 : Int32) ≤ (r_17 : Int32) → (r_8 : Int32) ≤ ((σ 5).1 p0.toNatClampNeg : Int32) := fun h9 => le_ch (show ((σ5 8).1 p0.toNatClampNeg : Int32) = (r_8 : Int32) from by rw [eσ5, gI_self]).symm (show ((σ5 5).1 p0.toNatClampNeg : Int32) = ((σ 5).1 p0.toNatClampNeg : Int32) from by rw [eσ5, gI_ne _ _ _ (by decide), fcσ4.1 5 (by decide) (by decide), fcσ3.1 5 (by decide) (by decide), eσ1, gI_ne _ _ _ (by decide)]).symm (hp_19.2 (le_ch (Eq.refl _) (Eq.refl _) h9))
      refine lv_if_ne (tgt := 52) hx hb dX12_readFirst_44 (by decide) (fun c_21 => ?_) (fun c_21 => ?_)
      · refine lv_aload_n hx hb dX12_readFirst_52 rfl (lv_at hl 0 rfl) ?_
        have hF := gFree hD hS hA
        refine va_callvD hd0 (va_runV_D (As := []) (rest := []) ⟨hx, hb, hml, hown, hts⟩ (n_X12_next l dC dI ad cA adK adV H.size σ5 hIσ5 ) (cwV 0 hts gX12_readFirst_X12_next rfl rfl rfl (by decide +kernel) ⟨Nat.le_of_ble_eq_true rfl, Nat.le_of_ble_eq_true rfl⟩) ⟨gBlind, va_recv hK hP (ci := 11) (q0 := 0) rfl (mat_11 rfl), gStart (As := [.ref (ad 0)]) hP hD hK0 hT hS hF (d_18)⟩ rfl rfl hl.1 rfl (lv_room (Nat.le_of_ble_eq_true rfl)) dX12_readFirst_53 ⟨Nat.le_of_ble_eq_true rfl, Nat.le_of_ble_eq_true rfl⟩) hS (fun q _ h => hF q h) hF (fun σ8 t H locs ht hvm hw hB hz1 hk1 hS d_23 hd0 => ?_)
        have hts := dr_words hts0 (d_23)
        have hK := gKd hK0 (d_23)
        have hown : (s.setDrawn (d_23)).vm.findClass RX12 = some m.cls := hown0
        obtain ⟨hP, hD⟩ := gBack hF ht hB
        obtain ⟨hIσ8, fcσ8, hp_24⟩ := hw
        refine W.endD hd0 ?_
        exact W.vret hx hb hr (fun t ht hW => ⟨⟨σ8, rfl, ⟨hIσ8, (mFr.tr frσ5 fcσ8 (by decide) (by decide)), ⟨(le_ch (Eq.refl _) (show ((σ8 0).1 37 : Int32) = ((σ4 0).1 37 : Int32) from by rw [fcσ8.2 37 (by decide), eσ5, gI_ne _ _ _ (by decide)]) of_11), (SP.tr (SP.tr (SP.tr (SP.tr (SP.same (σ := σ) (τ := σ1) (by rw [eσ1, gI_ne _ _ _ (by decide)]) (by rw [eσ1, gI_ne _ _ _ (by decide)]) (by rw [eσ1, gI_ne _ _ _ (by decide)])) hp_7.1) hp_10.2.2.1) (SP.same (σ := σ4) (τ := σ5) (by rw [eσ5, gI_ne _ _ _ (by decide)]) (by rw [eσ5, gI_ne _ _ _ (by decide)]) (by rw [eσ5, gI_ne _ _ _ (by decide)]))) hp_24.1), (fun _ => (le_ch (show ((σ8 8).1 p0.toNatClampNeg : Int32) = (r_8 : Int32) from by rw [fcσ8.1 8 (by decide) (by decide), eσ5, gI_self]) (Eq.refl _) (im_20 (gl1 (b := 1) (ne_lt (b01_0 hp_19.1) c_21) (by decide))))), (fun j hj => (by rw [fcσ8.1 8 (by decide) (by decide), eσ5, gI_oth _ _ _ hj, fcσ4.1 8 (by decide) (by decide), fcσ3.1 8 (by decide) (by decide), eσ1, gI_oth _ _ _ hj]))⟩⟩, ⟨by rw [ht]; exact hP, hD⟩⟩, hS.F ht⟩) hS.2.2 dX12_readFirst_56
      · refine lv_aload_n hx hb dX12_readFirst_47 rfl (lv_at hl 0 rfl) ?_
        refine lv_iconst (v := 4) hx hb dX12_readFirst_48 (by decide) ?_
        have hF := gFree hD hS hA
        refine va_callvD hd0 (va_runV_D (As := [.int 4]) (rest := []) ⟨hx, hb, hml, hown, hts⟩ (n_X12_wrong l dC dI ad cA adK adV H.size σ5 hIσ5 4 (show (0 : Int32) < 4 by decide)) (cwV 1 hts gX12_readFirst_X12_wrong rfl rfl rfl (by decide +kernel) ⟨Nat.le_of_ble_eq_true rfl, Nat.le_of_ble_eq_true rfl⟩) ⟨gBlind, va_recv hK hP (ci := 11) (q0 := 0) rfl (mat_11 rfl), gStart (As := [.ref (ad 0), .int 4]) hP hD hK0 hT hS hF (d_18)⟩ rfl rfl hl.1 rfl (lv_room (Nat.le_of_ble_eq_true rfl)) dX12_readFirst_49 ⟨Nat.le_of_ble_eq_true rfl, Nat.le_of_ble_eq_true rfl⟩) hS (fun q _ h => hF q h) hF (fun σ9 t H locs ht hvm hw hB hz1 hk1 hS d_26 hd0 => ?_)
        have hts := dr_words hts0 (d_26)
        have hK := gKd hK0 (d_26)
        have hown : (s.setDrawn (d_26)).vm.findClass RX12 = some m.cls := hown0
        obtain ⟨hP, hD⟩ := gBack hF ht hB
        obtain ⟨hIσ9, fcσ9, hp_27⟩ := hw
        have of_28 : ((σ4 0).1 37 : Int32) ≤ ((σ9 0).1 37 : Int32) := le_ch (show ((σ5 0).1 37 : Int32) = ((σ4 0).1 37 : Int32) from by rw [eσ5, gI_ne _ _ _ (by decide)]).symm (Eq.refl _).symm hp_27.1
        refine lv_aload_n hx hb dX12_readFirst_52 rfl (lv_at hl 0 rfl) ?_
        have hF := gFree hD hS hA
        refine va_callvD hd0 (va_runV_D (As := []) (rest := []) ⟨hx, hb, hml, hown, hts⟩ (n_X12_next l dC dI ad cA adK adV H.size σ9 hIσ9 ) (cwV 0 hts gX12_readFirst_X12_next rfl rfl rfl (by decide +kernel) ⟨Nat.le_of_ble_eq_true rfl, Nat.le_of_ble_eq_true rfl⟩) ⟨gBlind, va_recv hK hP (ci := 11) (q0 := 0) rfl (mat_11 rfl), gStart (As := [.ref (ad 0)]) hP hD hK0 hT hS hF (d_26)⟩ rfl rfl hl.1 rfl (lv_room (Nat.le_of_ble_eq_true rfl)) dX12_readFirst_53 ⟨Nat.le_of_ble_eq_true rfl, Nat.le_of_ble_eq_true rfl⟩) hS (fun q _ h => hF q h) hF (fun σ10 t H locs ht hvm hw hB hz1 hk1 hS d_30 hd0 => ?_)
        have hts := dr_words hts0 (d_30)
        have hK := gKd hK0 (d_30)
        have hown : (s.setDrawn (d_30)).vm.findClass RX12 = some m.cls := hown0
        obtain ⟨hP, hD⟩ := gBack hF ht hB
        obtain ⟨hIσ10, fcσ10, hp_31⟩ := hw
        refine W.endD hd0 ?_
        exact W.vret hx hb hr (fun t ht hW => ⟨⟨σ10, rfl, ⟨hIσ10, (mFr.tr (mFr.tr frσ5 fcσ9 (by decide) (by decide)) fcσ10 (by decide) (by decide)), ⟨(le_ch (Eq.refl _) (show ((σ10 0).1 37 : Int32) = ((σ9 0).1 37 : Int32) from by rw [fcσ10.2 37 (by decide)]) (Int32.le_trans of_11 of_28)), (SP.tr (SP.tr (SP.tr (SP.tr (SP.tr (SP.same (σ := σ) (τ := σ1) (by rw [eσ1, gI_ne _ _ _ (by decide)]) (by rw [eσ1, gI_ne _ _ _ (by decide)]) (by rw [eσ1, gI_ne _ _ _ (by decide)])) hp_7.1) hp_10.2.2.1) (SP.same (σ := σ4) (τ := σ5) (by rw [eσ5, gI_ne _ _ _ (by decide)]) (by rw [eσ5, gI_ne _ _ _ (by decide)]) (by rw [eσ5, gI_ne _ _ _ (by decide)]))) hp_27.2.2) hp_31.1), (fun h9 => absurd h9 (Int32.not_le.mpr (lt_ch (Eq.refl _) (show ((σ10 0).1 37 : Int32) = ((σ9 0).1 37 : Int32) from by rw [fcσ10.2 37 (by decide)]) (Int32.lt_of_lt_of_le (show (0 : Int32) < 1 by decide) hp_27.2.1)))), (fun j hj => (by rw [fcσ10.1 8 (by decide) (by decide), fcσ9.1 8 (by decide) (by decide), eσ5, gI_oth _ _ _ hj, fcσ4.1 8 (by decide) (by decide), fcσ3.1 8 (by decide) (by decide), eσ1, gI_oth _ _ _ hj]))⟩⟩, ⟨by rw [ht]; exact hP, hD⟩⟩, hS.F ht⟩) hS.2.2 dX12_readFirst_56
  · refine W.endD hd0 ?_
    exact W.vret hx hb hr (fun t ht hW => ⟨⟨σ1, rfl, ⟨hIσ1, frσ1, ⟨(le_ch (Eq.refl _) (show ((σ1 0).1 37 : Int32) = ((σ 0).1 37 : Int32) from by rw [eσ1, gI_ne _ _ _ (by decide)]) (Int32.le_refl ((σ 0).1 37))), (SP.same (σ := σ) (τ := σ1) (by rw [eσ1, gI_ne _ _ _ (by decide)]) (by rw [eσ1, gI_ne _ _ _ (by decide)]) (by rw [eσ1, gI_ne _ _ _ (by decide)])), (fun h9 => (fun (h8 : ((σ 0).1 37 : Int32) ≤ (0 : Int32)) => (le_ch (show ((σ1 8).1 p0.toNatClampNeg : Int32) = (0 : Int32) from by rw [eσ1, gI_self]) (Eq.refl _) (Int32.le_of_lt (Int32.lt_of_lt_of_le (show (0 : Int32) < 19800101 by decide) (date_ge (hh3 h8)))))) (le_ch (show ((σ1 0).1 37 : Int32) = ((σ 0).1 37 : Int32) from by rw [eσ1, gI_ne _ _ _ (by decide)]).symm (Eq.refl _).symm h9)), (fun j hj => (by rw [eσ1, gI_oth _ _ _ hj]))⟩⟩, ⟨by rw [ht]; exact hP, hD⟩⟩, hS.F ht⟩) hS.2.2 dX12_readFirst_17
