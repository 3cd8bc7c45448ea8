set_option maxHeartbeats 8000000 in
set_option maxRecDepth 100000 in
theorem n_X12_holding (l : Launch) (dC : Nat → ClassId) (dI : Nat → Nat → Nat) (ad : Nat → Nat) (cA : Nat → ClassId) (adK adV : Nat → Nat) (sz : Nat) (σ : gs) (hI : InvM σ) (p0 : Int32) : MetD lw_cs l yX12_holding wsX12_holding ({ frames := 1, cells := 0, slots := 0, locals := 21 }) (va_Pc [.ref (ad 0), .int p0] (gPre adK adV (dC, dI) (wM ad cA σ) (tM cA) sz)) (va_Qi (fun (r : Int32) (τ : gs) => InvM τ ∧ mFr [] [0, 1, 2] σ τ ∧ (True)) (fun τ t => gPost (dC, dI) (va_A (wM ad cA σ) sz) (wM ad cA τ) t) (va_A (wM ad cA σ) sz)) 0 0 (va_A (wM ad cA σ) sz) := by
  refine MetD.ofW (cc := cX12_holding) (maxL := 2) (ret := (some .int)) (by decide) rfl ?_
  intro p e s m args below meth c s₁ B hml hv hd0
  obtain ⟨rfl, hsz, hP, hK, hD0, hT⟩ := hv
  have hx := B.exec
  have hb := B.bytes
  have hr := B.returns
  have hts0 := atoms_spec (ws := wsX12_holding) B.pre
  have hK0 := hK
  have hown0 : s.vm.findClass RX12 = some m.cls := findClass_of_methodNamed B.named
  have hlocks := B.notSynchronized
  have hinX12 : ∀ w ∈ u_ws RX12 TX12 69, w ∈ wsX12_holding := (fun _ h9 => List.mem_cons_of_mem _ (List.mem_append_right _ h9))
  subst hsz
  have hD := hD0.self (sz := s.heap.size)
  generalize hAe : va_A (wM ad cA σ) s.heap.size = A at hD hT ⊢
  have hA : ∀ q : Nat, s.heap.size ≤ q → A q := fun q h => by rw [← hAe]; exact Or.inr h
  have hS : va_S A s.heap s.heap [] := va_S.rf
  have hl := lv_entry ([.ref (ad 0), .int p0]) (n := 2) (Nat.le_of_ble_eq_true rfl)
  rw [lg_entry_eq]
  generalize (lg_sl ([.ref (ad 0), .int p0]) ++ List.replicate (2 - (lg_sl ([.ref (ad 0), .int p0])).length) Slot.unset).toArray = ls at hl ⊢
  have hl : lv_has ls 2 [(0, .ref (ad 0)), (1, .int p0)] := hl
  have hts := dr_words hts0 (s.drawn)
  have hK := gKd hK0 (s.drawn)
  have hown : (s.setDrawn (s.drawn)).vm.findClass RX12 = some m.cls := hown0
  refine lv_aload_n hx hb dX12_holding_0 rfl (lv_at hl 0 rfl) ?_
  refine lv_iconst (v := 0) hx hb dX12_holding_1 (by decide) ?_
  refine va_put (D := (dC, dI)) (ci := 11) (v := .int 0) (C := RX12) (T := TX12) (N := 69) hx hb hts hinX12 tyX12 tyX12_ok nmX12 hown hK hP hD hS 0 (mat_11 rfl) rfl 0 (by decide) (hts (.fieldLink RX12 107 "BondCalendarsModel" "thrown" "I") (by decide +kernel)) (fun _ h9 => h9) rfl (ty := .int) (by decide +kernel) rfl rfl (Nat.le_of_ble_eq_true rfl) dX12_holding_2 (fun H locs hP hD hS => ?_)
  obtain ⟨σ1, eσ1, hP, hD⟩ := gPut (mse_11_0 rfl) hP hD
  have hIσ1 : InvM σ1 := by rw [eσ1]; exact minv_I hI (mok_11_0 rfl _)
  have frσ1 : mFr [] [0, 1, 2] σ σ1 := by rw [eσ1]; exact mFr.oI (mFr.rfl (L := []) (F := [0, 1, 2]) (σ := σ)) (by decide)
  refine lv_aload_n hx hb dX12_holding_5 rfl (lv_at hl 0 rfl) ?_
  refine lv_iload_n hx hb dX12_holding_6 rfl (lv_at hl 1 rfl) ?_
  have hF := gFree hD hS hA
  refine va_calliD hd0 (va_runV_D (As := [.int p0]) (rest := []) ⟨hx, hb, hml, hown, hts⟩ (n_X12_isBond l dC dI ad cA adK adV H.size σ1 hIσ1 p0) (cwV 1 hts gX12_holding_X12_isBond rfl rfl rfl (by decide +kernel) ⟨Nat.le_of_ble_eq_true rfl, Nat.le_of_ble_eq_true rfl⟩) ⟨gBlind, va_recv hK hP (ci := 11) (q0 := 0) rfl (mat_11 rfl), gStart (As := [.ref (ad 0), .int p0]) hP hD hK0 hT hS hF (s.drawn)⟩ rfl rfl hl.1 rfl (lv_room (Nat.le_of_ble_eq_true rfl)) dX12_holding_7 ⟨Nat.le_of_ble_eq_true rfl, Nat.le_of_ble_eq_true rfl⟩) hS (fun q _ h => hF q h) hF (fun r_1 σ2 t H locs ht hvm hw hB hz1 hk1 hS d_2 hd0 => ?_)
  have hts := dr_words hts0 (d_2)
  have hK := gKd hK0 (d_2)
  have hown : (s.setDrawn (d_2)).vm.findClass RX12 = some m.cls := hown0
  obtain ⟨hP, hD⟩ := gBack hF ht hB
  obtain ⟨hIσ2, hro, hp_3⟩ := hw
  subst hro
  have bd_4 := mrd_11_20 (c := 0) hI rfl
  have im_5 : (1 : Int32) ≤ (r_1 : Int32) → (p0 : Int32) < ((σ 0).1 20 : Int32) := fun h9 => lt_ch (Eq.refl _).symm (show ((σ1 0).1 20 : Int32) = ((σ 0).1 20 : Int32) from by rw [eσ1, gI_oth _ _ _ (by decide)]).symm (hp_3.2.2 (le_ch (Eq.refl _) (Eq.refl _) h9))
  refine lv_if_ne (tgt := 19) hx hb dX12_holding_10 (by decide) (fun c_6 => ?_) (fun c_6 => ?_)
  · refine lv_aload_n hx hb dX12_holding_19 rfl (lv_at hl 0 rfl) ?_
    refine lv_aload_n hx hb dX12_holding_20 rfl (lv_at hl 0 rfl) ?_
    refine va_get (D := (dC, dI)) (ci := 11) (v := .ref (ad 25)) (C := RX12) (T := TX12) (N := 69) hx hb hts hinX12 hown hK hP 0 (mat_11 rfl) rfl 58 (by decide) (hts (.fieldLink RX12 89 "BondCalendarsModel" "held" "[I") (by decide +kernel)) (fun _ h9 => h9) rfl dX12_holding_21 ?_
    refine lv_iload_n hx hb dX12_holding_24 rfl (lv_at hl 1 rfl) ?_
    refine va_iald hx hb hK hP 25 25 (mat_65 rfl) (mty_65 rfl) (gin (N := 4) (by decide) ((hp_3.2.1) (gl1 (b := 1) (ne_lt (b01_0 hp_3.1) c_6) (by decide))) (Int32.lt_of_lt_of_le (im_5 (gl1 (b := 1) (ne_lt (b01_0 hp_3.1) c_6) (by decide))) bd_4.2)) dX12_holding_25 ?_
    refine lv_topi (fun x_7 ex_7 => ?_)
    have ex_7 : x_7 = ((σ 25).1 p0.toNatClampNeg) := by rw [ex_7, eσ1, gI_ne _ _ _ (by decide)]
    have hF := gFree hD hS hA
    refine va_calliD hd0 (va_runV_D (As := [.int x_7]) (rest := []) ⟨hx, hb, hml, hown, hts⟩ (n_X12_good l dC dI ad cA adK adV H.size σ1 hIσ1 x_7) (cwV 1 hts gX12_holding_X12_good rfl rfl rfl (by decide +kernel) ⟨Nat.le_of_ble_eq_true rfl, Nat.le_of_ble_eq_true rfl⟩) ⟨gBlind, va_recv hK hP (ci := 11) (q0 := 0) rfl (mat_11 rfl), gStart (As := [.ref (ad 0), .int x_7]) hP hD hK0 hT hS hF (d_2)⟩ rfl rfl hl.1 rfl (lv_room (Nat.le_of_ble_eq_true rfl)) dX12_holding_26 ⟨Nat.le_of_ble_eq_true rfl, Nat.le_of_ble_eq_true rfl⟩) hS (fun q _ h => hF q h) hF (fun r_8 σ3 t H locs ht hvm hw hB hz1 hk1 hS d_9 hd0 => ?_)
    have hts := dr_words hts0 (d_9)
    have hK := gKd hK0 (d_9)
    have hown : (s.setDrawn (d_9)).vm.findClass RX12 = some m.cls := hown0
    obtain ⟨hP, hD⟩ := gBack hF ht hB
    obtain ⟨hIσ3, fcσ3, hp_10⟩ := hw
    refine W.endD hd0 ?_
    exact W.iret (v := r_8) hx hb hr (fun t ht hW => ⟨⟨r_8, σ3, rfl, ⟨hIσ3, (mFr.tr frσ1 fcσ3 (by decide) (by decide)), trivial⟩, ⟨by rw [ht]; exact hP, hD⟩⟩, hS.F ht⟩) hS.2.2 dX12_holding_29
  · refine lv_aload_n hx hb dX12_holding_13 rfl (lv_at hl 0 rfl) ?_
    refine lv_iconst (v := 1) hx hb dX12_holding_14 (by decide) ?_
    have hF := gFree hD hS hA
    refine va_calliD hd0 (va_runV_D (As := [.int 1]) (rest := []) ⟨hx, hb, hml, hown, hts⟩ (n_X12_refused l dC dI ad cA adK adV H.size σ1 hIσ1 1) (cwV 1 hts gX12_holding_X12_refused rfl rfl rfl (by decide +kernel) ⟨Nat.le_of_ble_eq_true rfl, Nat.le_of_ble_eq_true rfl⟩) ⟨gBlind, va_recv hK hP (ci := 11) (q0 := 0) rfl (mat_11 rfl), gStart (As := [.ref (ad 0), .int 1]) hP hD hK0 hT hS hF (d_2)⟩ rfl rfl hl.1 rfl (lv_room (Nat.le_of_ble_eq_true rfl)) dX12_holding_15 ⟨Nat.le_of_ble_eq_true rfl, Nat.le_of_ble_eq_true rfl⟩) hS (fun q _ h => hF q h) hF (fun r_11 σ4 t H locs ht hvm hw hB hz1 hk1 hS d_12 hd0 => ?_)
    have hts := dr_words hts0 (d_12)
    have hK := gKd hK0 (d_12)
    have hown : (s.setDrawn (d_12)).vm.findClass RX12 = some m.cls := hown0
    obtain ⟨hP, hD⟩ := gBack hF ht hB
    obtain ⟨hIσ4, fcσ4, hp_13⟩ := hw
    refine W.endD hd0 ?_
    exact W.iret (v := r_11) hx hb hr (fun t ht hW => ⟨⟨r_11, σ4, rfl, ⟨hIσ4, (mFr.tr frσ1 fcσ4 (by decide) (by decide)), trivial⟩, ⟨by rw [ht]; exact hP, hD⟩⟩, hS.F ht⟩) hS.2.2 dX12_holding_18
set_option maxHeartbeats 8000000 in
set_option maxRecDepth 100000 in
theorem n_X12_bond (l : Launch) (dC : Nat → ClassId) (dI : Nat → Nat → Nat) (ad : Nat → Nat) (cA : Nat → ClassId) (adK adV : Nat → Nat) (sz : Nat) (σ : gs) (hI : InvM σ) (p0 : Int32) (p1 : Int32) : MetD lw_cs l yX12_bond wsX12_bond ({ frames := 1, cells := 0, slots := 0, locals := 21 }) (va_Pc [.ref (ad 0), .int p0, .int p1] (gPre adK adV (dC, dI) (wM ad cA σ) (tM cA) sz)) (va_Qi (fun (r : Int32) (τ : gs) => InvM τ ∧ mFr [] [0, 1, 2] σ τ ∧ (True)) (fun τ t => gPost (dC, dI) (va_A (wM ad cA σ) sz) (wM ad cA τ) t) (va_A (wM ad cA σ) sz)) 0 0 (va_A (wM ad cA σ) sz) := by
  refine MetD.ofW (cc := cX12_bond) (maxL := 3) (ret := (some .int)) (by decide) rfl ?_
  intro p e s m args below meth c s₁ B hml hv hd0
  obtain ⟨rfl, hsz, hP, hK, hD0, hT⟩ := hv
  have hx := B.exec
  have hb := B.bytes
  have hr := B.returns
  have hts0 := atoms_spec (ws := wsX12_bond) B.pre
  have hK0 := hK
  have hown0 : s.vm.findClass RX12 = some m.cls := findClass_of_methodNamed B.named
  have hlocks := B.notSynchronized
  have hinX12 : ∀ w ∈ u_ws RX12 TX12 69, w ∈ wsX12_bond := (fun _ h9 => List.mem_cons_of_mem _ (List.mem_append_right _ h9))
  subst hsz
  have hD := hD0.self (sz := s.heap.size)
  generalize hAe : va_A (wM ad cA σ) s.heap.size = A at hD hT ⊢
  have hA : ∀ q : Nat, s.heap.size ≤ q → A q := fun q h => by rw [← hAe]; exact Or.inr h
  have hS : va_S A s.heap s.heap [] := va_S.rf
  have hl := lv_entry ([.ref (ad 0), .int p0, .int p1]) (n := 3) (Nat.le_of_ble_eq_true rfl)
  rw [lg_entry_eq]
  generalize (lg_sl ([.ref (ad 0), .int p0, .int p1]) ++ List.replicate (3 - (lg_sl ([.ref (ad 0), .int p0, .int p1])).length) Slot.unset).toArray = ls at hl ⊢
  have hl : lv_has ls 3 [(0, .ref (ad 0)), (1, .int p0), (2, .int p1)] := hl
  have hts := dr_words hts0 (s.drawn)
  have hK := gKd hK0 (s.drawn)
  have hown : (s.setDrawn (s.drawn)).vm.findClass RX12 = some m.cls := hown0
  refine lv_aload_n hx hb dX12_bond_0 rfl (lv_at hl 0 rfl) ?_
  refine lv_iconst (v := 0) hx hb dX12_bond_1 (by decide) ?_
  refine va_put (D := (dC, dI)) (ci := 11) (v := .int 0) (C := RX12) (T := TX12) (N := 69) hx hb hts hinX12 tyX12 tyX12_ok nmX12 hown hK hP hD hS 0 (mat_11 rfl) rfl 0 (by decide) (hts (.fieldLink RX12 107 "BondCalendarsModel" "thrown" "I") (by decide +kernel)) (fun _ h9 => h9) rfl (ty := .int) (by decide +kernel) rfl rfl (Nat.le_of_ble_eq_true rfl) dX12_bond_2 (fun H locs hP hD hS => ?_)
  obtain ⟨σ1, eσ1, hP, hD⟩ := gPut (mse_11_0 rfl) hP hD
  have hIσ1 : InvM σ1 := by rw [eσ1]; exact minv_I hI (mok_11_0 rfl _)
  have frσ1 : mFr [] [0, 1, 2] σ σ1 := by rw [eσ1]; exact mFr.oI (mFr.rfl (L := []) (F := [0, 1, 2]) (σ := σ)) (by decide)
  refine lv_aload_n hx hb dX12_bond_5 rfl (lv_at hl 0 rfl) ?_
  refine lv_iload_n hx hb dX12_bond_6 rfl (lv_at hl 1 rfl) ?_
  have hF := gFree hD hS hA
  refine va_calliD hd0 (va_runV_D (As := [.int p0]) (rest := []) ⟨hx, hb, hml, hown, hts⟩ (n_X12_isBond l dC dI ad cA adK adV H.size σ1 hIσ1 p0) (cwV 1 hts gX12_bond_X12_isBond rfl rfl rfl (by decide +kernel) ⟨Nat.le_of_ble_eq_true rfl, Nat.le_of_ble_eq_true rfl⟩) ⟨gBlind, va_recv hK hP (ci := 11) (q0 := 0) rfl (mat_11 rfl), gStart (As := [.ref (ad 0), .int p0]) hP hD hK0 hT hS hF (s.drawn)⟩ rfl rfl hl.1 rfl (lv_room (Nat.le_of_ble_eq_true rfl)) dX12_bond_7 ⟨Nat.le_of_ble_eq_true rfl, Nat.le_of_ble_eq_true rfl⟩) hS (fun q _ h => hF q h) hF (fun r_1 σ2 t H locs ht hvm hw hB hz1 hk1 hS d_2 hd0 => ?_)
  have hts := dr_words hts0 (d_2)
  have hK := gKd hK0 (d_2)
  have hown : (s.setDrawn (d_2)).vm.findClass RX12 = some m.cls := hown0
  obtain ⟨hP, hD⟩ := gBack hF ht hB
  obtain ⟨hIσ2, hro, hp_3⟩ := hw
  subst hro
  have bd_4 := mrd_11_20 (c := 0) hI rfl
  have im_5 : (1 : Int32) ≤ (r_1 : Int32) → (p0 : Int32) < ((σ 0).1 20 : Int32) := fun h9 => lt_ch (Eq.refl _).symm (show ((σ1 0).1 20 : Int32) = ((σ 0).1 20 : Int32) from by rw [eσ1, gI_oth _ _ _ (by decide)]).symm (hp_3.2.2 (le_ch (Eq.refl _) (Eq.refl _) h9))
  refine lv_if_ne (tgt := 19) hx hb dX12_bond_10 (by decide) (fun c_6 => ?_) (fun c_6 => ?_)
  · refine lv_iload_n hx hb dX12_bond_19 rfl (lv_at hl 2 rfl) ?_
    by_cases c_7 : p1 = 0
    · refine lv_tableIn (tgt := 72) hx hb dX12_bond_20 (by rw [c_7]; decide) (by rw [c_7]; decide) (by rw [c_7]; rfl) (by decide) ?_
      refine lv_aload_n hx hb dX12_bond_72 rfl (lv_at hl 0 rfl) ?_
      refine lv_aload_n hx hb dX12_bond_73 rfl (lv_at hl 0 rfl) ?_
      refine va_get (D := (dC, dI)) (ci := 11) (v := .ref (ad 1)) (C := RX12) (T := TX12) (N := 69) hx hb hts hinX12 hown hK hP 0 (mat_11 rfl) rfl 5 (by decide) (hts (.fieldLink RX12 13 "BondCalendarsModel" "rate" "[I") (by decide +kernel)) (fun _ h9 => h9) rfl dX12_bond_74 ?_
      refine lv_iload_n hx hb dX12_bond_77 rfl (lv_at hl 1 rfl) ?_
      refine va_iald hx hb hK hP 1 1 (mat_41 rfl) (mty_41 rfl) (gin (N := 8) (by decide) ((hp_3.2.1) (gl1 (b := 1) (ne_lt (b01_0 hp_3.1) c_6) (by decide))) (Int32.lt_trans (Int32.lt_of_lt_of_le (im_5 (gl1 (b := 1) (ne_lt (b01_0 hp_3.1) c_6) (by decide))) bd_4.2) (show (4 : Int32) < 8 by decide))) dX12_bond_78 ?_
      refine lv_topi (fun x_8 ex_8 => ?_)
      have ex_8 : x_8 = ((σ 1).1 p0.toNatClampNeg) := by rw [ex_8, eσ1, gI_ne _ _ _ (by decide)]
      have hF := gFree hD hS hA
      refine va_calliD hd0 (va_runV_D (As := [.int x_8]) (rest := []) ⟨hx, hb, hml, hown, hts⟩ (n_X12_good l dC dI ad cA adK adV H.size σ1 hIσ1 x_8) (cwV 1 hts gX12_bond_X12_good rfl rfl rfl (by decide +kernel) ⟨Nat.le_of_ble_eq_true rfl, Nat.le_of_ble_eq_true rfl⟩) ⟨gBlind, va_recv hK hP (ci := 11) (q0 := 0) rfl (mat_11 rfl), gStart (As := [.ref (ad 0), .int x_8]) hP hD hK0 hT hS hF (d_2)⟩ rfl rfl hl.1 rfl (lv_room (Nat.le_of_ble_eq_true rfl)) dX12_bond_79 ⟨Nat.le_of_ble_eq_true rfl, Nat.le_of_ble_eq_true rfl⟩) hS (fun q _ h => hF q h) hF (fun r_9 σ3 t H locs ht hvm hw hB hz1 hk1 hS d_10 hd0 => ?_)
      have hts := dr_words hts0 (d_10)
      have hK := gKd hK0 (d_10)
      have hown : (s.setDrawn (d_10)).vm.findClass RX12 = some m.cls := hown0
      obtain ⟨hP, hD⟩ := gBack hF ht hB
      obtain ⟨hIσ3, fcσ3, hp_11⟩ := hw
      refine W.endD hd0 ?_
      exact W.iret (v := r_9) hx hb hr (fun t ht hW => ⟨⟨r_9, σ3, rfl, ⟨hIσ3, (mFr.tr frσ1 fcσ3 (by decide) (by decide)), trivial⟩, ⟨by rw [ht]; exact hP, hD⟩⟩, hS.F ht⟩) hS.2.2 dX12_bond_82
    by_cases c_12 : p1 = 1
    · refine lv_tableIn (tgt := 83) hx hb dX12_bond_20 (by rw [c_12]; decide) (by rw [c_12]; decide) (by rw [c_12]; rfl) (by decide) ?_
      refine lv_aload_n hx hb dX12_bond_83 rfl (lv_at hl 0 rfl) ?_
      refine lv_aload_n hx hb dX12_bond_84 rfl (lv_at hl 0 rfl) ?_
      refine va_get (D := (dC, dI)) (ci := 11) (v := .ref (ad 2)) (C := RX12) (T := TX12) (N := 69) hx hb hts hinX12 hown hK hP 0 (mat_11 rfl) rfl 6 (by decide) (hts (.fieldLink RX12 17 "BondCalendarsModel" "often" "[I") (by decide +kernel)) (fun _ h9 => h9) rfl dX12_bond_85 ?_
      refine lv_iload_n hx hb dX12_bond_88 rfl (lv_at hl 1 rfl) ?_
      refine va_iald hx hb hK hP 2 2 (mat_42 rfl) (mty_42 rfl) (gin (N := 8) (by decide) ((hp_3.2.1) (gl1 (b := 1) (ne_lt (b01_0 hp_3.1) c_6) (by decide))) (Int32.lt_trans (Int32.lt_of_lt_of_le (im_5 (gl1 (b := 1) (ne_lt (b01_0 hp_3.1) c_6) (by decide))) bd_4.2) (show (4 : Int32) < 8 by decide))) dX12_bond_89 ?_
      refine lv_topi (fun x_13 ex_13 => ?_)
      have ex_13 : x_13 = ((σ 2).1 p0.toNatClampNeg) := by rw [ex_13, eσ1, gI_ne _ _ _ (by decide)]
      have hF := gFree hD hS hA
      refine va_calliD hd0 (va_runV_D (As := [.int x_13]) (rest := []) ⟨hx, hb, hml, hown, hts⟩ (n_X12_good l dC dI ad cA adK adV H.size σ1 hIσ1 x_13) (cwV 1 hts gX12_bond_X12_good rfl rfl rfl (by decide +kernel) ⟨Nat.le_of_ble_eq_true rfl, Nat.le_of_ble_eq_true rfl⟩) ⟨gBlind, va_recv hK hP (ci := 11) (q0 := 0) rfl (mat_11 rfl), gStart (As := [.ref (ad 0), .int x_13]) hP hD hK0 hT hS hF (d_2)⟩ rfl rfl hl.1 rfl (lv_room (Nat.le_of_ble_eq_true rfl)) dX12_bond_90 ⟨Nat.le_of_ble_eq_true rfl, Nat.le_of_ble_eq_true rfl⟩) hS (fun q _ h => hF q h) hF (fun r_14 σ4 t H locs ht hvm hw hB hz1 hk1 hS d_15 hd0 => ?_)
      have hts := dr_words hts0 (d_15)
      have hK := gKd hK0 (d_15)
      have hown : (s.setDrawn (d_15)).vm.findClass RX12 = some m.cls := hown0
      obtain ⟨hP, hD⟩ := gBack hF ht hB
      obtain ⟨hIσ4, fcσ4, hp_16⟩ := hw
      refine W.endD hd0 ?_
      exact W.iret (v := r_14) hx hb hr (fun t ht hW => ⟨⟨r_14, σ4, rfl, ⟨hIσ4, (mFr.tr frσ1 fcσ4 (by decide) (by decide)), trivial⟩, ⟨by rw [ht]; exact hP, hD⟩⟩, hS.F ht⟩) hS.2.2 dX12_bond_93
    by_cases c_17 : p1 = 2
    · refine lv_tableIn (tgt := 94) hx hb dX12_bond_20 (by rw [c_17]; decide) (by rw [c_17]; decide) (by rw [c_17]; rfl) (by decide) ?_
      refine lv_aload_n hx hb dX12_bond_94 rfl (lv_at hl 0 rfl) ?_
      refine lv_aload_n hx hb dX12_bond_95 rfl (lv_at hl 0 rfl) ?_
      refine va_get (D := (dC, dI)) (ci := 11) (v := .ref (ad 3)) (C := RX12) (T := TX12) (N := 69) hx hb hts hinX12 hown hK hP 0 (mat_11 rfl) rfl 7 (by decide) (hts (.fieldLink RX12 20 "BondCalendarsModel" "rule" "[I") (by decide +kernel)) (fun _ h9 => h9) rfl dX12_bond_96 ?_
      refine lv_iload_n hx hb dX12_bond_99 rfl (lv_at hl 1 rfl) ?_
      refine va_iald hx hb hK hP 3 3 (mat_43 rfl) (mty_43 rfl) (gin (N := 8) (by decide) ((hp_3.2.1) (gl1 (b := 1) (ne_lt (b01_0 hp_3.1) c_6) (by decide))) (Int32.lt_trans (Int32.lt_of_lt_of_le (im_5 (gl1 (b := 1) (ne_lt (b01_0 hp_3.1) c_6) (by decide))) bd_4.2) (show (4 : Int32) < 8 by decide))) dX12_bond_100 ?_
      refine lv_topi (fun x_18 ex_18 => ?_)
      have ex_18 : x_18 = ((σ 3).1 p0.toNatClampNeg) := by rw [ex_18, eσ1, gI_ne _ _ _ (by decide)]
      have hF := gFree hD hS hA
      refine va_calliD hd0 (va_runV_D (As := [.int x_18]) (rest := []) ⟨hx, hb, hml, hown, hts⟩ (n_X12_good l dC dI ad cA adK adV H.size σ1 hIσ1 x_18) (cwV 1 hts gX12_bond_X12_good rfl rfl rfl (by decide +kernel) ⟨Nat.le_of_ble_eq_true rfl, Nat.le_of_ble_eq_true rfl⟩) ⟨gBlind, va_recv hK hP (ci := 11) (q0 := 0) rfl (mat_11 rfl), gStart (As := [.ref (ad 0), .int x_18]) hP hD hK0 hT hS hF (d_2)⟩ rfl rfl hl.1 rfl (lv_room (Nat.le_of_ble_eq_true rfl)) dX12_bond_101 ⟨Nat.le_of_ble_eq_true rfl, Nat.le_of_ble_eq_true rfl⟩) hS (fun q _ h => hF q h) hF (fun r_19 σ5 t H locs ht hvm hw hB hz1 hk1 hS d_20 hd0 => ?_)
      have hts := dr_words hts0 (d_20)
      have hK := gKd hK0 (d_20)
      have hown : (s.setDrawn (d_20)).vm.findClass RX12 = some m.cls := hown0
      obtain ⟨hP, hD⟩ := gBack hF ht hB
      obtain ⟨hIσ5, fcσ5, hp_21⟩ := hw
      refine W.endD hd0 ?_
      exact W.iret (v := r_19) hx hb hr (fun t ht hW => ⟨⟨r_19, σ5, rfl, ⟨hIσ5, (mFr.tr frσ1 fcσ5 (by decide) (by decide)), trivial⟩, ⟨by rw [ht]; exact hP, hD⟩⟩, hS.F ht⟩) hS.2.2 dX12_bond_104
    by_cases c_22 : p1 = 3
    · refine lv_tableIn (tgt := 105) hx hb dX12_bond_20 (by rw [c_22]; decide) (by rw [c_22]; decide) (by rw [c_22]; rfl) (by decide) ?_
      refine lv_aload_n hx hb dX12_bond_105 rfl (lv_at hl 0 rfl) ?_
      refine lv_aload_n hx hb dX12_bond_106 rfl (lv_at hl 0 rfl) ?_
      refine va_get (D := (dC, dI)) (ci := 11) (v := .ref (ad 4)) (C := RX12) (T := TX12) (N := 69) hx hb hts hinX12 hown hK hP 0 (mat_11 rfl) rfl 8 (by decide) (hts (.fieldLink RX12 23 "BondCalendarsModel" "mature" "[I") (by decide +kernel)) (fun _ h9 => h9) rfl dX12_bond_107 ?_
      refine lv_iload_n hx hb dX12_bond_110 rfl (lv_at hl 1 rfl) ?_
      refine va_iald hx hb hK hP 4 4 (mat_44 rfl) (mty_44 rfl) (gin (N := 8) (by decide) ((hp_3.2.1) (gl1 (b := 1) (ne_lt (b01_0 hp_3.1) c_6) (by decide))) (Int32.lt_trans (Int32.lt_of_lt_of_le (im_5 (gl1 (b := 1) (ne_lt (b01_0 hp_3.1) c_6) (by decide))) bd_4.2) (show (4 : Int32) < 8 by decide))) dX12_bond_111 ?_
      refine lv_topi (fun x_23 ex_23 => ?_)
      have ex_23 : x_23 = ((σ 4).1 p0.toNatClampNeg) := by rw [ex_23, eσ1, gI_ne _ _ _ (by decide)]
      have hF := gFree hD hS hA
      refine va_calliD hd0 (va_runV_D (As := [.int x_23]) (rest := []) ⟨hx, hb, hml, hown, hts⟩ (n_X12_good l dC dI ad cA adK adV H.size σ1 hIσ1 x_23) (cwV 1 hts gX12_bond_X12_good rfl rfl rfl (by decide +kernel) ⟨Nat.le_of_ble_eq_true rfl, Nat.le_of_ble_eq_true rfl⟩) ⟨gBlind, va_recv hK hP (ci := 11) (q0 := 0) rfl (mat_11 rfl), gStart (As := [.ref (ad 0), .int x_23]) hP hD hK0 hT hS hF (d_2)⟩ rfl rfl hl.1 rfl (lv_room (Nat.le_of_ble_eq_true rfl)) dX12_bond_112 ⟨Nat.le_of_ble_eq_true rfl, Nat.le_of_ble_eq_true rfl⟩) hS (fun q _ h => hF q h) hF (fun r_24 σ6 t H locs ht hvm hw hB hz1 hk1 hS d_25 hd0 => ?_)
      have hts := dr_words hts0 (d_25)
      have hK := gKd hK0 (d_25)
      have hown : (s.setDrawn (d_25)).vm.findClass RX12 = some m.cls := hown0
      obtain ⟨hP, hD⟩ := gBack hF ht hB
      obtain ⟨hIσ6, fcσ6, hp_26⟩ := hw
      refine W.endD hd0 ?_
      exact W.iret (v := r_24) hx hb hr (fun t ht hW => ⟨⟨r_24, σ6, rfl, ⟨hIσ6, (mFr.tr frσ1 fcσ6 (by decide) (by decide)), trivial⟩, ⟨by rw [ht]; exact hP, hD⟩⟩, hS.F ht⟩) hS.2.2 dX12_bond_115
    by_cases c_27 : p1 = 4
    · refine lv_tableIn (tgt := 116) hx hb dX12_bond_20 (by rw [c_27]; decide) (by rw [c_27]; decide) (by rw [c_27]; rfl) (by decide) ?_
      refine lv_aload_n hx hb dX12_bond_116 rfl (lv_at hl 0 rfl) ?_
      refine lv_aload_n hx hb dX12_bond_117 rfl (lv_at hl 0 rfl) ?_
      refine va_get (D := (dC, dI)) (ci := 11) (v := .ref (ad 5)) (C := RX12) (T := TX12) (N := 69) hx hb hts hinX12 hown hK hP 0 (mat_11 rfl) rfl 9 (by decide) (hts (.fieldLink RX12 26 "BondCalendarsModel" "anchor" "[I") (by decide +kernel)) (fun _ h9 => h9) rfl dX12_bond_118 ?_
      refine lv_iload_n hx hb dX12_bond_121 rfl (lv_at hl 1 rfl) ?_
      refine va_iald hx hb hK hP 5 5 (mat_45 rfl) (mty_45 rfl) (gin (N := 8) (by decide) ((hp_3.2.1) (gl1 (b := 1) (ne_lt (b01_0 hp_3.1) c_6) (by decide))) (Int32.lt_trans (Int32.lt_of_lt_of_le (im_5 (gl1 (b := 1) (ne_lt (b01_0 hp_3.1) c_6) (by decide))) bd_4.2) (show (4 : Int32) < 8 by decide))) dX12_bond_122 ?_
      refine lv_topi (fun x_28 ex_28 => ?_)
      have ex_28 : x_28 = ((σ 5).1 p0.toNatClampNeg) := by rw [ex_28, eσ1, gI_ne _ _ _ (by decide)]
      have hF := gFree hD hS hA
      refine va_calliD hd0 (va_runV_D (As := [.int x_28]) (rest := []) ⟨hx, hb, hml, hown, hts⟩ (n_X12_good l dC dI ad cA adK adV H.size σ1 hIσ1 x_28) (cwV 1 hts gX12_bond_X12_good rfl rfl rfl (by decide +kernel) ⟨Nat.le_of_ble_eq_true rfl, Nat.le_of_ble_eq_true rfl⟩) ⟨gBlind, va_recv hK hP (ci := 11) (q0 := 0) rfl (mat_11 rfl), gStart (As := [.ref (ad 0), .int x_28]) hP hD hK0 hT hS hF (d_2)⟩ rfl rfl hl.1 rfl (lv_room (Nat.le_of_ble_eq_true rfl)) dX12_bond_123 ⟨Nat.le_of_ble_eq_true rfl, Nat.le_of_ble_eq_true rfl⟩) hS (fun q _ h => hF q h) hF (fun r_29 σ7 t H locs ht hvm hw hB hz1 hk1 hS d_30 hd0 => ?_)
      have hts := dr_words hts0 (d_30)
      have hK := gKd hK0 (d_30)
      have hown : (s.setDrawn (d_30)).vm.findClass RX12 = some m.cls := hown0
      obtain ⟨hP, hD⟩ := gBack hF ht hB
      obtain ⟨hIσ7, fcσ7, hp_31⟩ := hw
      refine W.endD hd0 ?_
      exact W.iret (v := r_29) hx hb hr (fun t ht hW => ⟨⟨r_29, σ7, rfl, ⟨hIσ7, (mFr.tr frσ1 fcσ7 (by decide) (by decide)), trivial⟩, ⟨by rw [ht]; exact hP, hD⟩⟩, hS.F ht⟩) hS.2.2 dX12_bond_126
    by_cases c_32 : p1 = 5
    · refine lv_tableIn (tgt := 127) hx hb dX12_bond_20 (by rw [c_32]; decide) (by rw [c_32]; decide) (by rw [c_32]; rfl) (by decide) ?_
      refine lv_aload_n hx hb dX12_bond_127 rfl (lv_at hl 0 rfl) ?_
      refine lv_aload_n hx hb dX12_bond_128 rfl (lv_at hl 0 rfl) ?_
      refine va_get (D := (dC, dI)) (ci := 11) (v := .ref (ad 6)) (C := RX12) (T := TX12) (N := 69) hx hb hts hinX12 hown hK hP 0 (mat_11 rfl) rfl 10 (by decide) (hts (.fieldLink RX12 29 "BondCalendarsModel" "issue" "[I") (by decide +kernel)) (fun _ h9 => h9) rfl dX12_bond_129 ?_
      refine lv_iload_n hx hb dX12_bond_132 rfl (lv_at hl 1 rfl) ?_
      refine va_iald hx hb hK hP 6 6 (mat_46 rfl) (mty_46 rfl) (gin (N := 8) (by decide) ((hp_3.2.1) (gl1 (b := 1) (ne_lt (b01_0 hp_3.1) c_6) (by decide))) (Int32.lt_trans (Int32.lt_of_lt_of_le (im_5 (gl1 (b := 1) (ne_lt (b01_0 hp_3.1) c_6) (by decide))) bd_4.2) (show (4 : Int32) < 8 by decide))) dX12_bond_133 ?_
      refine lv_topi (fun x_33 ex_33 => ?_)
      have ex_33 : x_33 = ((σ 6).1 p0.toNatClampNeg) := by rw [ex_33, eσ1, gI_ne _ _ _ (by decide)]
      have hF := gFree hD hS hA
      refine va_calliD hd0 (va_runV_D (As := [.int x_33]) (rest := []) ⟨hx, hb, hml, hown, hts⟩ (n_X12_good l dC dI ad cA adK adV H.size σ1 hIσ1 x_33) (cwV 1 hts gX12_bond_X12_good rfl rfl rfl (by decide +kernel) ⟨Nat.le_of_ble_eq_true rfl, Nat.le_of_ble_eq_true rfl⟩) ⟨gBlind, va_recv hK hP (ci := 11) (q0 := 0) rfl (mat_11 rfl), gStart (As := [.ref (ad 0), .int x_33]) hP hD hK0 hT hS hF (d_2)⟩ rfl rfl hl.1 rfl (lv_room (Nat.le_of_ble_eq_true rfl)) dX12_bond_134 ⟨Nat.le_of_ble_eq_true rfl, Nat.le_of_ble_eq_true rfl⟩) hS (fun q _ h => hF q h) hF (fun r_34 σ8 t H locs ht hvm hw hB hz1 hk1 hS d_35 hd0 => ?_)
      have hts := dr_words hts0 (d_35)
      have hK := gKd hK0 (d_35)
      have hown : (s.setDrawn (d_35)).vm.findClass RX12 = some m.cls := hown0
      obtain ⟨hP, hD⟩ := gBack hF ht hB
      obtain ⟨hIσ8, fcσ8, hp_36⟩ := hw
      refine W.endD hd0 ?_
      exact W.iret (v := r_34) hx hb hr (fun t ht hW => ⟨⟨r_34, σ8, rfl, ⟨hIσ8, (mFr.tr frσ1 fcσ8 (by decide) (by decide)), trivial⟩, ⟨by rw [ht]; exact hP, hD⟩⟩, hS.F ht⟩) hS.2.2 dX12_bond_137
    by_cases c_37 : p1 = 6
    · refine lv_tableIn (tgt := 138) hx hb dX12_bond_20 (by rw [c_37]; decide) (by rw [c_37]; decide) (by rw [c_37]; rfl) (by decide) ?_
      refine lv_aload_n hx hb dX12_bond_138 rfl (lv_at hl 0 rfl) ?_
      refine lv_aload_n hx hb dX12_bond_139 rfl (lv_at hl 0 rfl) ?_
      refine va_get (D := (dC, dI)) (ci := 11) (v := .ref (ad 10)) (C := RX12) (T := TX12) (N := 69) hx hb hts hinX12 hown hK hP 0 (mat_11 rfl) rfl 14 (by decide) (hts (.fieldLink RX12 41 "BondCalendarsModel" "eom" "[Z") (by decide +kernel)) (fun _ h9 => h9) rfl dX12_bond_140 ?_
      refine lv_iload_n hx hb dX12_bond_143 rfl (lv_at hl 1 rfl) ?_
      refine va_zald hx hb hK hP 10 10 (mat_50 rfl) (mty_50 rfl) (gin (N := 8) (by decide) ((hp_3.2.1) (gl1 (b := 1) (ne_lt (b01_0 hp_3.1) c_6) (by decide))) (Int32.lt_trans (Int32.lt_of_lt_of_le (im_5 (gl1 (b := 1) (ne_lt (b01_0 hp_3.1) c_6) (by decide))) bd_4.2) (show (4 : Int32) < 8 by decide))) dX12_bond_144 ?_
      refine lv_topi (fun x_38 ex_38 => ?_)
      have ex_38 : x_38 = ((σ 10).1 p0.toNatClampNeg) := by rw [ex_38, eσ1, gI_ne _ _ _ (by decide)]
      refine lv_if_eq (tgt := 152) hx hb dX12_bond_145 (by decide) (fun c_39 => ?_) (fun c_39 => ?_)
      · refine lv_iconst (v := 0) hx hb dX12_bond_152 (by decide) ?_
        have hF := gFree hD hS hA
        refine va_calliD hd0 (va_runV_D (As := [.int 0]) (rest := []) ⟨hx, hb, hml, hown, hts⟩ (n_X12_good l dC dI ad cA adK adV H.size σ1 hIσ1 0) (cwV 1 hts gX12_bond_X12_good rfl rfl rfl (by decide +kernel) ⟨Nat.le_of_ble_eq_true rfl, Nat.le_of_ble_eq_true rfl⟩) ⟨gBlind, va_recv hK hP (ci := 11) (q0 := 0) rfl (mat_11 rfl), gStart (As := [.ref (ad 0), .int 0]) hP hD hK0 hT hS hF (d_2)⟩ rfl rfl hl.1 rfl (lv_room (Nat.le_of_ble_eq_true rfl)) dX12_bond_153 ⟨Nat.le_of_ble_eq_true rfl, Nat.le_of_ble_eq_true rfl⟩) hS (fun q _ h => hF q h) hF (fun r_40 σ9 t H locs ht hvm hw hB hz1 hk1 hS d_41 hd0 => ?_)
        have hts := dr_words hts0 (d_41)
        have hK := gKd hK0 (d_41)
        have hown : (s.setDrawn (d_41)).vm.findClass RX12 = some m.cls := hown0
        obtain ⟨hP, hD⟩ := gBack hF ht hB
        obtain ⟨hIσ9, fcσ9, hp_42⟩ := hw
        refine W.endD hd0 ?_
        exact W.iret (v := r_40) hx hb hr (fun t ht hW => ⟨⟨r_40, σ9, rfl, ⟨hIσ9, (mFr.tr frσ1 fcσ9 (by decide) (by decide)), trivial⟩, ⟨by rw [ht]; exact hP, hD⟩⟩, hS.F ht⟩) hS.2.2 dX12_bond_156
      · refine lv_iconst (v := 1) hx hb dX12_bond_148 (by decide) ?_
        refine lv_goto (tgt := 153) hx hb dX12_bond_149 (by decide) ?_
        have hF := gFree hD hS hA
        refine va_calliD hd0 (va_runV_D (As := [.int 1]) (rest := []) ⟨hx, hb, hml, hown, hts⟩ (n_X12_good l dC dI ad cA adK adV H.size σ1 hIσ1 1) (cwV 1 hts gX12_bond_X12_good rfl rfl rfl (by decide +kernel) ⟨Nat.le_of_ble_eq_true rfl, Nat.le_of_ble_eq_true rfl⟩) ⟨gBlind, va_recv hK hP (ci := 11) (q0 := 0) rfl (mat_11 rfl), gStart (As := [.ref (ad 0), .int 1]) hP hD hK0 hT hS hF (d_2)⟩ rfl rfl hl.1 rfl (lv_room (Nat.le_of_ble_eq_true rfl)) dX12_bond_153 ⟨Nat.le_of_ble_eq_true rfl, Nat.le_of_ble_eq_true rfl⟩) hS (fun q _ h => hF q h) hF (fun r_43 σ10 t H locs ht hvm hw hB hz1 hk1 hS d_44 hd0 => ?_)
        have hts := dr_words hts0 (d_44)
        have hK := gKd hK0 (d_44)
        have hown : (s.setDrawn (d_44)).vm.findClass RX12 = some m.cls := hown0
        obtain ⟨hP, hD⟩ := gBack hF ht hB
        obtain ⟨hIσ10, fcσ10, hp_45⟩ := hw
        refine W.endD hd0 ?_
        exact W.iret (v := r_43) hx hb hr (fun t ht hW => ⟨⟨r_43, σ10, rfl, ⟨hIσ10, (mFr.tr frσ1 fcσ10 (by decide) (by decide)), trivial⟩, ⟨by rw [ht]; exact hP, hD⟩⟩, hS.F ht⟩) hS.2.2 dX12_bond_156
    by_cases c_46 : p1 = 7
    · refine lv_tableIn (tgt := 157) hx hb dX12_bond_20 (by rw [c_46]; decide) (by rw [c_46]; decide) (by rw [c_46]; rfl) (by decide) ?_
      refine lv_aload_n hx hb dX12_bond_157 rfl (lv_at hl 0 rfl) ?_
      refine lv_aload_n hx hb dX12_bond_158 rfl (lv_at hl 0 rfl) ?_
      refine va_get (D := (dC, dI)) (ci := 11) (v := .ref (ad 7)) (C := RX12) (T := TX12) (N := 69) hx hb hts hinX12 hown hK hP 0 (mat_11 rfl) rfl 11 (by decide) (hts (.fieldLink RX12 32 "BondCalendarsModel" "ex" "[I") (by decide +kernel)) (fun _ h9 => h9) rfl dX12_bond_159 ?_
      refine lv_iload_n hx hb dX12_bond_162 rfl (lv_at hl 1 rfl) ?_
      refine va_iald hx hb hK hP 7 7 (mat_47 rfl) (mty_47 rfl) (gin (N := 8) (by decide) ((hp_3.2.1) (gl1 (b := 1) (ne_lt (b01_0 hp_3.1) c_6) (by decide))) (Int32.lt_trans (Int32.lt_of_lt_of_le (im_5 (gl1 (b := 1) (ne_lt (b01_0 hp_3.1) c_6) (by decide))) bd_4.2) (show (4 : Int32) < 8 by decide))) dX12_bond_163 ?_
      refine lv_topi (fun x_47 ex_47 => ?_)
      have ex_47 : x_47 = ((σ 7).1 p0.toNatClampNeg) := by rw [ex_47, eσ1, gI_ne _ _ _ (by decide)]
      have hF := gFree hD hS hA
      refine va_calliD hd0 (va_runV_D (As := [.int x_47]) (rest := []) ⟨hx, hb, hml, hown, hts⟩ (n_X12_good l dC dI ad cA adK adV H.size σ1 hIσ1 x_47) (cwV 1 hts gX12_bond_X12_good rfl rfl rfl (by decide +kernel) ⟨Nat.le_of_ble_eq_true rfl, Nat.le_of_ble_eq_true rfl⟩) ⟨gBlind, va_recv hK hP (ci := 11) (q0 := 0) rfl (mat_11 rfl), gStart (As := [.ref (ad 0), .int x_47]) hP hD hK0 hT hS hF (d_2)⟩ rfl rfl hl.1 rfl (lv_room (Nat.le_of_ble_eq_true rfl)) dX12_bond_164 ⟨Nat.le_of_ble_eq_true rfl, Nat.le_of_ble_eq_true rfl⟩) hS (fun q _ h => hF q h) hF (fun r_48 σ11 t H locs ht hvm hw hB hz1 hk1 hS d_49 hd0 => ?_)
      have hts := dr_words hts0 (d_49)
      have hK := gKd hK0 (d_49)
      have hown : (s.setDrawn (d_49)).vm.findClass RX12 = some m.cls := hown0
      obtain ⟨hP, hD⟩ := gBack hF ht hB
      obtain ⟨hIσ11, fcσ11, hp_50⟩ := hw
      refine W.endD hd0 ?_
      exact W.iret (v := r_48) hx hb hr (fun t ht hW => ⟨⟨r_48, σ11, rfl, ⟨hIσ11, (mFr.tr frσ1 fcσ11 (by decide) (by decide)), trivial⟩, ⟨by rw [ht]; exact hP, hD⟩⟩, hS.F ht⟩) hS.2.2 dX12_bond_167
    by_cases c_51 : p1 = 8
    · refine lv_tableIn (tgt := 168) hx hb dX12_bond_20 (by rw [c_51]; decide) (by rw [c_51]; decide) (by rw [c_51]; rfl) (by decide) ?_
      refine lv_aload_n hx hb dX12_bond_168 rfl (lv_at hl 0 rfl) ?_
      refine lv_aload_n hx hb dX12_bond_169 rfl (lv_at hl 0 rfl) ?_
      refine va_get (D := (dC, dI)) (ci := 11) (v := .ref (ad 17)) (C := RX12) (T := TX12) (N := 69) hx hb hts hinX12 hown hK hP 0 (mat_11 rfl) rfl 39 (by decide) (hts (.fieldLink RX12 64 "BondCalendarsModel" "periodMany" "[I") (by decide +kernel)) (fun _ h9 => h9) rfl dX12_bond_170 ?_
      refine lv_iload_n hx hb dX12_bond_173 rfl (lv_at hl 1 rfl) ?_
      refine va_iald hx hb hK hP 17 17 (mat_57 rfl) (mty_57 rfl) (gin (N := 4) (by decide) ((hp_3.2.1) (gl1 (b := 1) (ne_lt (b01_0 hp_3.1) c_6) (by decide))) (Int32.lt_of_lt_of_le (im_5 (gl1 (b := 1) (ne_lt (b01_0 hp_3.1) c_6) (by decide))) bd_4.2)) dX12_bond_174 ?_
      refine lv_topi (fun x_52 ex_52 => ?_)
      have ex_52 : x_52 = ((σ 17).1 p0.toNatClampNeg) := by rw [ex_52, eσ1, gI_ne _ _ _ (by decide)]
      have bd_53 := mrd_57 (c := 17) hI rfl p0.toNatClampNeg
      have hF := gFree hD hS hA
      refine va_calliD hd0 (va_runV_D (As := [.int x_52]) (rest := []) ⟨hx, hb, hml, hown, hts⟩ (n_X12_good l dC dI ad cA adK adV H.size σ1 hIσ1 x_52) (cwV 1 hts gX12_bond_X12_good rfl rfl rfl (by decide +kernel) ⟨Nat.le_of_ble_eq_true rfl, Nat.le_of_ble_eq_true rfl⟩) ⟨gBlind, va_recv hK hP (ci := 11) (q0 := 0) rfl (mat_11 rfl), gStart (As := [.ref (ad 0), .int x_52]) hP hD hK0 hT hS hF (d_2)⟩ rfl rfl hl.1 rfl (lv_room (Nat.le_of_ble_eq_true rfl)) dX12_bond_175 ⟨Nat.le_of_ble_eq_true rfl, Nat.le_of_ble_eq_true rfl⟩) hS (fun q _ h => hF q h) hF (fun r_54 σ12 t H locs ht hvm hw hB hz1 hk1 hS d_55 hd0 => ?_)
      have hts := dr_words hts0 (d_55)
      have hK := gKd hK0 (d_55)
      have hown : (s.setDrawn (d_55)).vm.findClass RX12 = some m.cls := hown0
      obtain ⟨hP, hD⟩ := gBack hF ht hB
      obtain ⟨hIσ12, fcσ12, hp_56⟩ := hw
      refine W.endD hd0 ?_
      exact W.iret (v := r_54) hx hb hr (fun t ht hW => ⟨⟨r_54, σ12, rfl, ⟨hIσ12, (mFr.tr frσ1 fcσ12 (by decide) (by decide)), trivial⟩, ⟨by rw [ht]; exact hP, hD⟩⟩, hS.F ht⟩) hS.2.2 dX12_bond_178
    refine lv_tableOut (tgt := 179) hx hb dX12_bond_20 (by have q0 := lv_neT (a := 0) c_7 rfl; have q1 := lv_neT (a := 1) c_12 rfl; have q2 := lv_neT (a := 2) c_17 rfl; have q3 := lv_neT (a := 3) c_22 rfl; have q4 := lv_neT (a := 4) c_27 rfl; have q5 := lv_neT (a := 5) c_32 rfl; have q6 := lv_neT (a := 6) c_37 rfl; have q7 := lv_neT (a := 7) c_46 rfl; have q8 := lv_neT (a := 8) c_51 rfl; omega) (by decide) ?_
    refine lv_aload_n hx hb dX12_bond_179 rfl (lv_at hl 0 rfl) ?_
    refine lv_iconst (v := 1) hx hb dX12_bond_180 (by decide) ?_
    have hF := gFree hD hS hA
    refine va_calliD hd0 (va_runV_D (As := [.int 1]) (rest := []) ⟨hx, hb, hml, hown, hts⟩ (n_X12_refused l dC dI ad cA adK adV H.size σ1 hIσ1 1) (cwV 1 hts gX12_bond_X12_refused rfl rfl rfl (by decide +kernel) ⟨Nat.le_of_ble_eq_true rfl, Nat.le_of_ble_eq_true rfl⟩) ⟨gBlind, va_recv hK hP (ci := 11) (q0 := 0) rfl (mat_11 rfl), gStart (As := [.ref (ad 0), .int 1]) hP hD hK0 hT hS hF (d_2)⟩ rfl rfl hl.1 rfl (lv_room (Nat.le_of_ble_eq_true rfl)) dX12_bond_181 ⟨Nat.le_of_ble_eq_true rfl, Nat.le_of_ble_eq_true rfl⟩) hS (fun q _ h => hF q h) hF (fun r_57 σ13 t H locs ht hvm hw hB hz1 hk1 hS d_58 hd0 => ?_)
    have hts := dr_words hts0 (d_58)
    have hK := gKd hK0 (d_58)
    have hown : (s.setDrawn (d_58)).vm.findClass RX12 = some m.cls := hown0
    obtain ⟨hP, hD⟩ := gBack hF ht hB
    obtain ⟨hIσ13, fcσ13, hp_59⟩ := hw
    refine W.endD hd0 ?_
    exact W.iret (v := r_57) hx hb hr (fun t ht hW => ⟨⟨r_57, σ13, rfl, ⟨hIσ13, (mFr.tr frσ1 fcσ13 (by decide) (by decide)), trivial⟩, ⟨by rw [ht]; exact hP, hD⟩⟩, hS.F ht⟩) hS.2.2 dX12_bond_184
  · refine lv_aload_n hx hb dX12_bond_13 rfl (lv_at hl 0 rfl) ?_
    refine lv_iconst (v := 1) hx hb dX12_bond_14 (by decide) ?_
    have hF := gFree hD hS hA
    refine va_calliD hd0 (va_runV_D (As := [.int 1]) (rest := []) ⟨hx, hb, hml, hown, hts⟩ (n_X12_refused l dC dI ad cA adK adV H.size σ1 hIσ1 1) (cwV 1 hts gX12_bond_X12_refused rfl rfl rfl (by decide +kernel) ⟨Nat.le_of_ble_eq_true rfl, Nat.le_of_ble_eq_true rfl⟩) ⟨gBlind, va_recv hK hP (ci := 11) (q0 := 0) rfl (mat_11 rfl), gStart (As := [.ref (ad 0), .int 1]) hP hD hK0 hT hS hF (d_2)⟩ rfl rfl hl.1 rfl (lv_room (Nat.le_of_ble_eq_true rfl)) dX12_bond_15 ⟨Nat.le_of_ble_eq_true rfl, Nat.le_of_ble_eq_true rfl⟩) hS (fun q _ h => hF q h) hF (fun r_60 σ14 t H locs ht hvm hw hB hz1 hk1 hS d_61 hd0 => ?_)
    have hts := dr_words hts0 (d_61)
    have hK := gKd hK0 (d_61)
    have hown : (s.setDrawn (d_61)).vm.findClass RX12 = some m.cls := hown0
    obtain ⟨hP, hD⟩ := gBack hF ht hB
    obtain ⟨hIσ14, fcσ14, hp_62⟩ := hw
    refine W.endD hd0 ?_
    exact W.iret (v := r_60) hx hb hr (fun t ht hW => ⟨⟨r_60, σ14, rfl, ⟨hIσ14, (mFr.tr frσ1 fcσ14 (by decide) (by decide)), trivial⟩, ⟨by rw [ht]; exact hP, hD⟩⟩, hS.F ht⟩) hS.2.2 dX12_bond_18
set_option maxHeartbeats 8000000 in
set_option maxRecDepth 100000 in
theorem n_X12_quote (l : Launch) (dC : Nat → ClassId) (dI : Nat → Nat → Nat) (ad : Nat → Nat) (cA : Nat → ClassId) (adK adV : Nat → Nat) (sz : Nat) (σ : gs) (hI : InvM σ) (p0 : Int32) (p1 : Int32) : MetD lw_cs l yX12_quote wsX12_quote ({ frames := 1, cells := 0, slots := 0, locals := 22 }) (va_Pc [.ref (ad 0), .int p0, .int p1] (gPre adK adV (dC, dI) (wM ad cA σ) (tM cA) sz)) (va_Qi (fun (r : Int32) (τ : gs) => InvM τ ∧ mFr [] [0, 1, 2] σ τ ∧ (True)) (fun τ t => gPost (dC, dI) (va_A (wM ad cA σ) sz) (wM ad cA τ) t) (va_A (wM ad cA σ) sz)) 0 0 (va_A (wM ad cA σ) sz) := by
  refine MetD.ofW (cc := cX12_quote) (maxL := 3) (ret := (some .int)) (by decide) rfl ?_
  intro p e s m args below meth c s₁ B hml hv hd0
  obtain ⟨rfl, hsz, hP, hK, hD0, hT⟩ := hv
  have hx := B.exec
  have hb := B.bytes
  have hr := B.returns
  have hts0 := atoms_spec (ws := wsX12_quote) B.pre
  have hK0 := hK
  have hown0 : s.vm.findClass RX12 = some m.cls := findClass_of_methodNamed B.named
  have hlocks := B.notSynchronized
  have hinX12 : ∀ w ∈ u_ws RX12 TX12 69, w ∈ wsX12_quote := (fun _ h9 => List.mem_cons_of_mem _ (List.mem_append_right _ h9))
  subst hsz
  have hD := hD0.self (sz := s.heap.size)
  generalize hAe : va_A (wM ad cA σ) s.heap.size = A at hD hT ⊢
  have hA : ∀ q : Nat, s.heap.size ≤ q → A q := fun q h => by rw [← hAe]; exact Or.inr h
  have hS : va_S A s.heap s.heap [] := va_S.rf
  have hl := lv_entry ([.ref (ad 0), .int p0, .int p1]) (n := 3) (Nat.le_of_ble_eq_true rfl)
  rw [lg_entry_eq]
  generalize (lg_sl ([.ref (ad 0), .int p0, .int p1]) ++ List.replicate (3 - (lg_sl ([.ref (ad 0), .int p0, .int p1])).length) Slot.unset).toArray = ls at hl ⊢
  have hl : lv_has ls 3 [(0, .ref (ad 0)), (1, .int p0), (2, .int p1)] := hl
  have hts := dr_words hts0 (s.drawn)
  have hK := gKd hK0 (s.drawn)
  have hown : (s.setDrawn (s.drawn)).vm.findClass RX12 = some m.cls := hown0
  refine lv_aload_n hx hb dX12_quote_0 rfl (lv_at hl 0 rfl) ?_
  refine lv_iconst (v := 0) hx hb dX12_quote_1 (by decide) ?_
  refine va_put (D := (dC, dI)) (ci := 11) (v := .int 0) (C := RX12) (T := TX12) (N := 69) hx hb hts hinX12 tyX12 tyX12_ok nmX12 hown hK hP hD hS 0 (mat_11 rfl) rfl 0 (by decide) (hts (.fieldLink RX12 107 "BondCalendarsModel" "thrown" "I") (by decide +kernel)) (fun _ h9 => h9) rfl (ty := .int) (by decide +kernel) rfl rfl (Nat.le_of_ble_eq_true rfl) dX12_quote_2 (fun H locs hP hD hS => ?_)
  obtain ⟨σ1, eσ1, hP, hD⟩ := gPut (mse_11_0 rfl) hP hD
  have hIσ1 : InvM σ1 := by rw [eσ1]; exact minv_I hI (mok_11_0 rfl _)
  have frσ1 : mFr [] [0, 1, 2] σ σ1 := by rw [eσ1]; exact mFr.oI (mFr.rfl (L := []) (F := [0, 1, 2]) (σ := σ)) (by decide)
  refine lv_iload_n hx hb dX12_quote_5 rfl (lv_at hl 1 rfl) ?_
  refine lv_if_lt (tgt := 26) hx hb dX12_quote_6 (by decide) (fun c_1 => ?_) (fun c_1 => ?_)
  · refine lv_aload_n hx hb dX12_quote_26 rfl (lv_at hl 0 rfl) ?_
    refine lv_iconst (v := 1) hx hb dX12_quote_27 (by decide) ?_
    have hF := gFree hD hS hA
    refine va_calliD hd0 (va_runV_D (As := [.int 1]) (rest := []) ⟨hx, hb, hml, hown, hts⟩ (n_X12_refused l dC dI ad cA adK adV H.size σ1 hIσ1 1) (cwV 1 hts gX12_quote_X12_refused rfl rfl rfl (by decide +kernel) ⟨Nat.le_of_ble_eq_true rfl, Nat.le_of_ble_eq_true rfl⟩) ⟨gBlind, va_recv hK hP (ci := 11) (q0 := 0) rfl (mat_11 rfl), gStart (As := [.ref (ad 0), .int 1]) hP hD hK0 hT hS hF (s.drawn)⟩ rfl rfl hl.1 rfl (lv_room (Nat.le_of_ble_eq_true rfl)) dX12_quote_28 ⟨Nat.le_of_ble_eq_true rfl, Nat.le_of_ble_eq_true rfl⟩) hS (fun q _ h => hF q h) hF (fun r_2 σ2 t H locs ht hvm hw hB hz1 hk1 hS d_3 hd0 => ?_)
    have hts := dr_words hts0 (d_3)
    have hK := gKd hK0 (d_3)
    have hown : (s.setDrawn (d_3)).vm.findClass RX12 = some m.cls := hown0
    obtain ⟨hP, hD⟩ := gBack hF ht hB
    obtain ⟨hIσ2, fcσ2, hp_4⟩ := hw
    refine W.endD hd0 ?_
    exact W.iret (v := r_2) hx hb hr (fun t ht hW => ⟨⟨r_2, σ2, rfl, ⟨hIσ2, (mFr.tr frσ1 fcσ2 (by decide) (by decide)), trivial⟩, ⟨by rw [ht]; exact hP, hD⟩⟩, hS.F ht⟩) hS.2.2 dX12_quote_31
  · refine lv_iload_n hx hb dX12_quote_9 rfl (lv_at hl 1 rfl) ?_
    refine lv_aload_n hx hb dX12_quote_10 rfl (lv_at hl 0 rfl) ?_
    have bd_5 := mrd_11_21 (c := 0) hI rfl
    refine va_get (D := (dC, dI)) (ci := 11) (v := .int ((σ 0).1 21)) (C := RX12) (T := TX12) (N := 69) hx hb hts hinX12 hown hK hP 0 (mat_11 rfl) rfl 21 (by decide) (hts (.fieldLink RX12 364 "BondCalendarsModel" "quotes" "I") (by decide +kernel)) (fun _ h9 => h9) (congrArg (fun z => some (Value.int z)) (show (σ1 0).1 21 = ((σ 0).1 21) from by rw [eσ1, gI_oth _ _ _ (by decide)])) dX12_quote_11 ?_
    refine lv_icmp_ge (tgt := 26) hx hb dX12_quote_14 (by decide) (fun c_6 => ?_) (fun c_6 => ?_)
    · refine lv_aload_n hx hb dX12_quote_26 rfl (lv_at hl 0 rfl) ?_
      refine lv_iconst (v := 1) hx hb dX12_quote_27 (by decide) ?_
      have hF := gFree hD hS hA
      refine va_calliD hd0 (va_runV_D (As := [.int 1]) (rest := []) ⟨hx, hb, hml, hown, hts⟩ (n_X12_refused l dC dI ad cA adK adV H.size σ1 hIσ1 1) (cwV 1 hts gX12_quote_X12_refused rfl rfl rfl (by decide +kernel) ⟨Nat.le_of_ble_eq_true rfl, Nat.le_of_ble_eq_true rfl⟩) ⟨gBlind, va_recv hK hP (ci := 11) (q0 := 0) rfl (mat_11 rfl), gStart (As := [.ref (ad 0), .int 1]) hP hD hK0 hT hS hF (s.drawn)⟩ rfl rfl hl.1 rfl (lv_room (Nat.le_of_ble_eq_true rfl)) dX12_quote_28 ⟨Nat.le_of_ble_eq_true rfl, Nat.le_of_ble_eq_true rfl⟩) hS (fun q _ h => hF q h) hF (fun r_7 σ3 t H locs ht hvm hw hB hz1 hk1 hS d_8 hd0 => ?_)
      have hts := dr_words hts0 (d_8)
      have hK := gKd hK0 (d_8)
      have hown : (s.setDrawn (d_8)).vm.findClass RX12 = some m.cls := hown0
      obtain ⟨hP, hD⟩ := gBack hF ht hB
      obtain ⟨hIσ3, fcσ3, hp_9⟩ := hw
      refine W.endD hd0 ?_
      exact W.iret (v := r_7) hx hb hr (fun t ht hW => ⟨⟨r_7, σ3, rfl, ⟨hIσ3, (mFr.tr frσ1 fcσ3 (by decide) (by decide)), trivial⟩, ⟨by rw [ht]; exact hP, hD⟩⟩, hS.F ht⟩) hS.2.2 dX12_quote_31
    · refine lv_iload_n hx hb dX12_quote_17 rfl (lv_at hl 2 rfl) ?_
      refine lv_iconst (v := 0) hx hb dX12_quote_18 (by decide) ?_
      refine lv_iconst (v := 2) hx hb dX12_quote_19 (by decide) ?_
      have hF := gFree (w := []) (hx_D0 (A := A)) hS hA
      have hKe := hK.sub (tys' := []) [] rfl
      refine va_calli (va_runS (As := [.int p1, .int 0, .int 2]) (rest := []) ⟨hx, hb, hml, hown, hts⟩ (k_X12_in l dC dI H.size p1 0 2 ) (va_cwS 3 hts gX12_quote_X12_in rfl rfl rfl (by decide +kernel) ⟨Nat.le_of_ble_eq_true rfl, Nat.le_of_ble_eq_true rfl⟩) ⟨fun a U g mk q => by obtain ⟨q0, q1, qP, qK, qD⟩ := q; exact ⟨q0, q1, qP, va_K.moved (u := U) (U := U.calling g mk a) (Vm.Alike.refl U.vm) qK, qD⟩, fun U hU hW => ⟨rfl, by rw [hU], hx_P0, va_K.moved hW.alike hKe, hx_D0⟩⟩ rfl rfl hl.1 rfl (lv_room (Nat.le_of_ble_eq_true rfl)) dX12_quote_20 ⟨Nat.le_of_ble_eq_true rfl, Nat.le_of_ble_eq_true rfl⟩) hS (fun q _ h => hF q h) hF (fun r_10 u t H locs ht hvm hw hB hz1 hk1 hS => ?_)
      have hP := gKeep hP hk1
      have in_11 : r_10 = f_X12_in p1 0 2 := hw
      have bin_11 : r_10 = 0 ∨ r_10 = 1 := by rw [in_11]; exact in01 _ _ _
      refine lv_if_ne (tgt := 32) hx hb dX12_quote_23 (by decide) (fun c_12 => ?_) (fun c_12 => ?_)
      · refine lv_aload_n hx hb dX12_quote_32 rfl (lv_at hl 0 rfl) ?_
        refine lv_iload_n hx hb dX12_quote_33 rfl (lv_at hl 2 rfl) ?_
        refine lv_if_ne (tgt := 46) hx hb dX12_quote_34 (by decide) (fun c_13 => ?_) (fun c_13 => ?_)
        · refine lv_iload_n hx hb dX12_quote_46 rfl (lv_at hl 2 rfl) ?_
          refine lv_iconst (v := 1) hx hb dX12_quote_47 (by decide) ?_
          refine lv_icmp_ne (tgt := 60) hx hb dX12_quote_48 (by decide) (fun c_14 => ?_) (fun c_14 => ?_)
          · refine lv_aload_n hx hb dX12_quote_60 rfl (lv_at hl 0 rfl) ?_
            refine va_get (D := (dC, dI)) (ci := 11) (v := .ref (ad 13)) (C := RX12) (T := TX12) (N := 69) hx hb hts hinX12 hown hK hP 0 (mat_11 rfl) rfl 17 (by decide) (hts (.fieldLink RX12 51 "BondCalendarsModel" "quotePrice" "[I") (by decide +kernel)) (fun _ h9 => h9) rfl dX12_quote_61 ?_
            refine lv_iload_n hx hb dX12_quote_64 rfl (lv_at hl 1 rfl) ?_
            refine va_iald hx hb hK hP 13 13 (mat_53 rfl) (mty_53 rfl) (gin (N := 12) (by decide) (Int32.not_lt.mp c_1) (Int32.lt_trans (Int32.lt_of_lt_of_le (Int32.not_le.mp c_6) bd_5.2) (show (6 : Int32) < 12 by decide))) dX12_quote_65 ?_
            refine lv_topi (fun x_15 ex_15 => ?_)
            have ex_15 : x_15 = ((σ 13).1 p0.toNatClampNeg) := by rw [ex_15, eσ1, gI_ne _ _ _ (by decide)]
            have hF := gFree hD hS hA
            refine va_calliD hd0 (va_runV_D (As := [.int x_15]) (rest := []) ⟨hx, hb, hml, hown, hts⟩ (n_X12_good l dC dI ad cA adK adV H.size σ1 hIσ1 x_15) (cwV 1 hts gX12_quote_X12_good rfl rfl rfl (by decide +kernel) ⟨Nat.le_of_ble_eq_true rfl, Nat.le_of_ble_eq_true rfl⟩) ⟨gBlind, va_recv hK hP (ci := 11) (q0 := 0) rfl (mat_11 rfl), gStart (As := [.ref (ad 0), .int x_15]) hP hD hK0 hT hS hF (s.drawn)⟩ rfl rfl hl.1 rfl (lv_room (Nat.le_of_ble_eq_true rfl)) dX12_quote_66 ⟨Nat.le_of_ble_eq_true rfl, Nat.le_of_ble_eq_true rfl⟩) hS (fun q _ h => hF q h) hF (fun r_16 σ4 t H locs ht hvm hw hB hz1 hk1 hS d_17 hd0 => ?_)
            have hts := dr_words hts0 (d_17)
            have hK := gKd hK0 (d_17)
            have hown : (s.setDrawn (d_17)).vm.findClass RX12 = some m.cls := hown0
            obtain ⟨hP, hD⟩ := gBack hF ht hB
            obtain ⟨hIσ4, fcσ4, hp_18⟩ := hw
            refine W.endD hd0 ?_
            exact W.iret (v := r_16) hx hb hr (fun t ht hW => ⟨⟨r_16, σ4, rfl, ⟨hIσ4, (mFr.tr frσ1 fcσ4 (by decide) (by decide)), trivial⟩, ⟨by rw [ht]; exact hP, hD⟩⟩, hS.F ht⟩) hS.2.2 dX12_quote_69
          · refine lv_aload_n hx hb dX12_quote_51 rfl (lv_at hl 0 rfl) ?_
            refine va_get (D := (dC, dI)) (ci := 11) (v := .ref (ad 12)) (C := RX12) (T := TX12) (N := 69) hx hb hts hinX12 hown hK hP 0 (mat_11 rfl) rfl 16 (by decide) (hts (.fieldLink RX12 48 "BondCalendarsModel" "quoteDate" "[I") (by decide +kernel)) (fun _ h9 => h9) rfl dX12_quote_52 ?_
            refine lv_iload_n hx hb dX12_quote_55 rfl (lv_at hl 1 rfl) ?_
            refine va_iald hx hb hK hP 12 12 (mat_52 rfl) (mty_52 rfl) (gin (N := 12) (by decide) (Int32.not_lt.mp c_1) (Int32.lt_trans (Int32.lt_of_lt_of_le (Int32.not_le.mp c_6) bd_5.2) (show (6 : Int32) < 12 by decide))) dX12_quote_56 ?_
            refine lv_topi (fun x_19 ex_19 => ?_)
            have ex_19 : x_19 = ((σ 12).1 p0.toNatClampNeg) := by rw [ex_19, eσ1, gI_ne _ _ _ (by decide)]
            refine lv_goto (tgt := 66) hx hb dX12_quote_57 (by decide) ?_
            have hF := gFree hD hS hA
            refine va_calliD hd0 (va_runV_D (As := [.int x_19]) (rest := []) ⟨hx, hb, hml, hown, hts⟩ (n_X12_good l dC dI ad cA adK adV H.size σ1 hIσ1 x_19) (cwV 1 hts gX12_quote_X12_good rfl rfl rfl (by decide +kernel) ⟨Nat.le_of_ble_eq_true rfl, Nat.le_of_ble_eq_true rfl⟩) ⟨gBlind, va_recv hK hP (ci := 11) (q0 := 0) rfl (mat_11 rfl), gStart (As := [.ref (ad 0), .int x_19]) hP hD hK0 hT hS hF (s.drawn)⟩ rfl rfl hl.1 rfl (lv_room (Nat.le_of_ble_eq_true rfl)) dX12_quote_66 ⟨Nat.le_of_ble_eq_true rfl, Nat.le_of_ble_eq_true rfl⟩) hS (fun q _ h => hF q h) hF (fun r_20 σ5 t H locs ht hvm hw hB hz1 hk1 hS d_21 hd0 => ?_)
            have hts := dr_words hts0 (d_21)
            have hK := gKd hK0 (d_21)
            have hown : (s.setDrawn (d_21)).vm.findClass RX12 = some m.cls := hown0
            obtain ⟨hP, hD⟩ := gBack hF ht hB
            obtain ⟨hIσ5, fcσ5, hp_22⟩ := hw
            refine W.endD hd0 ?_
            exact W.iret (v := r_20) hx hb hr (fun t ht hW => ⟨⟨r_20, σ5, rfl, ⟨hIσ5, (mFr.tr frσ1 fcσ5 (by decide) (by decide)), trivial⟩, ⟨by rw [ht]; exact hP, hD⟩⟩, hS.F ht⟩) hS.2.2 dX12_quote_69
        · refine lv_aload_n hx hb dX12_quote_37 rfl (lv_at hl 0 rfl) ?_
          refine va_get (D := (dC, dI)) (ci := 11) (v := .ref (ad 11)) (C := RX12) (T := TX12) (N := 69) hx hb hts hinX12 hown hK hP 0 (mat_11 rfl) rfl 15 (by decide) (hts (.fieldLink RX12 45 "BondCalendarsModel" "quoteBond" "[I") (by decide +kernel)) (fun _ h9 => h9) rfl dX12_quote_38 ?_
          refine lv_iload_n hx hb dX12_quote_41 rfl (lv_at hl 1 rfl) ?_
          refine va_iald hx hb hK hP 11 11 (mat_51 rfl) (mty_51 rfl) (gin (N := 12) (by decide) (Int32.not_lt.mp c_1) (Int32.lt_trans (Int32.lt_of_lt_of_le (Int32.not_le.mp c_6) bd_5.2) (show (6 : Int32) < 12 by decide))) dX12_quote_42 ?_
          refine lv_topi (fun x_23 ex_23 => ?_)
          have ex_23 : x_23 = ((σ 11).1 p0.toNatClampNeg) := by rw [ex_23, eσ1, gI_ne _ _ _ (by decide)]
          refine lv_goto (tgt := 66) hx hb dX12_quote_43 (by decide) ?_
          have hF := gFree hD hS hA
          refine va_calliD hd0 (va_runV_D (As := [.int x_23]) (rest := []) ⟨hx, hb, hml, hown, hts⟩ (n_X12_good l dC dI ad cA adK adV H.size σ1 hIσ1 x_23) (cwV 1 hts gX12_quote_X12_good rfl rfl rfl (by decide +kernel) ⟨Nat.le_of_ble_eq_true rfl, Nat.le_of_ble_eq_true rfl⟩) ⟨gBlind, va_recv hK hP (ci := 11) (q0 := 0) rfl (mat_11 rfl), gStart (As := [.ref (ad 0), .int x_23]) hP hD hK0 hT hS hF (s.drawn)⟩ rfl rfl hl.1 rfl (lv_room (Nat.le_of_ble_eq_true rfl)) dX12_quote_66 ⟨Nat.le_of_ble_eq_true rfl, Nat.le_of_ble_eq_true rfl⟩) hS (fun q _ h => hF q h) hF (fun r_24 σ6 t H locs ht hvm hw hB hz1 hk1 hS d_25 hd0 => ?_)
          have hts := dr_words hts0 (d_25)
          have hK := gKd hK0 (d_25)
          have hown : (s.setDrawn (d_25)).vm.findClass RX12 = some m.cls := hown0
          obtain ⟨hP, hD⟩ := gBack hF ht hB
          obtain ⟨hIσ6, fcσ6, hp_26⟩ := hw
          refine W.endD hd0 ?_
          exact W.iret (v := r_24) hx hb hr (fun t ht hW => ⟨⟨r_24, σ6, rfl, ⟨hIσ6, (mFr.tr frσ1 fcσ6 (by decide) (by decide)), trivial⟩, ⟨by rw [ht]; exact hP, hD⟩⟩, hS.F ht⟩) hS.2.2 dX12_quote_69
      · refine lv_aload_n hx hb dX12_quote_26 rfl (lv_at hl 0 rfl) ?_
        refine lv_iconst (v := 1) hx hb dX12_quote_27 (by decide) ?_
        have hF := gFree hD hS hA
        refine va_calliD hd0 (va_runV_D (As := [.int 1]) (rest := []) ⟨hx, hb, hml, hown, hts⟩ (n_X12_refused l dC dI ad cA adK adV H.size σ1 hIσ1 1) (cwV 1 hts gX12_quote_X12_refused rfl rfl rfl (by decide +kernel) ⟨Nat.le_of_ble_eq_true rfl, Nat.le_of_ble_eq_true rfl⟩) ⟨gBlind, va_recv hK hP (ci := 11) (q0 := 0) rfl (mat_11 rfl), gStart (As := [.ref (ad 0), .int 1]) hP hD hK0 hT hS hF (s.drawn)⟩ rfl rfl hl.1 rfl (lv_room (Nat.le_of_ble_eq_true rfl)) dX12_quote_28 ⟨Nat.le_of_ble_eq_true rfl, Nat.le_of_ble_eq_true rfl⟩) hS (fun q _ h => hF q h) hF (fun r_27 σ7 t H locs ht hvm hw hB hz1 hk1 hS d_28 hd0 => ?_)
        have hts := dr_words hts0 (d_28)
        have hK := gKd hK0 (d_28)
        have hown : (s.setDrawn (d_28)).vm.findClass RX12 = some m.cls := hown0
        obtain ⟨hP, hD⟩ := gBack hF ht hB
        obtain ⟨hIσ7, fcσ7, hp_29⟩ := hw
        refine W.endD hd0 ?_
        exact W.iret (v := r_27) hx hb hr (fun t ht hW => ⟨⟨r_27, σ7, rfl, ⟨hIσ7, (mFr.tr frσ1 fcσ7 (by decide) (by decide)), trivial⟩, ⟨by rw [ht]; exact hP, hD⟩⟩, hS.F ht⟩) hS.2.2 dX12_quote_31
