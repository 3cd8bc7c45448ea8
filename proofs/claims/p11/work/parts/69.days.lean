set_option maxHeartbeats 8000000 in
set_option maxRecDepth 100000 in
theorem n_X12_pays (l : Launch) (dC : Nat → ClassId) (dI : Nat → Nat → Nat) (ad : Nat → Nat) (cA : Nat → ClassId) (adK adV : Nat → Nat) (sz : Nat) (σ : gs) (hI : InvM σ) (p0 : Int32) (p1 : Int32) (hh0 : 0 ≤ p0) (hh1 : p0 < 4) (hh2 : 0 ≤ p1) (hh3 : p1 < 82) (hh4 : GridOK σ p0.toNatClampNeg) : MetD lw_cs l yX12_pays wsX12_pays ({ frames := 5, cells := 0, slots := 0, locals := 132 }) (va_Pc [.ref (ad 0), .int p0, .int p1] (gPre adK adV (dC, dI) (wM ad cA σ) (tM cA) sz)) (va_Ql (fun (r : Int64) (τ : gs) => InvM τ ∧ mFr [65] [] σ τ ∧ (True)) (fun τ t => gPost (dC, dI) (va_A (wM ad cA σ) sz) (wM ad cA τ) t) (va_A (wM ad cA σ) sz)) 0 0 (va_A (wM ad cA σ) sz) := by
  refine MetD.ofW (cc := cX12_pays) (maxL := 5) (ret := (some .long)) (by decide) rfl ?_
  intro p e s m args below meth c s₁ B hml hv hd0
  obtain ⟨rfl, hsz, hP, hK, hD0, hT⟩ := hv
  have hx := B.exec
  have hb := B.bytes
  have hr := B.returns
  have hts0 := atoms_spec (ws := wsX12_pays) B.pre
  have hK0 := hK
  have hown0 : s.vm.findClass RX12 = some m.cls := findClass_of_methodNamed B.named
  have hlocks := B.notSynchronized
  have hinX12 : ∀ w ∈ u_ws RX12 TX12 69, w ∈ wsX12_pays := (fun _ h9 => List.mem_cons_of_mem _ (List.mem_append_right _ h9))
  subst hsz
  have hD := hD0.self (sz := s.heap.size)
  generalize hAe : va_A (wM ad cA σ) s.heap.size = A at hD hT ⊢
  have hA : ∀ q : Nat, s.heap.size ≤ q → A q := fun q h => by rw [← hAe]; exact Or.inr h
  have hS : va_S A s.heap s.heap [] := va_S.rf
  have hl := lv_entry ([.ref (ad 0), .int p0, .int p1]) (n := 5) (Nat.le_of_ble_eq_true rfl)
  rw [lg_entry_eq]
  generalize (lg_sl ([.ref (ad 0), .int p0, .int p1]) ++ List.replicate (5 - (lg_sl ([.ref (ad 0), .int p0, .int p1])).length) Slot.unset).toArray = ls at hl ⊢
  have hl : lv_has ls 5 [(0, .ref (ad 0)), (1, .int p0), (2, .int p1)] := hl
  have hts := dr_words hts0 (s.drawn)
  have hK := gKd hK0 (s.drawn)
  have hown : (s.setDrawn (s.drawn)).vm.findClass RX12 = some m.cls := hown0
  refine lv_aload_n hx hb dX12_pays_0 rfl (lv_at hl 0 rfl) ?_
  refine lv_iload_n hx hb dX12_pays_1 rfl (lv_at hl 1 rfl) ?_
  refine lv_iload_n hx hb dX12_pays_2 rfl (lv_at hl 2 rfl) ?_
  have hF := gFree hD hS hA
  refine va_callvD hd0 (va_runV_D (As := [.int p0, .int p1]) (rest := []) ⟨hx, hb, hml, hown, hts⟩ (n_X12_coupons l dC dI ad cA adK adV s.heap.size σ hI p0 p1 hh0 hh1 hh2 hh3 hh4) (cwV 2 hts gX12_pays_X12_coupons rfl rfl rfl (by decide +kernel) ⟨Nat.le_of_ble_eq_true rfl, Nat.le_of_ble_eq_true rfl⟩) ⟨gBlind, va_recv hK hP (ci := 11) (q0 := 0) rfl (mat_11 rfl), gStart (As := [.ref (ad 0), .int p0, .int p1]) hP hD hK0 hT hS hF (s.drawn)⟩ rfl rfl hl.1 rfl (lv_room (Nat.le_of_ble_eq_true rfl)) dX12_pays_3 ⟨Nat.le_of_ble_eq_true rfl, Nat.le_of_ble_eq_true rfl⟩) hS (fun q _ h => hF q h) hF (fun σ1 t H locs ht hvm hw hB hz1 hk1 hS d_2 hd0 => ?_)
  have hts := dr_words hts0 (d_2)
  have hK := gKd hK0 (d_2)
  have hown : (s.setDrawn (d_2)).vm.findClass RX12 = some m.cls := hown0
  obtain ⟨hP, hD⟩ := gBack hF ht hB
  obtain ⟨hIσ1, fcσ1, hp_3⟩ := hw
  refine lv_aload_n hx hb dX12_pays_6 rfl (lv_at hl 0 rfl) ?_
  refine lv_aload_n hx hb dX12_pays_7 rfl (lv_at hl 0 rfl) ?_
  refine va_get (D := (dC, dI)) (ci := 11) (v := .ref (ad 26)) (C := RX12) (T := TX12) (N := 69) hx hb hts hinX12 hown hK hP 0 (mat_11 rfl) rfl 59 (by decide) (hts (.fieldLink RX12 92 "BondCalendarsModel" "entitled" "[I") (by decide +kernel)) (fun _ h9 => h9) rfl dX12_pays_8 ?_
  refine lv_bipush (v := 82) hx hb dX12_pays_11 (by decide) ?_
  refine lv_iload_n hx hb dX12_pays_13 rfl (lv_at hl 1 rfl) ?_
  refine lv_imul hx hb dX12_pays_14 ?_
  refine lv_topi (fun x_4 ex_4 => ?_)
  refine lv_iload_n hx hb dX12_pays_15 rfl (lv_at hl 2 rfl) ?_
  refine lv_iadd hx hb dX12_pays_16 ?_
  refine lv_topi (fun x_5 ex_5 => ?_)
  have hi_6 : vp_in x_5 328 := by have ab1 : (0 : Int) ≤ p0.toInt := Int32.le_iff_toInt_le.mp hh0; have ab2 : p0.toInt ≤ (3 : Int) := Int32.le_iff_toInt_le.mp (gl2 (b := 3) hh1 (by decide)); have tt3 : x_4.toInt = (82 * p0.toInt) := (by rw [ex_4]; exact i3_mul (a := (82 : Int32)) (b := p0) (x := 82) (y := p0.toInt) rfl rfl (by omega) (by omega)); have ab4 : (0 : Int) ≤ p1.toInt := Int32.le_iff_toInt_le.mp hh2; have ab5 : p1.toInt ≤ (81 : Int) := Int32.le_iff_toInt_le.mp (gl2 (b := 81) hh3 (by decide)); have tt6 : x_5.toInt = ((82 * p0.toInt) + p1.toInt) := (by rw [ex_5]; exact i3_add (a := x_4) (b := p1) (x := (82 * p0.toInt)) (y := p1.toInt) tt3 rfl (by omega) (by omega)); have z0 : (0 : Int32).toInt = 0 := (by decide); have zn : (328 : Int32).toInt = 328 := (by decide); exact gin (N := 328) (by decide) (Int32.le_iff_toInt_le.mpr (by omega)) (Int32.lt_iff_toInt_lt.mpr (by omega))
  refine va_iald hx hb hK hP 26 26 (mat_66 rfl) (mty_66 rfl) hi_6 dX12_pays_17 ?_
  refine lv_topi (fun x_7 ex_7 => ?_)
  have ex_7 : x_7 = ((σ 26).1 x_5.toNatClampNeg) := by rw [ex_7, fcσ1.1 26 (by decide) (by decide)]
  have hF := gFree hD hS hA
  refine va_calllD hd0 (va_runV_D (As := [.int x_7]) (rest := []) ⟨hx, hb, hml, hown, hts⟩ (n_X12_hundreds l dC dI ad cA adK adV H.size σ1 hIσ1 x_7 hp_3) (cwV 1 hts gX12_pays_X12_hundreds rfl rfl rfl (by decide +kernel) ⟨Nat.le_of_ble_eq_true rfl, Nat.le_of_ble_eq_true rfl⟩) ⟨gBlind, va_recv hK hP (ci := 11) (q0 := 0) rfl (mat_11 rfl), gStart (As := [.ref (ad 0), .int x_7]) hP hD hK0 hT hS hF (d_2)⟩ rfl rfl hl.1 rfl (lv_room (Nat.le_of_ble_eq_true rfl)) dX12_pays_18 ⟨Nat.le_of_ble_eq_true rfl, Nat.le_of_ble_eq_true rfl⟩) hS (fun q _ h => hF q h) hF (fun r_8 σ2 t H locs ht hvm hw hB hz1 hk1 hS d_9 hd0 => ?_)
  have hts := dr_words hts0 (d_9)
  have hK := gKd hK0 (d_9)
  have hown : (s.setDrawn (d_9)).vm.findClass RX12 = some m.cls := hown0
  obtain ⟨hP, hD⟩ := gBack hF ht hB
  obtain ⟨hIσ2, fcσ2, hp_10⟩ := hw
  refine lv_lstore_n (lv' := [(3, .long r_8), (0, .ref (ad 0)), (1, .int p0), (2, .int p1)]) hx hb dX12_pays_21 rfl hl (by decide) rfl (fun ls hl => ?_)
  refine lv_iload_n hx hb dX12_pays_22 rfl (lv_at hl 3 rfl) ?_
  refine lv_aload_n hx hb dX12_pays_23 rfl (lv_at hl 1 rfl) ?_
  refine va_get (D := (dC, dI)) (ci := 11) (v := .ref (ad 17)) (C := RX12) (T := TX12) (N := 69) hx hb hts hinX12 hown hK hP 0 (mat_11 rfl) rfl 39 (by decide) (hts (.fieldLink RX12 64 "BondCalendarsModel" "periodMany" "[I") (by decide +kernel)) (fun _ h9 => h9) rfl dX12_pays_24 ?_
  refine lv_iload_n hx hb dX12_pays_27 rfl (lv_at hl 2 rfl) ?_
  refine va_iald hx hb hK hP 17 17 (mat_57 rfl) (mty_57 rfl) (gin (N := 4) (by decide) hh0 hh1) dX12_pays_28 ?_
  refine lv_topi (fun x_11 ex_11 => ?_)
  have ex_11 : x_11 = ((σ 17).1 p0.toNatClampNeg) := by rw [ex_11, fcσ2.1 17 (by decide) (by decide), fcσ1.1 17 (by decide) (by decide)]
  have bd_12 := mrd_57 (c := 17) hI rfl p0.toNatClampNeg
  refine lv_iconst (v := 1) hx hb dX12_pays_29 (by decide) ?_
  refine lv_isub hx hb dX12_pays_30 ?_
  refine lv_topi (fun x_13 ex_13 => ?_)
  refine lv_icmp_ge (tgt := 36) hx hb dX12_pays_31 (by decide) (fun c_14 => ?_) (fun c_14 => ?_)
  · refine lv_lload_n hx hb dX12_pays_36 rfl (lv_at hl 0 rfl) ?_
    refine lv_ldc2 (v := 10000) hx hb hown (hts (.constantLong RX12 571 (10000)) (by decide +kernel)) dX12_pays_37 ?_
    refine lv_aload_n hx hb dX12_pays_40 rfl (lv_at hl 1 rfl) ?_
    refine va_get (D := (dC, dI)) (ci := 11) (v := .ref (ad 25)) (C := RX12) (T := TX12) (N := 69) hx hb hts hinX12 hown hK hP 0 (mat_11 rfl) rfl 58 (by decide) (hts (.fieldLink RX12 89 "BondCalendarsModel" "held" "[I") (by decide +kernel)) (fun _ h9 => h9) rfl dX12_pays_41 ?_
    refine lv_iload_n hx hb dX12_pays_44 rfl (lv_at hl 2 rfl) ?_
    refine va_iald hx hb hK hP 25 25 (mat_65 rfl) (mty_65 rfl) (gin (N := 4) (by decide) hh0 hh1) dX12_pays_45 ?_
    refine lv_topi (fun x_15 ex_15 => ?_)
    have ex_15 : x_15 = ((σ 25).1 p0.toNatClampNeg) := by rw [ex_15, fcσ2.1 25 (by decide) (by decide), fcσ1.1 25 (by decide) (by decide)]
    refine lv_i2l hx hb dX12_pays_46 rfl ?_
    refine lv_lmul hx hb dX12_pays_47 ?_
    refine lv_topl (fun x_16 ex_16 => ?_)
    refine lv_ladd hx hb dX12_pays_48 ?_
    refine lv_topl (fun x_17 ex_17 => ?_)
    refine lv_lstore_n (lv' := [(3, .long x_17), (0, .ref (ad 0)), (1, .int p0), (2, .int p1)]) hx hb dX12_pays_49 rfl hl (by decide) rfl (fun ls hl => ?_)
    refine lv_aload_n hx hb dX12_pays_50 rfl (lv_at hl 1 rfl) ?_
    refine va_get (D := (dC, dI)) (ci := 11) (v := .ref (ad 25)) (C := RX12) (T := TX12) (N := 69) hx hb hts hinX12 hown hK hP 0 (mat_11 rfl) rfl 58 (by decide) (hts (.fieldLink RX12 89 "BondCalendarsModel" "held" "[I") (by decide +kernel)) (fun _ h9 => h9) rfl dX12_pays_51 ?_
    refine lv_iload_n hx hb dX12_pays_54 rfl (lv_at hl 2 rfl) ?_
    refine lv_iconst (v := 0) hx hb dX12_pays_55 (by decide) ?_
    refine va_iast hx hb hK hP hD hS 25 25 (mat_65 rfl) (mty_65 rfl) (gin (N := 4) (by decide) hh0 hh1) dX12_pays_56 (fun H locs hP hD hS => ?_)
    obtain ⟨σ3, eσ3, hP, hD⟩ := gPut (mse_65 rfl) hP hD
    have hIσ3 : InvM σ3 := by rw [eσ3]; exact minv_I hIσ2 (mok_65 rfl _ _)
    have frσ3 : mFr [65] [] σ σ3 := by rw [eσ3]; exact mFr.aI (mFr.tr (mFr.tr (mFr.rfl (L := [65]) (F := []) (σ := σ)) fcσ1 (by decide) (by decide)) fcσ2 (by decide) (by decide)) (by decide) (by decide)
    refine lv_lload_n hx hb dX12_pays_57 rfl (lv_at hl 0 rfl) ?_
    refine W.endD hd0 ?_
    exact W.lret (v := x_17) hx hb hr (fun t ht hW => ⟨⟨x_17, σ3, rfl, ⟨hIσ3, frσ3, trivial⟩, ⟨by rw [ht]; exact hP, hD⟩⟩, hS.F ht⟩) hS.2.2 dX12_pays_58
  · refine lv_lload_n hx hb dX12_pays_34 rfl (lv_at hl 0 rfl) ?_
    refine W.endD hd0 ?_
    exact W.lret (v := r_8) hx hb hr (fun t ht hW => ⟨⟨r_8, σ2, rfl, ⟨hIσ2, (mFr.tr (mFr.tr (mFr.rfl (L := [65]) (F := []) (σ := σ)) fcσ1 (by decide) (by decide)) fcσ2 (by decide) (by decide)), trivial⟩, ⟨by rw [ht]; exact hP, hD⟩⟩, hS.F ht⟩) hS.2.2 dX12_pays_35
set_option maxHeartbeats 8000000 in
set_option maxRecDepth 100000 in
theorem n_X12_goesDay (l : Launch) (dC : Nat → ClassId) (dI : Nat → Nat → Nat) (ad : Nat → Nat) (cA : Nat → ClassId) (adK adV : Nat → Nat) (sz : Nat) (σ : gs) (hI : InvM σ) (hh0 : Deep σ) (hh1 : 723120 ≤ f_X12_dayOf ((σ 0).1 64)) (hh2 : f_X12_dayOf ((σ 0).1 64) < 759644) : MetD lw_cs l yX12_goesDay wsX12_goesDay ({ frames := 6, cells := 0, slots := 0, locals := 156 }) (va_Pc [.ref (ad 0)] (gPre adK adV (dC, dI) (wM ad cA σ) (tM cA) sz)) (va_Ql (fun (r : Int64) (τ : gs) => InvM τ ∧ mFr [65, 66] [64] σ τ ∧ ((f_X12_dayOf ((τ 0).1 64)).toInt = (f_X12_dayOf ((σ 0).1 64)).toInt + 1 ∧ Deep τ)) (fun τ t => gPost (dC, dI) (va_A (wM ad cA σ) sz) (wM ad cA τ) t) (va_A (wM ad cA σ) sz)) 0 0 (va_A (wM ad cA σ) sz) := by
  refine MetD.ofW (cc := cX12_goesDay) (maxL := 6) (ret := (some .long)) (by decide) rfl ?_
  intro p e s m args below meth c s₁ B hml hv hd0
  obtain ⟨rfl, hsz, hP, hK, hD0, hT⟩ := hv
  have hx := B.exec
  have hb := B.bytes
  have hr := B.returns
  have hts0 := atoms_spec (ws := wsX12_goesDay) B.pre
  have hK0 := hK
  have hown0 : s.vm.findClass RX12 = some m.cls := findClass_of_methodNamed B.named
  have hlocks := B.notSynchronized
  have hinX12 : ∀ w ∈ u_ws RX12 TX12 69, w ∈ wsX12_goesDay := (fun _ h9 => List.mem_cons_of_mem _ (List.mem_append_right _ h9))
  subst hsz
  have hD := hD0.self (sz := s.heap.size)
  generalize hAe : va_A (wM ad cA σ) s.heap.size = A at hD hT ⊢
  have hA : ∀ q : Nat, s.heap.size ≤ q → A q := fun q h => by rw [← hAe]; exact Or.inr h
  have hS : va_S A s.heap s.heap [] := va_S.rf
  have hl := lv_entry ([.ref (ad 0)]) (n := 6) (Nat.le_of_ble_eq_true rfl)
  rw [lg_entry_eq]
  generalize (lg_sl ([.ref (ad 0)]) ++ List.replicate (6 - (lg_sl ([.ref (ad 0)])).length) Slot.unset).toArray = ls at hl ⊢
  have hl : lv_has ls 6 [(0, .ref (ad 0))] := hl
  have hts := dr_words hts0 (s.drawn)
  have hK := gKd hK0 (s.drawn)
  have hown : (s.setDrawn (s.drawn)).vm.findClass RX12 = some m.cls := hown0
  refine lv_aload_n hx hb dX12_goesDay_0 rfl (lv_at hl 0 rfl) ?_
  refine va_get (D := (dC, dI)) (ci := 11) (v := .int ((σ 0).1 64)) (C := RX12) (T := TX12) (N := 69) hx hb hts hinX12 hown hK hP 0 (mat_11 rfl) rfl 64 (by decide) (hts (.fieldLink RX12 377 "BondCalendarsModel" "now" "I") (by decide +kernel)) (fun _ h9 => h9) rfl dX12_goesDay_1 ?_
  have hF := gFree (w := []) (hx_D0 (A := A)) hS hA
  have hKe := hK.sub (tys' := []) [] rfl
  refine va_calli (va_runS (As := [.int ((σ 0).1 64)]) (rest := []) ⟨hx, hb, hml, hown, hts⟩ (k_X12_dayOf l dC dI s.heap.size ((σ 0).1 64) ) (va_cwS 1 hts gX12_goesDay_X12_dayOf rfl rfl rfl (by decide +kernel) ⟨Nat.le_of_ble_eq_true rfl, Nat.le_of_ble_eq_true rfl⟩) ⟨fun a U g mk q => by obtain ⟨q0, q1, qP, qK, qD⟩ := q; exact ⟨q0, q1, qP, va_K.moved (u := U) (U := U.calling g mk a) (Vm.Alike.refl U.vm) qK, qD⟩, fun U hU hW => ⟨rfl, by rw [hU], hx_P0, va_K.moved hW.alike hKe, hx_D0⟩⟩ rfl rfl hl.1 rfl (lv_room (Nat.le_of_ble_eq_true rfl)) dX12_goesDay_4 ⟨Nat.le_of_ble_eq_true rfl, Nat.le_of_ble_eq_true rfl⟩) hS (fun q _ h => hF q h) hF (fun r_1 u t H locs ht hvm hw hB hz1 hk1 hS => ?_)
  have hP := gKeep hP hk1
  have pu_2 : r_1 = f_X12_dayOf ((σ 0).1 64) := hw
  refine lv_iconst (v := 1) hx hb dX12_goesDay_7 (by decide) ?_
  refine lv_iadd hx hb dX12_goesDay_8 ?_
  refine lv_topi (fun x_3 ex_3 => ?_)
  refine lv_istore_n (lv' := [(1, .int x_3), (0, .ref (ad 0))]) hx hb dX12_goesDay_9 rfl hl (by decide) rfl (fun ls hl => ?_)
  refine lv_aload_n hx hb dX12_goesDay_10 rfl (lv_at hl 1 rfl) ?_
  refine lv_iload_n hx hb dX12_goesDay_11 rfl (lv_at hl 0 rfl) ?_
  have hF := gFree hD hS hA
  refine va_calliD hd0 (va_runS_D (As := [.int x_3]) (rest := [.ref (ad 0)]) ⟨hx, hb, hml, hown, hts⟩ (n_X12_dateOf l dC dI ad cA adK adV H.size σ hI x_3 (Int32.le_of_lt (Int32.lt_of_lt_of_le (show ((-1000000) : Int32) < 0 by decide) (cnt_0 (Int32.le_of_lt (Int32.lt_of_lt_of_le (Int32.lt_of_lt_of_le (show (0 : Int32) < 723120 by decide) hh1) (eq_le pu_2.symm))) (Int32.lt_of_le_of_lt (eq_le pu_2) hh2) ex_3)))) (va_cwS 1 hts gX12_goesDay_X12_dateOf rfl rfl rfl (by decide +kernel) ⟨Nat.le_of_ble_eq_true rfl, Nat.le_of_ble_eq_true rfl⟩) ⟨gBlind, gStart (As := [.int x_3]) hP hD hK0 hT hS hF (s.drawn)⟩ rfl rfl hl.1 rfl (lv_room (Nat.le_of_ble_eq_true rfl)) dX12_goesDay_12 ⟨Nat.le_of_ble_eq_true rfl, Nat.le_of_ble_eq_true rfl⟩) hS (fun q _ h => hF q h) hF (fun r_4 σ1 t H locs ht hvm hw hB hz1 hk1 hS d_5 hd0 => ?_)
  have hts := dr_words hts0 (d_5)
  have hK := gKd hK0 (d_5)
  have hown : (s.setDrawn (d_5)).vm.findClass RX12 = some m.cls := hown0
  obtain ⟨hP, hD⟩ := gBack hF ht hB
  obtain ⟨hIσ1, hro, hp_6⟩ := hw
  subst hro
  refine va_put (D := (dC, dI)) (ci := 11) (v := .int r_4) (C := RX12) (T := TX12) (N := 69) hx hb hts hinX12 tyX12 tyX12_ok nmX12 hown hK hP hD hS 0 (mat_11 rfl) rfl 64 (by decide) (hts (.fieldLink RX12 377 "BondCalendarsModel" "now" "I") (by decide +kernel)) (fun _ h9 => h9) rfl (ty := .int) (by decide +kernel) rfl rfl (Nat.le_of_ble_eq_true rfl) dX12_goesDay_15 (fun H locs hP hD hS => ?_)
  obtain ⟨σ2, eσ2, hP, hD⟩ := gPut (mse_11_64 rfl) hP hD
  have hIσ2 : InvM σ2 := by rw [eσ2]; exact minv_I hI (mok_11_64 rfl _)
  have frσ2 : mFr [65, 66] [64] σ σ2 := by rw [eσ2]; exact mFr.oI (mFr.rfl (L := [65, 66]) (F := [64]) (σ := σ)) (by decide)
  refine lv_lconst (v := 0) hx hb dX12_goesDay_18 (by decide) ?_
  refine lv_lstore_n (lv' := [(2, .long 0), (1, .int x_3), (0, .ref (ad 0))]) hx hb dX12_goesDay_19 rfl hl (by decide) rfl (fun ls hl => ?_)
  refine lv_iconst (v := 0) hx hb dX12_goesDay_20 (by decide) ?_
  refine lv_istore (lv' := [(4, .int 0), (2, .long 0), (1, .int x_3), (0, .ref (ad 0))]) hx hb dX12_goesDay_21 hl (by decide) rfl (fun ls hl => ?_)
  refine (fun (h : ∀ (n : Nat) (b4 : Int32) (cm : Int64) (σ23x : gs) (d23 : Drawn) (H : Heap) (locs : List Loc) (ls : Array Slot), ((4 : Int32).toInt - b4.toInt).toNat < n → 0 ≤ b4 → ((f_X12_dayOf ((σ23x 0).1 64)).toInt = (f_X12_dayOf ((σ 0).1 64)).toInt + 1 ∧ NowOK ((σ23x 0).1 64)) → InvM σ23x → mFr [65, 66] [64] σ σ23x → s.drawn.sameBut d23 lw_cs → va_P (dC, dI) vwCl (wM ad cA σ23x) H → va_D A (wM ad cA σ23x) → va_S A s.heap H locs → lv_has ls 6 [(4, .int b4), (2, .long cm), (1, .int x_3), (0, .ref (ad 0))] → W p l e _ (s.setDrawn d23) m _ below meth c H locs _ _ _ (F0 m 23 ls [])) => h _ 0 0 σ2 _ _ _ _ (Nat.lt_succ_self _) (by decide) ⟨(by rw [(show ((σ2 0).1 64 : Int32) = (r_4 : Int32) from by rw [eσ2, gI_self])]; exact (day_1 hh1 hh2 (show x_3 = f_X12_dayOf ((σ 0).1 64) + 1 from by rw [ex_3, pu_2]) hp_6).1), (by rw [(show ((σ2 0).1 64 : Int32) = (r_4 : Int32) from by rw [eσ2, gI_self])]; exact (day_1 hh1 hh2 (show x_3 = f_X12_dayOf ((σ 0).1 64) + 1 from by rw [ex_3, pu_2]) hp_6).2)⟩ hIσ2 frσ2 hd0 hP hD hS (lv_sub hl [0, 1, 2, 3] rfl)) ?_
  intro n23
  induction n23 with
  | zero => intro b4 cm σ23x d23 H locs ls hm; exact absurd hm (Nat.not_lt_zero _)
  | succ n23 ih23 =>
    intro b4 cm σ23x d23 H locs ls hm23 iv23_0 iv23_1 hIσ23x frσ23x hd0 hP hD hS hl
    have hts := dr_words hts0 (d23)
    have hK := gKd hK0 (d23)
    have hown : (s.setDrawn (d23)).vm.findClass RX12 = some m.cls := hown0
    refine lv_iload hx hb dX12_goesDay_23 (lv_at hl 0 rfl) ?_
    refine lv_aload_n hx hb dX12_goesDay_25 rfl (lv_at hl 3 rfl) ?_
    have bd_7 := mrd_11_20 (c := 0) hI rfl
    refine va_get (D := (dC, dI)) (ci := 11) (v := .int ((σ 0).1 20)) (C := RX12) (T := TX12) (N := 69) hx hb hts hinX12 hown hK hP 0 (mat_11 rfl) rfl 20 (by decide) (hts (.fieldLink RX12 358 "BondCalendarsModel" "bonds" "I") (by decide +kernel)) (fun _ h9 => h9) (congrArg (fun z => some (Value.int z)) (show (σ23x 0).1 20 = ((σ 0).1 20) from by rw [frσ23x.2 20 (by decide)])) dX12_goesDay_26 ?_
    refine lv_icmp_ge (tgt := 145) hx hb dX12_goesDay_29 (by decide) (fun c_8 => ?_) (fun c_8 => ?_)
    · refine lv_aload_n hx hb dX12_goesDay_145 rfl (lv_at hl 3 rfl) ?_
      refine lv_dup hx hb dX12_goesDay_146 rfl ?_
      refine va_get (D := (dC, dI)) (ci := 11) (v := .long ((σ23x 0).2.1 66)) (C := RX12) (T := TX12) (N := 69) hx hb hts hinX12 hown hK hP 0 (mat_11 rfl) rfl 66 (by decide) (hts (.fieldLink RX12 380 "BondCalendarsModel" "cash" "J") (by decide +kernel)) (fun _ h9 => h9) rfl dX12_goesDay_147 ?_
      refine lv_lload_n hx hb dX12_goesDay_150 rfl (lv_at hl 1 rfl) ?_
      refine lv_ladd hx hb dX12_goesDay_151 ?_
      refine lv_topl (fun x_9 ex_9 => ?_)
      refine va_put (D := (dC, dI)) (ci := 11) (v := .long x_9) (C := RX12) (T := TX12) (N := 69) hx hb hts hinX12 tyX12 tyX12_ok nmX12 hown hK hP hD hS 0 (mat_11 rfl) rfl 66 (by decide) (hts (.fieldLink RX12 380 "BondCalendarsModel" "cash" "J") (by decide +kernel)) (fun _ h9 => h9) rfl (ty := .long) (by decide +kernel) rfl rfl (Nat.le_of_ble_eq_true rfl) dX12_goesDay_152 (fun H locs hP hD hS => ?_)
      obtain ⟨σ3, eσ3, hP, hD⟩ := gPut (mse_11_66 rfl) hP hD
      have hIσ3 : InvM σ3 := by rw [eσ3]; exact minv_L hIσ23x
      have frσ3 : mFr [65, 66] [64] σ σ3 := by rw [eσ3]; exact mFr.oL frσ23x
      refine lv_lload_n hx hb dX12_goesDay_155 rfl (lv_at hl 1 rfl) ?_
      refine W.endD hd0 ?_
      exact W.lret (v := cm) hx hb hr (fun t ht hW => ⟨⟨cm, σ3, rfl, ⟨hIσ3, frσ3, ⟨(by rw [(show ((σ3 0).1 64 : Int32) = ((σ23x 0).1 64 : Int32) from by rw [eσ3, gL_i])]; exact iv23_1.1), (Deep.day hh0 (by rw [eσ3, gL_ne _ _ _ (by decide), frσ23x.1 2 (by decide) (by decide)]) (by rw [eσ3, gL_ne _ _ _ (by decide), frσ23x.1 4 (by decide) (by decide)]) (by rw [eσ3, gL_ne _ _ _ (by decide), frσ23x.1 9 (by decide) (by decide)]) (by rw [eσ3, gL_ne _ _ _ (by decide), frσ23x.1 11 (by decide) (by decide)]) (by rw [eσ3, gL_ne _ _ _ (by decide), frσ23x.1 12 (by decide) (by decide)]) (by rw [eσ3, gL_ne _ _ _ (by decide), frσ23x.1 17 (by decide) (by decide)]) (by rw [eσ3, gL_ne _ _ _ (by decide), frσ23x.1 18 (by decide) (by decide)]) (by rw [eσ3, gL_i, frσ23x.2 20 (by decide)]) (by rw [eσ3, gL_i, frσ23x.2 21 (by decide)]) (Or.inr (by rw [(show ((σ3 0).1 64 : Int32) = ((σ23x 0).1 64 : Int32) from by rw [eσ3, gL_i])]; exact iv23_1.2)) (dk_same (by rw [eσ3, gL_i, frσ23x.2 68 (by decide)]) (by rw [eσ3, gL_i, frσ23x.2 65 (by decide)]) hh0.2.2.2))⟩⟩, ⟨by rw [ht]; exact hP, hD⟩⟩, hS.F ht⟩) hS.2.2 dX12_goesDay_156
    · refine lv_iconst (v := 0) hx hb dX12_goesDay_32 (by decide) ?_
      refine lv_istore (lv' := [(5, .int 0), (4, .int b4), (2, .long cm), (1, .int x_3), (0, .ref (ad 0))]) hx hb dX12_goesDay_33 hl (by decide) rfl (fun ls hl => ?_)
      refine (fun (h : ∀ (n : Nat) (k5 : Int32) (σ35x : gs) (d35 : Drawn) (H : Heap) (locs : List Loc) (ls : Array Slot), ((82 : Int32).toInt - k5.toInt).toNat < n → 0 ≤ k5 → ((f_X12_dayOf ((σ35x 0).1 64)).toInt = (f_X12_dayOf ((σ 0).1 64)).toInt + 1 ∧ NowOK ((σ35x 0).1 64)) → InvM σ35x → mFr [65, 66] [64] σ σ35x → s.drawn.sameBut d35 lw_cs → va_P (dC, dI) vwCl (wM ad cA σ35x) H → va_D A (wM ad cA σ35x) → va_S A s.heap H locs → lv_has ls 6 [(5, .int k5), (4, .int b4), (2, .long cm), (1, .int x_3), (0, .ref (ad 0))] → W p l e _ (s.setDrawn d35) m _ below meth c H locs _ _ _ (F0 m 35 ls [])) => h _ 0 σ23x _ _ _ _ (Nat.lt_succ_self _) (by decide) ⟨iv23_1.1, iv23_1.2⟩ hIσ23x frσ23x hd0 hP hD hS (lv_sub hl [0, 1, 2, 3, 4] rfl)) ?_
      intro n35
      induction n35 with
      | zero => intro k5 σ35x d35 H locs ls hm; exact absurd hm (Nat.not_lt_zero _)
      | succ n35 ih35 =>
        intro k5 σ35x d35 H locs ls hm35 iv35_0 iv35_1 hIσ35x frσ35x hd0 hP hD hS hl
        have hts := dr_words hts0 (d35)
        have hK := gKd hK0 (d35)
        have hown : (s.setDrawn (d35)).vm.findClass RX12 = some m.cls := hown0
        refine lv_iload hx hb dX12_goesDay_35 (lv_at hl 0 rfl) ?_
        refine lv_aload_n hx hb dX12_goesDay_37 rfl (lv_at hl 4 rfl) ?_
        refine va_get (D := (dC, dI)) (ci := 11) (v := .ref (ad 17)) (C := RX12) (T := TX12) (N := 69) hx hb hts hinX12 hown hK hP 0 (mat_11 rfl) rfl 39 (by decide) (hts (.fieldLink RX12 64 "BondCalendarsModel" "periodMany" "[I") (by decide +kernel)) (fun _ h9 => h9) rfl dX12_goesDay_38 ?_
        refine lv_iload hx hb dX12_goesDay_41 (lv_at hl 1 rfl) ?_
        refine va_iald hx hb hK hP 17 17 (mat_57 rfl) (mty_57 rfl) (gin (N := 4) (by decide) iv23_0 (Int32.lt_of_lt_of_le (Int32.not_le.mp c_8) bd_7.2)) dX12_goesDay_43 ?_
        refine lv_topi (fun x_10 ex_10 => ?_)
        have ex_10 : x_10 = ((σ 17).1 b4.toNatClampNeg) := by rw [ex_10, frσ35x.1 17 (by decide) (by decide)]
        have bd_11 := mrd_57 (c := 17) hI rfl b4.toNatClampNeg
        refine lv_icmp_ge (tgt := 90) hx hb dX12_goesDay_44 (by decide) (fun c_12 => ?_) (fun c_12 => ?_)
        · refine lv_iconst (v := 0) hx hb dX12_goesDay_90 (by decide) ?_
          refine lv_istore (lv' := [(5, .int 0), (4, .int b4), (2, .long cm), (1, .int x_3), (0, .ref (ad 0))]) hx hb dX12_goesDay_91 hl (by decide) rfl (fun ls hl => ?_)
          refine (fun (h : ∀ (n : Nat) (k6 : Int32) (cn : Int64) (σ93x : gs) (d93 : Drawn) (H : Heap) (locs : List Loc) (ls : Array Slot), ((82 : Int32).toInt - k6.toInt).toNat < n → 0 ≤ k6 → ((f_X12_dayOf ((σ93x 0).1 64)).toInt = (f_X12_dayOf ((σ 0).1 64)).toInt + 1 ∧ NowOK ((σ93x 0).1 64)) → InvM σ93x → mFr [65, 66] [64] σ σ93x → s.drawn.sameBut d93 lw_cs → va_P (dC, dI) vwCl (wM ad cA σ93x) H → va_D A (wM ad cA σ93x) → va_S A s.heap H locs → lv_has ls 6 [(5, .int k6), (4, .int b4), (2, .long cn), (1, .int x_3), (0, .ref (ad 0))] → W p l e _ (s.setDrawn d93) m _ below meth c H locs _ _ _ (F0 m 93 ls [])) => h _ 0 cm σ35x _ _ _ _ (Nat.lt_succ_self _) (by decide) ⟨iv35_1.1, iv35_1.2⟩ hIσ35x frσ35x hd0 hP hD hS (lv_sub hl [0, 1, 2, 3, 4] rfl)) ?_
          intro n93
          induction n93 with
          | zero => intro k6 cn σ93x d93 H locs ls hm; exact absurd hm (Nat.not_lt_zero _)
          | succ n93 ih93 =>
            intro k6 cn σ93x d93 H locs ls hm93 iv93_0 iv93_1 hIσ93x frσ93x hd0 hP hD hS hl
            have hts := dr_words hts0 (d93)
            have hK := gKd hK0 (d93)
            have hown : (s.setDrawn (d93)).vm.findClass RX12 = some m.cls := hown0
            refine lv_iload hx hb dX12_goesDay_93 (lv_at hl 0 rfl) ?_
            refine lv_aload_n hx hb dX12_goesDay_95 rfl (lv_at hl 4 rfl) ?_
            refine va_get (D := (dC, dI)) (ci := 11) (v := .ref (ad 17)) (C := RX12) (T := TX12) (N := 69) hx hb hts hinX12 hown hK hP 0 (mat_11 rfl) rfl 39 (by decide) (hts (.fieldLink RX12 64 "BondCalendarsModel" "periodMany" "[I") (by decide +kernel)) (fun _ h9 => h9) rfl dX12_goesDay_96 ?_
            refine lv_iload hx hb dX12_goesDay_99 (lv_at hl 1 rfl) ?_
            refine va_iald hx hb hK hP 17 17 (mat_57 rfl) (mty_57 rfl) (gin (N := 4) (by decide) iv23_0 (Int32.lt_of_lt_of_le (Int32.not_le.mp c_8) bd_7.2)) dX12_goesDay_101 ?_
            refine lv_topi (fun x_13 ex_13 => ?_)
            have ex_13 : x_13 = ((σ 17).1 b4.toNatClampNeg) := by rw [ex_13, frσ93x.1 17 (by decide) (by decide)]
            have bd_14 := mrd_57 (c := 17) hI rfl b4.toNatClampNeg
            refine lv_icmp_ge (tgt := 139) hx hb dX12_goesDay_102 (by decide) (fun c_15 => ?_) (fun c_15 => ?_)
            · obtain ⟨x_16, ex_16⟩ : ∃ zz : Int32, zz = b4 + 1 := ⟨_, rfl⟩
              refine lv_iinc (v := x_16) (lv' := [(4, .int x_16), (5, .int k6), (2, .long cn), (1, .int x_3), (0, .ref (ad 0))]) hx hb dX12_goesDay_139 hl (k := 1) rfl (by rw [ex_16]; rfl) (by decide) rfl (fun ls hl => ?_)
              refine lv_goto (tgt := 23) hx hb dX12_goesDay_142 (by decide) ?_
              exact ih23 x_16 cn σ93x _ _ _ _ (cnt_m iv23_0 (Int32.lt_of_lt_of_le (Int32.not_le.mp c_8) bd_7.2) hm23 ex_16) (cnt_0 iv23_0 (Int32.lt_of_lt_of_le (Int32.not_le.mp c_8) bd_7.2) ex_16) ⟨iv93_1.1, iv93_1.2⟩ hIσ93x frσ93x hd0 hP hD hS (lv_sub hl [0, 2, 3, 4] rfl)
            · refine lv_aload_n hx hb dX12_goesDay_105 rfl (lv_at hl 4 rfl) ?_
              refine va_get (D := (dC, dI)) (ci := 11) (v := .ref (ad 20)) (C := RX12) (T := TX12) (N := 69) hx hb hts hinX12 hown hK hP 0 (mat_11 rfl) rfl 42 (by decide) (hts (.fieldLink RX12 73 "BondCalendarsModel" "payDay" "[I") (by decide +kernel)) (fun _ h9 => h9) rfl dX12_goesDay_106 ?_
              refine lv_bipush (v := 82) hx hb dX12_goesDay_109 (by decide) ?_
              refine lv_iload hx hb dX12_goesDay_111 (lv_at hl 1 rfl) ?_
              refine lv_imul hx hb dX12_goesDay_113 ?_
              refine lv_topi (fun x_17 ex_17 => ?_)
              refine lv_iload hx hb dX12_goesDay_114 (lv_at hl 0 rfl) ?_
              refine lv_iadd hx hb dX12_goesDay_116 ?_
              refine lv_topi (fun x_18 ex_18 => ?_)
              have hi_19 : vp_in x_18 328 := by have ab1 : (0 : Int) ≤ b4.toInt := Int32.le_iff_toInt_le.mp iv23_0; have ab2 : b4.toInt ≤ (3 : Int) := Int32.le_iff_toInt_le.mp (gl2 (b := 3) (Int32.lt_of_lt_of_le (Int32.not_le.mp c_8) bd_7.2) (by decide)); have tt3 : x_17.toInt = (82 * b4.toInt) := (by rw [ex_17]; exact i3_mul (a := (82 : Int32)) (b := b4) (x := 82) (y := b4.toInt) rfl rfl (by omega) (by omega)); have ab4 : (0 : Int) ≤ k6.toInt := Int32.le_iff_toInt_le.mp iv93_0; have ab5 : k6.toInt ≤ (81 : Int) := Int32.le_iff_toInt_le.mp (gl2 (b := 81) (Int32.lt_of_lt_of_le (Int32.lt_of_lt_of_le (Int32.not_le.mp c_15) (eq_le ex_13)) bd_11.2) (by decide)); have tt6 : x_18.toInt = ((82 * b4.toInt) + k6.toInt) := (by rw [ex_18]; exact i3_add (a := x_17) (b := k6) (x := (82 * b4.toInt)) (y := k6.toInt) tt3 rfl (by omega) (by omega)); have z0 : (0 : Int32).toInt = 0 := (by decide); have zn : (328 : Int32).toInt = 328 := (by decide); exact gin (N := 328) (by decide) (Int32.le_iff_toInt_le.mpr (by omega)) (Int32.lt_iff_toInt_lt.mpr (by omega))
              refine va_iald hx hb hK hP 20 20 (mat_60 rfl) (mty_60 rfl) hi_19 dX12_goesDay_117 ?_
              refine lv_topi (fun x_20 ex_20 => ?_)
              have ex_20 : x_20 = ((σ 20).1 x_18.toNatClampNeg) := by rw [ex_20, frσ93x.1 20 (by decide) (by decide)]
              have bd_21 := mrd_60 (c := 20) hI rfl x_18.toNatClampNeg
              refine lv_iload_n hx hb dX12_goesDay_118 rfl (lv_at hl 3 rfl) ?_
              refine lv_icmp_ne (tgt := 133) hx hb dX12_goesDay_119 (by decide) (fun c_22 => ?_) (fun c_22 => ?_)
              · obtain ⟨x_23, ex_23⟩ : ∃ zz : Int32, zz = k6 + 1 := ⟨_, rfl⟩
                refine lv_iinc (v := x_23) (lv' := [(5, .int x_23), (4, .int b4), (2, .long cn), (1, .int x_3), (0, .ref (ad 0))]) hx hb dX12_goesDay_133 hl (k := 0) rfl (by rw [ex_23]; rfl) (by decide) rfl (fun ls hl => ?_)
                refine lv_goto (tgt := 93) hx hb dX12_goesDay_136 (by decide) ?_
                exact ih93 x_23 cn σ93x _ _ _ _ (cnt_m iv93_0 (Int32.lt_of_lt_of_le (cnt_lt iv93_0 (Int32.lt_of_lt_of_le (Int32.lt_of_lt_of_le (Int32.not_le.mp c_15) (eq_le ex_13)) bd_11.2) ex_23) (cnt_N iv93_0 (Int32.lt_of_lt_of_le (Int32.lt_of_lt_of_le (Int32.not_le.mp c_15) (eq_le ex_13)) bd_11.2) ex_23)) hm93 ex_23) (cnt_0 iv93_0 (Int32.lt_of_lt_of_le (cnt_lt iv93_0 (Int32.lt_of_lt_of_le (Int32.lt_of_lt_of_le (Int32.not_le.mp c_15) (eq_le ex_13)) bd_11.2) ex_23) (cnt_N iv93_0 (Int32.lt_of_lt_of_le (Int32.lt_of_lt_of_le (Int32.not_le.mp c_15) (eq_le ex_13)) bd_11.2) ex_23)) ex_23) ⟨iv93_1.1, iv93_1.2⟩ hIσ93x frσ93x hd0 hP hD hS (lv_sub hl [0, 1, 2, 3, 4] rfl)
              · refine lv_lload_n hx hb dX12_goesDay_122 rfl (lv_at hl 2 rfl) ?_
                refine lv_aload_n hx hb dX12_goesDay_123 rfl (lv_at hl 4 rfl) ?_
                refine lv_iload hx hb dX12_goesDay_124 (lv_at hl 1 rfl) ?_
                refine lv_iload hx hb dX12_goesDay_126 (lv_at hl 0 rfl) ?_
                have hF := gFree hD hS hA
                refine va_calllD hd0 (va_runV_D (As := [.int b4, .int k6]) (rest := [.long cn]) ⟨hx, hb, hml, hown, hts⟩ (n_X12_pays l dC dI ad cA adK adV H.size σ93x hIσ93x b4 k6 iv23_0 (Int32.lt_of_lt_of_le (Int32.not_le.mp c_8) bd_7.2) iv93_0 (Int32.lt_of_lt_of_le (Int32.lt_of_lt_of_le (Int32.not_le.mp c_15) (eq_le ex_13)) bd_11.2) (GridOK.cells (hh0.1 _ (nc_lt iv23_0 (Int32.not_le.mp c_8))).1 (by rw [frσ93x.1 2 (by decide) (by decide)]) (by rw [frσ93x.1 9 (by decide) (by decide)]))) (cwV 2 hts gX12_goesDay_X12_pays rfl rfl rfl (by decide +kernel) ⟨Nat.le_of_ble_eq_true rfl, Nat.le_of_ble_eq_true rfl⟩) ⟨gBlind, va_recv hK hP (ci := 11) (q0 := 0) rfl (mat_11 rfl), gStart (As := [.ref (ad 0), .int b4, .int k6]) hP hD hK0 hT hS hF (d93)⟩ rfl rfl hl.1 rfl (lv_room (Nat.le_of_ble_eq_true rfl)) dX12_goesDay_128 ⟨Nat.le_of_ble_eq_true rfl, Nat.le_of_ble_eq_true rfl⟩) hS (fun q _ h => hF q h) hF (fun r_24 σ4 t H locs ht hvm hw hB hz1 hk1 hS d_25 hd0 => ?_)
                have hts := dr_words hts0 (d_25)
                have hK := gKd hK0 (d_25)
                have hown : (s.setDrawn (d_25)).vm.findClass RX12 = some m.cls := hown0
                obtain ⟨hP, hD⟩ := gBack hF ht hB
                obtain ⟨hIσ4, fcσ4, hp_26⟩ := hw
                refine lv_ladd hx hb dX12_goesDay_131 ?_
                refine lv_topl (fun x_27 ex_27 => ?_)
                refine lv_lstore_n (lv' := [(2, .long x_27), (5, .int k6), (4, .int b4), (1, .int x_3), (0, .ref (ad 0))]) hx hb dX12_goesDay_132 rfl hl (by decide) rfl (fun ls hl => ?_)
                obtain ⟨x_28, ex_28⟩ : ∃ zz : Int32, zz = k6 + 1 := ⟨_, rfl⟩
                refine lv_iinc (v := x_28) (lv' := [(5, .int x_28), (2, .long x_27), (4, .int b4), (1, .int x_3), (0, .ref (ad 0))]) hx hb dX12_goesDay_133 hl (k := 1) rfl (by rw [ex_28]; rfl) (by decide) rfl (fun ls hl => ?_)
                refine lv_goto (tgt := 93) hx hb dX12_goesDay_136 (by decide) ?_
                exact ih93 x_28 x_27 σ4 _ _ _ _ (cnt_m iv93_0 (Int32.lt_of_lt_of_le (cnt_lt iv93_0 (Int32.lt_of_lt_of_le (Int32.lt_of_lt_of_le (Int32.not_le.mp c_15) (eq_le ex_13)) bd_11.2) ex_28) (cnt_N iv93_0 (Int32.lt_of_lt_of_le (Int32.lt_of_lt_of_le (Int32.not_le.mp c_15) (eq_le ex_13)) bd_11.2) ex_28)) hm93 ex_28) (cnt_0 iv93_0 (Int32.lt_of_lt_of_le (cnt_lt iv93_0 (Int32.lt_of_lt_of_le (Int32.lt_of_lt_of_le (Int32.not_le.mp c_15) (eq_le ex_13)) bd_11.2) ex_28) (cnt_N iv93_0 (Int32.lt_of_lt_of_le (Int32.lt_of_lt_of_le (Int32.not_le.mp c_15) (eq_le ex_13)) bd_11.2) ex_28)) ex_28) ⟨(by rw [(show ((σ4 0).1 64 : Int32) = ((σ93x 0).1 64 : Int32) from by rw [fcσ4.2 64 (by decide)])]; exact iv93_1.1), (by rw [(show ((σ4 0).1 64 : Int32) = ((σ93x 0).1 64 : Int32) from by rw [fcσ4.2 64 (by decide)])]; exact iv93_1.2)⟩ hIσ4 (mFr.tr frσ93x fcσ4 (by decide) (by decide)) hd0 hP hD hS (lv_sub hl [0, 2, 1, 3, 4] rfl)
        · refine lv_aload_n hx hb dX12_goesDay_47 rfl (lv_at hl 4 rfl) ?_
          refine va_get (D := (dC, dI)) (ci := 11) (v := .ref (ad 19)) (C := RX12) (T := TX12) (N := 69) hx hb hts hinX12 hown hK hP 0 (mat_11 rfl) rfl 41 (by decide) (hts (.fieldLink RX12 70 "BondCalendarsModel" "exDay" "[I") (by decide +kernel)) (fun _ h9 => h9) rfl dX12_goesDay_48 ?_
          refine lv_bipush (v := 82) hx hb dX12_goesDay_51 (by decide) ?_
          refine lv_iload hx hb dX12_goesDay_53 (lv_at hl 1 rfl) ?_
          refine lv_imul hx hb dX12_goesDay_55 ?_
          refine lv_topi (fun x_29 ex_29 => ?_)
          refine lv_iload hx hb dX12_goesDay_56 (lv_at hl 0 rfl) ?_
          refine lv_iadd hx hb dX12_goesDay_58 ?_
          refine lv_topi (fun x_30 ex_30 => ?_)
          have hi_31 : vp_in x_30 328 := by have ab1 : (0 : Int) ≤ b4.toInt := Int32.le_iff_toInt_le.mp iv23_0; have ab2 : b4.toInt ≤ (3 : Int) := Int32.le_iff_toInt_le.mp (gl2 (b := 3) (Int32.lt_of_lt_of_le (Int32.not_le.mp c_8) bd_7.2) (by decide)); have tt3 : x_29.toInt = (82 * b4.toInt) := (by rw [ex_29]; exact i3_mul (a := (82 : Int32)) (b := b4) (x := 82) (y := b4.toInt) rfl rfl (by omega) (by omega)); have ab4 : (0 : Int) ≤ k5.toInt := Int32.le_iff_toInt_le.mp iv35_0; have ab5 : k5.toInt ≤ (81 : Int) := Int32.le_iff_toInt_le.mp (gl2 (b := 81) (Int32.lt_of_lt_of_le (Int32.lt_of_lt_of_le (Int32.not_le.mp c_12) (eq_le ex_10)) bd_11.2) (by decide)); have tt6 : x_30.toInt = ((82 * b4.toInt) + k5.toInt) := (by rw [ex_30]; exact i3_add (a := x_29) (b := k5) (x := (82 * b4.toInt)) (y := k5.toInt) tt3 rfl (by omega) (by omega)); have z0 : (0 : Int32).toInt = 0 := (by decide); have zn : (328 : Int32).toInt = 328 := (by decide); exact gin (N := 328) (by decide) (Int32.le_iff_toInt_le.mpr (by omega)) (Int32.lt_iff_toInt_lt.mpr (by omega))
          refine va_iald hx hb hK hP 19 19 (mat_59 rfl) (mty_59 rfl) hi_31 dX12_goesDay_59 ?_
          refine lv_topi (fun x_32 ex_32 => ?_)
          have ex_32 : x_32 = ((σ 19).1 x_30.toNatClampNeg) := by rw [ex_32, frσ35x.1 19 (by decide) (by decide)]
          have bd_33 := mrd_59 (c := 19) hI rfl x_30.toNatClampNeg
          refine lv_iload_n hx hb dX12_goesDay_60 rfl (lv_at hl 3 rfl) ?_
          refine lv_icmp_ne (tgt := 84) hx hb dX12_goesDay_61 (by decide) (fun c_34 => ?_) (fun c_34 => ?_)
          · obtain ⟨x_35, ex_35⟩ : ∃ zz : Int32, zz = k5 + 1 := ⟨_, rfl⟩
            refine lv_iinc (v := x_35) (lv' := [(5, .int x_35), (4, .int b4), (2, .long cm), (1, .int x_3), (0, .ref (ad 0))]) hx hb dX12_goesDay_84 hl (k := 0) rfl (by rw [ex_35]; rfl) (by decide) rfl (fun ls hl => ?_)
            refine lv_goto (tgt := 35) hx hb dX12_goesDay_87 (by decide) ?_
            exact ih35 x_35 σ35x _ _ _ _ (cnt_m iv35_0 (Int32.lt_of_lt_of_le (cnt_lt iv35_0 (Int32.lt_of_lt_of_le (Int32.lt_of_lt_of_le (Int32.not_le.mp c_12) (eq_le ex_10)) bd_11.2) ex_35) (cnt_N iv35_0 (Int32.lt_of_lt_of_le (Int32.lt_of_lt_of_le (Int32.not_le.mp c_12) (eq_le ex_10)) bd_11.2) ex_35)) hm35 ex_35) (cnt_0 iv35_0 (Int32.lt_of_lt_of_le (cnt_lt iv35_0 (Int32.lt_of_lt_of_le (Int32.lt_of_lt_of_le (Int32.not_le.mp c_12) (eq_le ex_10)) bd_11.2) ex_35) (cnt_N iv35_0 (Int32.lt_of_lt_of_le (Int32.lt_of_lt_of_le (Int32.not_le.mp c_12) (eq_le ex_10)) bd_11.2) ex_35)) ex_35) ⟨iv35_1.1, iv35_1.2⟩ hIσ35x frσ35x hd0 hP hD hS (lv_sub hl [0, 1, 2, 3, 4] rfl)
          · refine lv_aload_n hx hb dX12_goesDay_64 rfl (lv_at hl 4 rfl) ?_
            refine va_get (D := (dC, dI)) (ci := 11) (v := .ref (ad 26)) (C := RX12) (T := TX12) (N := 69) hx hb hts hinX12 hown hK hP 0 (mat_11 rfl) rfl 59 (by decide) (hts (.fieldLink RX12 92 "BondCalendarsModel" "entitled" "[I") (by decide +kernel)) (fun _ h9 => h9) rfl dX12_goesDay_65 ?_
            refine lv_bipush (v := 82) hx hb dX12_goesDay_68 (by decide) ?_
            refine lv_iload hx hb dX12_goesDay_70 (lv_at hl 1 rfl) ?_
            refine lv_imul hx hb dX12_goesDay_72 ?_
            refine lv_topi (fun x_36 ex_36 => ?_)
            refine lv_iload hx hb dX12_goesDay_73 (lv_at hl 0 rfl) ?_
            refine lv_iadd hx hb dX12_goesDay_75 ?_
            refine lv_topi (fun x_37 ex_37 => ?_)
            refine lv_aload_n hx hb dX12_goesDay_76 rfl (lv_at hl 4 rfl) ?_
            refine va_get (D := (dC, dI)) (ci := 11) (v := .ref (ad 25)) (C := RX12) (T := TX12) (N := 69) hx hb hts hinX12 hown hK hP 0 (mat_11 rfl) rfl 58 (by decide) (hts (.fieldLink RX12 89 "BondCalendarsModel" "held" "[I") (by decide +kernel)) (fun _ h9 => h9) rfl dX12_goesDay_77 ?_
            refine lv_iload hx hb dX12_goesDay_80 (lv_at hl 1 rfl) ?_
            refine va_iald hx hb hK hP 25 25 (mat_65 rfl) (mty_65 rfl) (gin (N := 4) (by decide) iv23_0 (Int32.lt_of_lt_of_le (Int32.not_le.mp c_8) bd_7.2)) dX12_goesDay_82 ?_
            refine lv_topi (fun x_38 ex_38 => ?_)
            have hi_39 : vp_in x_37 328 := by have ab1 : (0 : Int) ≤ b4.toInt := Int32.le_iff_toInt_le.mp iv23_0; have ab2 : b4.toInt ≤ (3 : Int) := Int32.le_iff_toInt_le.mp (gl2 (b := 3) (Int32.lt_of_lt_of_le (Int32.not_le.mp c_8) bd_7.2) (by decide)); have tt3 : x_36.toInt = (82 * b4.toInt) := (by rw [ex_36]; exact i3_mul (a := (82 : Int32)) (b := b4) (x := 82) (y := b4.toInt) rfl rfl (by omega) (by omega)); have ab4 : (0 : Int) ≤ k5.toInt := Int32.le_iff_toInt_le.mp iv35_0; have ab5 : k5.toInt ≤ (81 : Int) := Int32.le_iff_toInt_le.mp (gl2 (b := 81) (Int32.lt_of_lt_of_le (Int32.lt_of_lt_of_le (Int32.not_le.mp c_12) (eq_le ex_10)) bd_11.2) (by decide)); have tt6 : x_37.toInt = ((82 * b4.toInt) + k5.toInt) := (by rw [ex_37]; exact i3_add (a := x_36) (b := k5) (x := (82 * b4.toInt)) (y := k5.toInt) tt3 rfl (by omega) (by omega)); have z0 : (0 : Int32).toInt = 0 := (by decide); have zn : (328 : Int32).toInt = 328 := (by decide); exact gin (N := 328) (by decide) (Int32.le_iff_toInt_le.mpr (by omega)) (Int32.lt_iff_toInt_lt.mpr (by omega))
            refine va_iast hx hb hK hP hD hS 26 26 (mat_66 rfl) (mty_66 rfl) hi_39 dX12_goesDay_83 (fun H locs hP hD hS => ?_)
            obtain ⟨σ5, eσ5, hP, hD⟩ := gPut (mse_66 rfl) hP hD
            have hIσ5 : InvM σ5 := by rw [eσ5]; exact minv_I hIσ35x (mok_66 rfl _ _)
            have frσ5 : mFr [65, 66] [64] σ σ5 := by rw [eσ5]; exact mFr.aI frσ35x (by decide) (by decide)
            obtain ⟨x_40, ex_40⟩ : ∃ zz : Int32, zz = k5 + 1 := ⟨_, rfl⟩
            refine lv_iinc (v := x_40) (lv' := [(5, .int x_40), (4, .int b4), (2, .long cm), (1, .int x_3), (0, .ref (ad 0))]) hx hb dX12_goesDay_84 hl (k := 0) rfl (by rw [ex_40]; rfl) (by decide) rfl (fun ls hl => ?_)
            refine lv_goto (tgt := 35) hx hb dX12_goesDay_87 (by decide) ?_
            exact ih35 x_40 σ5 _ _ _ _ (cnt_m iv35_0 (Int32.lt_of_lt_of_le (cnt_lt iv35_0 (Int32.lt_of_lt_of_le (Int32.lt_of_lt_of_le (Int32.not_le.mp c_12) (eq_le ex_10)) bd_11.2) ex_40) (cnt_N iv35_0 (Int32.lt_of_lt_of_le (Int32.lt_of_lt_of_le (Int32.not_le.mp c_12) (eq_le ex_10)) bd_11.2) ex_40)) hm35 ex_40) (cnt_0 iv35_0 (Int32.lt_of_lt_of_le (cnt_lt iv35_0 (Int32.lt_of_lt_of_le (Int32.lt_of_lt_of_le (Int32.not_le.mp c_12) (eq_le ex_10)) bd_11.2) ex_40) (cnt_N iv35_0 (Int32.lt_of_lt_of_le (Int32.lt_of_lt_of_le (Int32.not_le.mp c_12) (eq_le ex_10)) bd_11.2) ex_40)) ex_40) ⟨(by rw [(show ((σ5 0).1 64 : Int32) = ((σ35x 0).1 64 : Int32) from by rw [eσ5, gI_ne _ _ _ (by decide)])]; exact iv35_1.1), (by rw [(show ((σ5 0).1 64 : Int32) = ((σ35x 0).1 64 : Int32) from by rw [eσ5, gI_ne _ _ _ (by decide)])]; exact iv35_1.2)⟩ hIσ5 frσ5 hd0 hP hD hS (lv_sub hl [0, 1, 2, 3, 4] rfl)
set_option maxHeartbeats 8000000 in
set_option maxRecDepth 100000 in
theorem n_X12_goesDays (l : Launch) (dC : Nat → ClassId) (dI : Nat → Nat → Nat) (ad : Nat → Nat) (cA : Nat → ClassId) (adK adV : Nat → Nat) (sz : Nat) (σ : gs) (hI : InvM σ) (p0 : Int32) (hh0 : Deep σ) (hh1 : 723120 ≤ f_X12_dayOf ((σ 0).1 64)) (hh2 : (f_X12_dayOf ((σ 0).1 64)).toInt + p0.toInt ≤ 759644) : MetD lw_cs l yX12_goesDays wsX12_goesDays ({ frames := 7, cells := 0, slots := 0, locals := 181 }) (va_Pc [.ref (ad 0), .int p0] (gPre adK adV (dC, dI) (wM ad cA σ) (tM cA) sz)) (va_Ql (fun (r : Int64) (τ : gs) => InvM τ ∧ mFr [65, 66] [64] σ τ ∧ (Deep τ)) (fun τ t => gPost (dC, dI) (va_A (wM ad cA σ) sz) (wM ad cA τ) t) (va_A (wM ad cA σ) sz)) 0 0 (va_A (wM ad cA σ) sz) := by
  refine MetD.ofW (cc := cX12_goesDays) (maxL := 5) (ret := (some .long)) (by decide) rfl ?_
  intro p e s m args below meth c s₁ B hml hv hd0
  obtain ⟨rfl, hsz, hP, hK, hD0, hT⟩ := hv
  have hx := B.exec
  have hb := B.bytes
  have hr := B.returns
  have hts0 := atoms_spec (ws := wsX12_goesDays) B.pre
  have hK0 := hK
  have hown0 : s.vm.findClass RX12 = some m.cls := findClass_of_methodNamed B.named
  have hlocks := B.notSynchronized
  subst hsz
  have hD := hD0.self (sz := s.heap.size)
  generalize hAe : va_A (wM ad cA σ) s.heap.size = A at hD hT ⊢
  have hA : ∀ q : Nat, s.heap.size ≤ q → A q := fun q h => by rw [← hAe]; exact Or.inr h
  have hS : va_S A s.heap s.heap [] := va_S.rf
  have hl := lv_entry ([.ref (ad 0), .int p0]) (n := 5) (Nat.le_of_ble_eq_true rfl)
  rw [lg_entry_eq]
  generalize (lg_sl ([.ref (ad 0), .int p0]) ++ List.replicate (5 - (lg_sl ([.ref (ad 0), .int p0])).length) Slot.unset).toArray = ls at hl ⊢
  have hl : lv_has ls 5 [(0, .ref (ad 0)), (1, .int p0)] := hl
  have hts := dr_words hts0 (s.drawn)
  have hK := gKd hK0 (s.drawn)
  have hown : (s.setDrawn (s.drawn)).vm.findClass RX12 = some m.cls := hown0
  refine lv_lconst (v := 0) hx hb dX12_goesDays_0 (by decide) ?_
  refine lv_lstore_n (lv' := [(2, .long 0), (0, .ref (ad 0)), (1, .int p0)]) hx hb dX12_goesDays_1 rfl hl (by decide) rfl (fun ls hl => ?_)
  refine lv_iconst (v := 0) hx hb dX12_goesDays_2 (by decide) ?_
  refine lv_istore (lv' := [(4, .int 0), (2, .long 0), (0, .ref (ad 0)), (1, .int p0)]) hx hb dX12_goesDays_3 hl (by decide) rfl (fun ls hl => ?_)
  refine (fun (h : ∀ (n : Nat) (k4 : Int32) (cm : Int64) (σ5x : gs) (d5 : Drawn) (H : Heap) (locs : List Loc) (ls : Array Slot), ((p0 : Int32).toInt - k4.toInt).toNat < n → 0 ≤ k4 → Deep σ5x → 723120 ≤ f_X12_dayOf ((σ5x 0).1 64) → ((f_X12_dayOf ((σ5x 0).1 64)).toInt + (p0.toInt - k4.toInt) ≤ 759644) → InvM σ5x → mFr [65, 66] [64] σ σ5x → s.drawn.sameBut d5 lw_cs → va_P (dC, dI) vwCl (wM ad cA σ5x) H → va_D A (wM ad cA σ5x) → va_S A s.heap H locs → lv_has ls 5 [(4, .int k4), (2, .long cm), (0, .ref (ad 0)), (1, .int p0)] → W p l e _ (s.setDrawn d5) m _ below meth c H locs _ _ _ (F0 m 5 ls [])) => h _ 0 0 σ _ _ _ _ (Nat.lt_succ_self _) (by decide) hh0 hh1 (gd_0 hh2) hI (mFr.rfl (L := [65, 66]) (F := [64]) (σ := σ)) hd0 hP hD hS (lv_sub hl [0, 1, 2, 3] rfl)) ?_
  intro n5
  induction n5 with
  | zero => intro k4 cm σ5x d5 H locs ls hm; exact absurd hm (Nat.not_lt_zero _)
  | succ n5 ih5 =>
    intro k4 cm σ5x d5 H locs ls hm5 iv5_0 iv5_1 iv5_2 iv5_3 hIσ5x frσ5x hd0 hP hD hS hl
    have hts := dr_words hts0 (d5)
    have hK := gKd hK0 (d5)
    have hown : (s.setDrawn (d5)).vm.findClass RX12 = some m.cls := hown0
    refine lv_iload hx hb dX12_goesDays_5 (lv_at hl 0 rfl) ?_
    refine lv_iload_n hx hb dX12_goesDays_7 rfl (lv_at hl 3 rfl) ?_
    refine lv_icmp_ge (tgt := 24) hx hb dX12_goesDays_8 (by decide) (fun c_1 => ?_) (fun c_1 => ?_)
    · refine lv_lload_n hx hb dX12_goesDays_24 rfl (lv_at hl 1 rfl) ?_
      refine W.endD hd0 ?_
      exact W.lret (v := cm) hx hb hr (fun t ht hW => ⟨⟨cm, σ5x, rfl, ⟨hIσ5x, frσ5x, iv5_1⟩, ⟨by rw [ht]; exact hP, hD⟩⟩, hS.F ht⟩) hS.2.2 dX12_goesDays_25
    · refine lv_lload_n hx hb dX12_goesDays_11 rfl (lv_at hl 1 rfl) ?_
      refine lv_aload_n hx hb dX12_goesDays_12 rfl (lv_at hl 2 rfl) ?_
      have hF := gFree hD hS hA
      refine va_calllD hd0 (va_runV_D (As := []) (rest := [.long cm]) ⟨hx, hb, hml, hown, hts⟩ (n_X12_goesDay l dC dI ad cA adK adV H.size σ5x hIσ5x iv5_1 iv5_2 (gd_lt (Int32.not_le.mp c_1) iv5_3)) (cwV 0 hts gX12_goesDays_X12_goesDay rfl rfl rfl (by decide +kernel) ⟨Nat.le_of_ble_eq_true rfl, Nat.le_of_ble_eq_true rfl⟩) ⟨gBlind, va_recv hK hP (ci := 11) (q0 := 0) rfl (mat_11 rfl), gStart (As := [.ref (ad 0)]) hP hD hK0 hT hS hF (d5)⟩ rfl rfl hl.1 rfl (lv_room (Nat.le_of_ble_eq_true rfl)) dX12_goesDays_13 ⟨Nat.le_of_ble_eq_true rfl, Nat.le_of_ble_eq_true rfl⟩) hS (fun q _ h => hF q h) hF (fun r_2 σ1 t H locs ht hvm hw hB hz1 hk1 hS d_3 hd0 => ?_)
      have hts := dr_words hts0 (d_3)
      have hK := gKd hK0 (d_3)
      have hown : (s.setDrawn (d_3)).vm.findClass RX12 = some m.cls := hown0
      obtain ⟨hP, hD⟩ := gBack hF ht hB
      obtain ⟨hIσ1, fcσ1, hp_4⟩ := hw
      refine lv_ladd hx hb dX12_goesDays_16 ?_
      refine lv_topl (fun x_5 ex_5 => ?_)
      refine lv_lstore_n (lv' := [(2, .long x_5), (4, .int k4), (0, .ref (ad 0)), (1, .int p0)]) hx hb dX12_goesDays_17 rfl hl (by decide) rfl (fun ls hl => ?_)
      obtain ⟨x_6, ex_6⟩ : ∃ zz : Int32, zz = k4 + 1 := ⟨_, rfl⟩
      refine lv_iinc (v := x_6) (lv' := [(4, .int x_6), (2, .long x_5), (0, .ref (ad 0)), (1, .int p0)]) hx hb dX12_goesDays_18 hl (k := 1) rfl (by rw [ex_6]; rfl) (by decide) rfl (fun ls hl => ?_)
      refine lv_goto (tgt := 5) hx hb dX12_goesDays_21 (by decide) ?_
      exact ih5 x_6 x_5 σ1 _ _ _ _ (cnt_m iv5_0 (Int32.not_le.mp c_1) hm5 ex_6) (cnt_0 iv5_0 (Int32.not_le.mp c_1) ex_6) hp_4.2 (gd_lo iv5_2 hp_4.1 (Or.inl trivial)) (gd_s iv5_0 (Int32.not_le.mp c_1) iv5_3 hp_4.1 ex_6) hIσ1 (mFr.tr frσ5x fcσ1 (by decide) (by decide)) hd0 hP hD hS (lv_sub hl [0, 1, 2, 3] rfl)
set_option maxHeartbeats 8000000 in
set_option maxRecDepth 100000 in
theorem n_X12_refusesDays (l : Launch) (dC : Nat → ClassId) (dI : Nat → Nat → Nat) (ad : Nat → Nat) (cA : Nat → ClassId) (adK adV : Nat → Nat) (sz : Nat) (σ : gs) (hI : InvM σ) (p0 : Int32) : MetD lw_cs l yX12_refusesDays wsX12_refusesDays ({ frames := 2, cells := 0, slots := 0, locals := 43 }) (va_Pc [.ref (ad 0), .int p0] (gPre adK adV (dC, dI) (wM ad cA σ) (tM cA) sz)) (va_Qi (fun (r : Int32) (τ : gs) => InvM τ ∧ σ = τ ∧ (r ≤ 0 → ¬ (σ 0).1 28 = 0 ∧ (NowOK ((σ 0).1 64) → (f_X12_dayOf ((σ 0).1 64)).toInt + p0.toInt ≤ 759644))) (fun τ t => gPost (dC, dI) (va_A (wM ad cA σ) sz) (wM ad cA τ) t) (va_A (wM ad cA σ) sz)) 0 0 (va_A (wM ad cA σ) sz) := by
  refine MetD.ofW (cc := cX12_refusesDays) (maxL := 2) (ret := (some .int)) (by decide) rfl ?_
  intro p e s m args below meth c s₁ B hml hv hd0
  obtain ⟨rfl, hsz, hP, hK, hD0, hT⟩ := hv
  have hx := B.exec
  have hb := B.bytes
  have hr := B.returns
  have hts0 := atoms_spec (ws := wsX12_refusesDays) B.pre
  have hK0 := hK
  have hown0 : s.vm.findClass RX12 = some m.cls := findClass_of_methodNamed B.named
  have hlocks := B.notSynchronized
  have hinX12 : ∀ w ∈ u_ws RX12 TX12 69, w ∈ wsX12_refusesDays := (fun _ h9 => List.mem_cons_of_mem _ (List.mem_append_right _ h9))
  subst hsz
  have hD := hD0.self (sz := s.heap.size)
  generalize hAe : va_A (wM ad cA σ) s.heap.size = A at hD hT ⊢
  have hA : ∀ q : Nat, s.heap.size ≤ q → A q := fun q h => by rw [← hAe]; exact Or.inr h
  have hS : va_S A s.heap s.heap [] := va_S.rf
  have hl := lv_entry ([.ref (ad 0), .int p0]) (n := 2) (Nat.le_of_ble_eq_true rfl)
  rw [lg_entry_eq]
  generalize (lg_sl ([.ref (ad 0), .int p0]) ++ List.replicate (2 - (lg_sl ([.ref (ad 0), .int p0])).length) Slot.unset).toArray = ls at hl ⊢
  have hl : lv_has ls 2 [(0, .ref (ad 0)), (1, .int p0)] := hl
  have hts := dr_words hts0 (s.drawn)
  have hK := gKd hK0 (s.drawn)
  have hown : (s.setDrawn (s.drawn)).vm.findClass RX12 = some m.cls := hown0
  refine lv_aload_n hx hb dX12_refusesDays_0 rfl (lv_at hl 0 rfl) ?_
  have bd_1 := mrd_11_28 (c := 0) hI rfl
  refine va_get (D := (dC, dI)) (ci := 11) (v := .int ((σ 0).1 28)) (C := RX12) (T := TX12) (N := 69) hx hb hts hinX12 hown hK hP 0 (mat_11 rfl) rfl 28 (by decide) (hts (.fieldLink RX12 361 "BondCalendarsModel" "isThere" "Z") (by decide +kernel)) (fun _ h9 => h9) rfl dX12_refusesDays_1 ?_
  refine lv_if_ne (tgt := 9) hx hb dX12_refusesDays_4 (by decide) (fun c_2 => ?_) (fun c_2 => ?_)
  · refine lv_iload_n hx hb dX12_refusesDays_9 rfl (lv_at hl 1 rfl) ?_
    refine lv_iconst (v := 1) hx hb dX12_refusesDays_10 (by decide) ?_
    refine lv_sipush (v := 4000) hx hb dX12_refusesDays_11 (by decide) ?_
    have hF := gFree (w := []) (hx_D0 (A := A)) hS hA
    have hKe := hK.sub (tys' := []) [] rfl
    refine va_calli (va_runS (As := [.int p0, .int 1, .int 4000]) (rest := []) ⟨hx, hb, hml, hown, hts⟩ (k_X12_in l dC dI s.heap.size p0 1 4000 ) (va_cwS 3 hts gX12_refusesDays_X12_in rfl rfl rfl (by decide +kernel) ⟨Nat.le_of_ble_eq_true rfl, Nat.le_of_ble_eq_true rfl⟩) ⟨fun a U g mk q => by obtain ⟨q0, q1, qP, qK, qD⟩ := q; exact ⟨q0, q1, qP, va_K.moved (u := U) (U := U.calling g mk a) (Vm.Alike.refl U.vm) qK, qD⟩, fun U hU hW => ⟨rfl, by rw [hU], hx_P0, va_K.moved hW.alike hKe, hx_D0⟩⟩ rfl rfl hl.1 rfl (lv_room (Nat.le_of_ble_eq_true rfl)) dX12_refusesDays_14 ⟨Nat.le_of_ble_eq_true rfl, Nat.le_of_ble_eq_true rfl⟩) hS (fun q _ h => hF q h) hF (fun r_3 u t H locs ht hvm hw hB hz1 hk1 hS => ?_)
    have hP := gKeep hP hk1
    have in_4 : r_3 = f_X12_in p0 1 4000 := hw
    have bin_4 : r_3 = 0 ∨ r_3 = 1 := by rw [in_4]; exact in01 _ _ _
    refine lv_if_eq (tgt := 41) hx hb dX12_refusesDays_17 (by decide) (fun c_5 => ?_) (fun c_5 => ?_)
    · refine lv_iconst (v := 2) hx hb dX12_refusesDays_41 (by decide) ?_
      refine W.endD hd0 ?_
      exact W.iret (v := 2) hx hb hr (fun t ht hW => ⟨⟨2, σ, rfl, ⟨hI, rfl, (fun h9 => absurd h9 (by decide))⟩, ⟨by rw [ht]; exact hP, hD⟩⟩, hS.F ht⟩) hS.2.2 dX12_refusesDays_42
    · refine lv_aload_n hx hb dX12_refusesDays_20 rfl (lv_at hl 0 rfl) ?_
      refine va_get (D := (dC, dI)) (ci := 11) (v := .int ((σ 0).1 64)) (C := RX12) (T := TX12) (N := 69) hx hb hts hinX12 hown hK hP 0 (mat_11 rfl) rfl 64 (by decide) (hts (.fieldLink RX12 377 "BondCalendarsModel" "now" "I") (by decide +kernel)) (fun _ h9 => h9) rfl dX12_refusesDays_21 ?_
      have hF := gFree (w := []) (hx_D0 (A := A)) hS hA
      have hKe := hK.sub (tys' := []) [] rfl
      refine va_calli (va_runS (As := [.int ((σ 0).1 64)]) (rest := []) ⟨hx, hb, hml, hown, hts⟩ (k_X12_dayOf l dC dI H.size ((σ 0).1 64) ) (va_cwS 1 hts gX12_refusesDays_X12_dayOf rfl rfl rfl (by decide +kernel) ⟨Nat.le_of_ble_eq_true rfl, Nat.le_of_ble_eq_true rfl⟩) ⟨fun a U g mk q => by obtain ⟨q0, q1, qP, qK, qD⟩ := q; exact ⟨q0, q1, qP, va_K.moved (u := U) (U := U.calling g mk a) (Vm.Alike.refl U.vm) qK, qD⟩, fun U hU hW => ⟨rfl, by rw [hU], hx_P0, va_K.moved hW.alike hKe, hx_D0⟩⟩ rfl rfl hl.1 rfl (lv_room (Nat.le_of_ble_eq_true rfl)) dX12_refusesDays_24 ⟨Nat.le_of_ble_eq_true rfl, Nat.le_of_ble_eq_true rfl⟩) hS (fun q _ h => hF q h) hF (fun r_6 u t H locs ht hvm hw hB hz1 hk1 hS => ?_)
      have hP := gKeep hP hk1
      have pu_7 : r_6 = f_X12_dayOf ((σ 0).1 64) := hw
      refine lv_iload_n hx hb dX12_refusesDays_27 rfl (lv_at hl 1 rfl) ?_
      refine lv_iadd hx hb dX12_refusesDays_28 ?_
      refine lv_topi (fun x_8 ex_8 => ?_)
      refine lv_ldc (v := 20791231) hx hb hown (hts (.constant RX12 131 (20791231)) (by decide +kernel)) dX12_refusesDays_29 ?_
      have hF := gFree (w := []) (hx_D0 (A := A)) hS hA
      have hKe := hK.sub (tys' := []) [] rfl
      refine va_calli (va_runS (As := [.int 20791231]) (rest := [.int x_8]) ⟨hx, hb, hml, hown, hts⟩ (k_X12_dayOf l dC dI H.size 20791231 ) (va_cwS 1 hts gX12_refusesDays_X12_dayOf rfl rfl rfl (by decide +kernel) ⟨Nat.le_of_ble_eq_true rfl, Nat.le_of_ble_eq_true rfl⟩) ⟨fun a U g mk q => by obtain ⟨q0, q1, qP, qK, qD⟩ := q; exact ⟨q0, q1, qP, va_K.moved (u := U) (U := U.calling g mk a) (Vm.Alike.refl U.vm) qK, qD⟩, fun U hU hW => ⟨rfl, by rw [hU], hx_P0, va_K.moved hW.alike hKe, hx_D0⟩⟩ rfl rfl hl.1 rfl (lv_room (Nat.le_of_ble_eq_true rfl)) dX12_refusesDays_31 ⟨Nat.le_of_ble_eq_true rfl, Nat.le_of_ble_eq_true rfl⟩) hS (fun q _ h => hF q h) hF (fun r_9 u t H locs ht hvm hw hB hz1 hk1 hS => ?_)
      have hP := gKeep hP hk1
      have pu_10 : r_9 = f_X12_dayOf 20791231 := hw
      refine lv_icmp_gt (tgt := 41) hx hb dX12_refusesDays_34 (by decide) (fun c_11 => ?_) (fun c_11 => ?_)
      · refine lv_iconst (v := 2) hx hb dX12_refusesDays_41 (by decide) ?_
        refine W.endD hd0 ?_
        exact W.iret (v := 2) hx hb hr (fun t ht hW => ⟨⟨2, σ, rfl, ⟨hI, rfl, (fun h9 => absurd h9 (by decide))⟩, ⟨by rw [ht]; exact hP, hD⟩⟩, hS.F ht⟩) hS.2.2 dX12_refusesDays_42
      · refine lv_iconst (v := 0) hx hb dX12_refusesDays_37 (by decide) ?_
        refine lv_goto (tgt := 42) hx hb dX12_refusesDays_38 (by decide) ?_
        refine W.endD hd0 ?_
        exact W.iret (v := 0) hx hb hr (fun t ht hW => ⟨⟨0, σ, rfl, ⟨hI, rfl, (fun _ => ⟨c_2, fun hn => rd_of hn (in_of in_4 c_5).1 (in_of in_4 c_5).2 (show x_8 = f_X12_dayOf ((σ 0).1 64) + p0 from by rw [ex_8, pu_7]) (by rw [← pu_10]; exact (Int32.not_lt.mp c_11))⟩)⟩, ⟨by rw [ht]; exact hP, hD⟩⟩, hS.F ht⟩) hS.2.2 dX12_refusesDays_42
  · refine lv_iconst (v := 1) hx hb dX12_refusesDays_7 (by decide) ?_
    refine W.endD hd0 ?_
    exact W.iret (v := 1) hx hb hr (fun t ht hW => ⟨⟨1, σ, rfl, ⟨hI, rfl, (fun h9 => absurd h9 (by decide))⟩, ⟨by rw [ht]; exact hP, hD⟩⟩, hS.F ht⟩) hS.2.2 dX12_refusesDays_8
set_option maxHeartbeats 8000000 in
set_option maxRecDepth 100000 in
theorem n_X12_go (l : Launch) (dC : Nat → ClassId) (dI : Nat → Nat → Nat) (ad : Nat → Nat) (cA : Nat → ClassId) (adK adV : Nat → Nat) (sz : Nat) (σ : gs) (hI : InvM σ) (p0 : Int32) (hh0 : Deep σ) : MetD lw_cs l yX12_go wsX12_go ({ frames := 8, cells := 0, slots := 0, locals := 205 }) (va_Pc [.ref (ad 0), .int p0] (gPre adK adV (dC, dI) (wM ad cA σ) (tM cA) sz)) (va_Ql (fun (r : Int64) (τ : gs) => InvM τ ∧ mFr [65, 66] [0, 1, 2, 64] σ τ ∧ (Deep τ)) (fun τ t => gPost (dC, dI) (va_A (wM ad cA σ) sz) (wM ad cA τ) t) (va_A (wM ad cA σ) sz)) 0 0 (va_A (wM ad cA σ) sz) := by
  refine MetD.ofW (cc := cX12_go) (maxL := 3) (ret := (some .long)) (by decide) rfl ?_
  intro p e s m args below meth c s₁ B hml hv hd0
  obtain ⟨rfl, hsz, hP, hK, hD0, hT⟩ := hv
  have hx := B.exec
  have hb := B.bytes
  have hr := B.returns
  have hts0 := atoms_spec (ws := wsX12_go) B.pre
  have hK0 := hK
  have hown0 : s.vm.findClass RX12 = some m.cls := findClass_of_methodNamed B.named
  have hlocks := B.notSynchronized
  have hinX12 : ∀ w ∈ u_ws RX12 TX12 69, w ∈ wsX12_go := (fun _ h9 => List.mem_cons_of_mem _ (List.mem_append_right _ h9))
  subst hsz
  have hD := hD0.self (sz := s.heap.size)
  generalize hAe : va_A (wM ad cA σ) s.heap.size = A at hD hT ⊢
  have hA : ∀ q : Nat, s.heap.size ≤ q → A q := fun q h => by rw [← hAe]; exact Or.inr h
  have hS : va_S A s.heap s.heap [] := va_S.rf
  have hl := lv_entry ([.ref (ad 0), .int p0]) (n := 3) (Nat.le_of_ble_eq_true rfl)
  rw [lg_entry_eq]
  generalize (lg_sl ([.ref (ad 0), .int p0]) ++ List.replicate (3 - (lg_sl ([.ref (ad 0), .int p0])).length) Slot.unset).toArray = ls at hl ⊢
  have hl : lv_has ls 3 [(0, .ref (ad 0)), (1, .int p0)] := hl
  have hts := dr_words hts0 (s.drawn)
  have hK := gKd hK0 (s.drawn)
  have hown : (s.setDrawn (s.drawn)).vm.findClass RX12 = some m.cls := hown0
  refine lv_aload_n hx hb dX12_go_0 rfl (lv_at hl 0 rfl) ?_
  refine lv_iconst (v := 0) hx hb dX12_go_1 (by decide) ?_
  refine va_put (D := (dC, dI)) (ci := 11) (v := .int 0) (C := RX12) (T := TX12) (N := 69) hx hb hts hinX12 tyX12 tyX12_ok nmX12 hown hK hP hD hS 0 (mat_11 rfl) rfl 0 (by decide) (hts (.fieldLink RX12 107 "BondCalendarsModel" "thrown" "I") (by decide +kernel)) (fun _ h9 => h9) rfl (ty := .int) (by decide +kernel) rfl rfl (Nat.le_of_ble_eq_true rfl) dX12_go_2 (fun H locs hP hD hS => ?_)
  obtain ⟨σ1, eσ1, hP, hD⟩ := gPut (mse_11_0 rfl) hP hD
  have hIσ1 : InvM σ1 := by rw [eσ1]; exact minv_I hI (mok_11_0 rfl _)
  have frσ1 : mFr [65, 66] [0, 1, 2, 64] σ σ1 := by rw [eσ1]; exact mFr.oI (mFr.rfl (L := [65, 66]) (F := [0, 1, 2, 64]) (σ := σ)) (by decide)
  refine lv_aload_n hx hb dX12_go_5 rfl (lv_at hl 0 rfl) ?_
  refine lv_iload_n hx hb dX12_go_6 rfl (lv_at hl 1 rfl) ?_
  have hF := gFree hD hS hA
  refine va_calliD hd0 (va_runV_D (As := [.int p0]) (rest := []) ⟨hx, hb, hml, hown, hts⟩ (n_X12_refusesDays l dC dI ad cA adK adV H.size σ1 hIσ1 p0) (cwV 1 hts gX12_go_X12_refusesDays rfl rfl rfl (by decide +kernel) ⟨Nat.le_of_ble_eq_true rfl, Nat.le_of_ble_eq_true rfl⟩) ⟨gBlind, va_recv hK hP (ci := 11) (q0 := 0) rfl (mat_11 rfl), gStart (As := [.ref (ad 0), .int p0]) hP hD hK0 hT hS hF (s.drawn)⟩ rfl rfl hl.1 rfl (lv_room (Nat.le_of_ble_eq_true rfl)) dX12_go_7 ⟨Nat.le_of_ble_eq_true rfl, Nat.le_of_ble_eq_true rfl⟩) hS (fun q _ h => hF q h) hF (fun r_1 σ2 t H locs ht hvm hw hB hz1 hk1 hS d_2 hd0 => ?_)
  have hts := dr_words hts0 (d_2)
  have hK := gKd hK0 (d_2)
  have hown : (s.setDrawn (d_2)).vm.findClass RX12 = some m.cls := hown0
  obtain ⟨hP, hD⟩ := gBack hF ht hB
  obtain ⟨hIσ2, hro, hp_3⟩ := hw
  subst hro
  refine lv_istore_n (lv' := [(2, .int r_1), (0, .ref (ad 0)), (1, .int p0)]) hx hb dX12_go_10 rfl hl (by decide) rfl (fun ls hl => ?_)
  refine lv_iload_n hx hb dX12_go_11 rfl (lv_at hl 0 rfl) ?_
  refine lv_if_le (tgt := 24) hx hb dX12_go_12 (by decide) (fun c_4 => ?_) (fun c_4 => ?_)
  · refine lv_aload_n hx hb dX12_go_24 rfl (lv_at hl 1 rfl) ?_
    refine lv_aload_n hx hb dX12_go_25 rfl (lv_at hl 1 rfl) ?_
    refine lv_iload_n hx hb dX12_go_26 rfl (lv_at hl 2 rfl) ?_
    have hF := gFree hD hS hA
    refine va_calllD hd0 (va_runV_D (As := [.int p0]) (rest := [.ref (ad 0)]) ⟨hx, hb, hml, hown, hts⟩ (n_X12_goesDays l dC dI ad cA adK adV H.size σ1 hIσ1 p0 (Deep.fr hh0 (by rw [eσ1, gI_ne _ _ _ (by decide)]) (by rw [eσ1, gI_ne _ _ _ (by decide)]) (by rw [eσ1, gI_ne _ _ _ (by decide)]) (by rw [eσ1, gI_ne _ _ _ (by decide)]) (by rw [eσ1, gI_ne _ _ _ (by decide)]) (by rw [eσ1, gI_ne _ _ _ (by decide)]) (by rw [eσ1, gI_ne _ _ _ (by decide)]) (by rw [eσ1, gI_oth _ _ _ (by decide)]) (by rw [eσ1, gI_oth _ _ _ (by decide)]) (by rw [eσ1, gI_oth _ _ _ (by decide)]) (by rw [eσ1, gI_oth _ _ _ (by decide)]) (by rw [eσ1, gI_oth _ _ _ (by decide)]) (by rw [eσ1, gI_oth _ _ _ (by decide)])) ((Deep.fr hh0 (by rw [eσ1, gI_ne _ _ _ (by decide)]) (by rw [eσ1, gI_ne _ _ _ (by decide)]) (by rw [eσ1, gI_ne _ _ _ (by decide)]) (by rw [eσ1, gI_ne _ _ _ (by decide)]) (by rw [eσ1, gI_ne _ _ _ (by decide)]) (by rw [eσ1, gI_ne _ _ _ (by decide)]) (by rw [eσ1, gI_ne _ _ _ (by decide)]) (by rw [eσ1, gI_oth _ _ _ (by decide)]) (by rw [eσ1, gI_oth _ _ _ (by decide)]) (by rw [eσ1, gI_oth _ _ _ (by decide)]) (by rw [eσ1, gI_oth _ _ _ (by decide)]) (by rw [eσ1, gI_oth _ _ _ (by decide)]) (by rw [eσ1, gI_oth _ _ _ (by decide)])).2.2.1.resolve_left (hp_3 c_4).1).1 ((hp_3 c_4).2 ((Deep.fr hh0 (by rw [eσ1, gI_ne _ _ _ (by decide)]) (by rw [eσ1, gI_ne _ _ _ (by decide)]) (by rw [eσ1, gI_ne _ _ _ (by decide)]) (by rw [eσ1, gI_ne _ _ _ (by decide)]) (by rw [eσ1, gI_ne _ _ _ (by decide)]) (by rw [eσ1, gI_ne _ _ _ (by decide)]) (by rw [eσ1, gI_ne _ _ _ (by decide)]) (by rw [eσ1, gI_oth _ _ _ (by decide)]) (by rw [eσ1, gI_oth _ _ _ (by decide)]) (by rw [eσ1, gI_oth _ _ _ (by decide)]) (by rw [eσ1, gI_oth _ _ _ (by decide)]) (by rw [eσ1, gI_oth _ _ _ (by decide)]) (by rw [eσ1, gI_oth _ _ _ (by decide)])).2.2.1.resolve_left (hp_3 c_4).1))) (cwV 1 hts gX12_go_X12_goesDays rfl rfl rfl (by decide +kernel) ⟨Nat.le_of_ble_eq_true rfl, Nat.le_of_ble_eq_true rfl⟩) ⟨gBlind, va_recv hK hP (ci := 11) (q0 := 0) rfl (mat_11 rfl), gStart (As := [.ref (ad 0), .int p0]) hP hD hK0 hT hS hF (d_2)⟩ rfl rfl hl.1 rfl (lv_room (Nat.le_of_ble_eq_true rfl)) dX12_go_27 ⟨Nat.le_of_ble_eq_true rfl, Nat.le_of_ble_eq_true rfl⟩) hS (fun q _ h => hF q h) hF (fun r_5 σ3 t H locs ht hvm hw hB hz1 hk1 hS d_6 hd0 => ?_)
    have hts := dr_words hts0 (d_6)
    have hK := gKd hK0 (d_6)
    have hown : (s.setDrawn (d_6)).vm.findClass RX12 = some m.cls := hown0
    obtain ⟨hP, hD⟩ := gBack hF ht hB
    obtain ⟨hIσ3, fcσ3, hp_7⟩ := hw
    have hF := gFree hD hS hA
    refine va_calllD hd0 (va_runV_D (As := [.long r_5]) (rest := []) ⟨hx, hb, hml, hown, hts⟩ (n_X12_goodLong l dC dI ad cA adK adV H.size σ3 hIσ3 r_5) (cwV 1 hts gX12_go_X12_goodLong rfl rfl rfl (by decide +kernel) ⟨Nat.le_of_ble_eq_true rfl, Nat.le_of_ble_eq_true rfl⟩) ⟨gBlind, va_recv hK hP (ci := 11) (q0 := 0) rfl (mat_11 rfl), gStart (As := [.ref (ad 0), .long r_5]) hP hD hK0 hT hS hF (d_6)⟩ rfl rfl hl.1 rfl (lv_room (Nat.le_of_ble_eq_true rfl)) dX12_go_30 ⟨Nat.le_of_ble_eq_true rfl, Nat.le_of_ble_eq_true rfl⟩) hS (fun q _ h => hF q h) hF (fun r_8 σ4 t H locs ht hvm hw hB hz1 hk1 hS d_9 hd0 => ?_)
    have hts := dr_words hts0 (d_9)
    have hK := gKd hK0 (d_9)
    have hown : (s.setDrawn (d_9)).vm.findClass RX12 = some m.cls := hown0
    obtain ⟨hP, hD⟩ := gBack hF ht hB
    obtain ⟨hIσ4, fcσ4, hp_10⟩ := hw
    refine W.endD hd0 ?_
    exact W.lret (v := r_8) hx hb hr (fun t ht hW => ⟨⟨r_8, σ4, rfl, ⟨hIσ4, (mFr.tr (mFr.tr frσ1 fcσ3 (by decide) (by decide)) fcσ4 (by decide) (by decide)), (Deep.fr hp_7 (by rw [fcσ4.1 2 (by decide) (by decide)]) (by rw [fcσ4.1 4 (by decide) (by decide)]) (by rw [fcσ4.1 9 (by decide) (by decide)]) (by rw [fcσ4.1 11 (by decide) (by decide)]) (by rw [fcσ4.1 12 (by decide) (by decide)]) (by rw [fcσ4.1 17 (by decide) (by decide)]) (by rw [fcσ4.1 18 (by decide) (by decide)]) (by rw [fcσ4.2 20 (by decide)]) (by rw [fcσ4.2 21 (by decide)]) (by rw [fcσ4.2 28 (by decide)]) (by rw [fcσ4.2 64 (by decide)]) (by rw [fcσ4.2 65 (by decide)]) (by rw [fcσ4.2 68 (by decide)]))⟩, ⟨by rw [ht]; exact hP, hD⟩⟩, hS.F ht⟩) hS.2.2 dX12_go_33
  · refine lv_aload_n hx hb dX12_go_15 rfl (lv_at hl 1 rfl) ?_
    refine lv_iload_n hx hb dX12_go_16 rfl (lv_at hl 0 rfl) ?_
    refine lv_ldc2 (v := (-9223372036854775808)) hx hb hown (hts (.constantLong RX12 482 (-9223372036854775808)) (by decide +kernel)) dX12_go_17 ?_
    have hF := gFree hD hS hA
    refine va_calllD hd0 (va_runV_D (As := [.int r_1, .long (-9223372036854775808)]) (rest := []) ⟨hx, hb, hml, hown, hts⟩ (n_X12_refusedLong l dC dI ad cA adK adV H.size σ1 hIσ1 r_1 (-9223372036854775808)) (cwV 2 hts gX12_go_X12_refusedLong rfl rfl rfl (by decide +kernel) ⟨Nat.le_of_ble_eq_true rfl, Nat.le_of_ble_eq_true rfl⟩) ⟨gBlind, va_recv hK hP (ci := 11) (q0 := 0) rfl (mat_11 rfl), gStart (As := [.ref (ad 0), .int r_1, .long (-9223372036854775808)]) hP hD hK0 hT hS hF (d_2)⟩ rfl rfl hl.1 rfl (lv_room (Nat.le_of_ble_eq_true rfl)) dX12_go_20 ⟨Nat.le_of_ble_eq_true rfl, Nat.le_of_ble_eq_true rfl⟩) hS (fun q _ h => hF q h) hF (fun r_11 σ5 t H locs ht hvm hw hB hz1 hk1 hS d_12 hd0 => ?_)
    have hts := dr_words hts0 (d_12)
    have hK := gKd hK0 (d_12)
    have hown : (s.setDrawn (d_12)).vm.findClass RX12 = some m.cls := hown0
    obtain ⟨hP, hD⟩ := gBack hF ht hB
    obtain ⟨hIσ5, fcσ5, hp_13⟩ := hw
    refine W.endD hd0 ?_
    exact W.lret (v := r_11) hx hb hr (fun t ht hW => ⟨⟨r_11, σ5, rfl, ⟨hIσ5, (mFr.tr frσ1 fcσ5 (by decide) (by decide)), (Deep.fr hh0 (by rw [fcσ5.1 2 (by decide) (by decide), eσ1, gI_ne _ _ _ (by decide)]) (by rw [fcσ5.1 4 (by decide) (by decide), eσ1, gI_ne _ _ _ (by decide)]) (by rw [fcσ5.1 9 (by decide) (by decide), eσ1, gI_ne _ _ _ (by decide)]) (by rw [fcσ5.1 11 (by decide) (by decide), eσ1, gI_ne _ _ _ (by decide)]) (by rw [fcσ5.1 12 (by decide) (by decide), eσ1, gI_ne _ _ _ (by decide)]) (by rw [fcσ5.1 17 (by decide) (by decide), eσ1, gI_ne _ _ _ (by decide)]) (by rw [fcσ5.1 18 (by decide) (by decide), eσ1, gI_ne _ _ _ (by decide)]) (by rw [fcσ5.2 20 (by decide), eσ1, gI_oth _ _ _ (by decide)]) (by rw [fcσ5.2 21 (by decide), eσ1, gI_oth _ _ _ (by decide)]) (by rw [fcσ5.2 28 (by decide), eσ1, gI_oth _ _ _ (by decide)]) (by rw [fcσ5.2 64 (by decide), eσ1, gI_oth _ _ _ (by decide)]) (by rw [fcσ5.2 65 (by decide), eσ1, gI_oth _ _ _ (by decide)]) (by rw [fcσ5.2 68 (by decide), eσ1, gI_oth _ _ _ (by decide)]))⟩, ⟨by rw [ht]; exact hP, hD⟩⟩, hS.F ht⟩) hS.2.2 dX12_go_23
set_option maxHeartbeats 8000000 in
set_option maxRecDepth 100000 in
theorem n_X12_income (l : Launch) (dC : Nat → ClassId) (dI : Nat → Nat → Nat) (ad : Nat → Nat) (cA : Nat → ClassId) (adK adV : Nat → Nat) (sz : Nat) (σ : gs) (hI : InvM σ) (p0 : Int32) (hh0 : Deep σ) : MetD lw_cs l yX12_income wsX12_income ({ frames := 8, cells := 0, slots := 0, locals := 205 }) (va_Pc [.ref (ad 0), .int p0] (gPre adK adV (dC, dI) (wM ad cA σ) (tM cA) sz)) (va_Ql (fun (r : Int64) (τ : gs) => InvM τ ∧ mFr [65, 66, 69, 70] [0, 1, 2, 64] σ τ ∧ (Deep τ)) (fun τ t => gPost (dC, dI) (va_A (wM ad cA σ) sz) (wM ad cA τ) t) (va_A (wM ad cA σ) sz)) 0 0 (va_A (wM ad cA σ) sz) := by
  refine MetD.ofW (cc := cX12_income) (maxL := 8) (ret := (some .long)) (by decide) rfl ?_
  intro p e s m args below meth c s₁ B hml hv hd0
  obtain ⟨rfl, hsz, hP, hK, hD0, hT⟩ := hv
  have hx := B.exec
  have hb := B.bytes
  have hr := B.returns
  have hts0 := atoms_spec (ws := wsX12_income) B.pre
  have hK0 := hK
  have hown0 : s.vm.findClass RX12 = some m.cls := findClass_of_methodNamed B.named
  have hlocks := B.notSynchronized
  have hinX12 : ∀ w ∈ u_ws RX12 TX12 69, w ∈ wsX12_income := (fun _ h9 => List.mem_cons_of_mem _ (List.mem_append_right _ h9))
  subst hsz
  have hD := hD0.self (sz := s.heap.size)
  generalize hAe : va_A (wM ad cA σ) s.heap.size = A at hD hT ⊢
  have hA : ∀ q : Nat, s.heap.size ≤ q → A q := fun q h => by rw [← hAe]; exact Or.inr h
  have hS : va_S A s.heap s.heap [] := va_S.rf
  have hl := lv_entry ([.ref (ad 0), .int p0]) (n := 8) (Nat.le_of_ble_eq_true rfl)
  rw [lg_entry_eq]
  generalize (lg_sl ([.ref (ad 0), .int p0]) ++ List.replicate (8 - (lg_sl ([.ref (ad 0), .int p0])).length) Slot.unset).toArray = ls at hl ⊢
  have hl : lv_has ls 8 [(0, .ref (ad 0)), (1, .int p0)] := hl
  have hts := dr_words hts0 (s.drawn)
  have hK := gKd hK0 (s.drawn)
  have hown : (s.setDrawn (s.drawn)).vm.findClass RX12 = some m.cls := hown0
  refine lv_aload_n hx hb dX12_income_0 rfl (lv_at hl 0 rfl) ?_
  refine lv_iconst (v := 0) hx hb dX12_income_1 (by decide) ?_
  refine va_put (D := (dC, dI)) (ci := 11) (v := .int 0) (C := RX12) (T := TX12) (N := 69) hx hb hts hinX12 tyX12 tyX12_ok nmX12 hown hK hP hD hS 0 (mat_11 rfl) rfl 0 (by decide) (hts (.fieldLink RX12 107 "BondCalendarsModel" "thrown" "I") (by decide +kernel)) (fun _ h9 => h9) rfl (ty := .int) (by decide +kernel) rfl rfl (Nat.le_of_ble_eq_true rfl) dX12_income_2 (fun H locs hP hD hS => ?_)
  obtain ⟨σ1, eσ1, hP, hD⟩ := gPut (mse_11_0 rfl) hP hD
  have hIσ1 : InvM σ1 := by rw [eσ1]; exact minv_I hI (mok_11_0 rfl _)
  have frσ1 : mFr [65, 66, 69, 70] [0, 1, 2, 64] σ σ1 := by rw [eσ1]; exact mFr.oI (mFr.rfl (L := [65, 66, 69, 70]) (F := [0, 1, 2, 64]) (σ := σ)) (by decide)
  refine lv_aload_n hx hb dX12_income_5 rfl (lv_at hl 0 rfl) ?_
  refine lv_iload_n hx hb dX12_income_6 rfl (lv_at hl 1 rfl) ?_
  have hF := gFree hD hS hA
  refine va_calliD hd0 (va_runV_D (As := [.int p0]) (rest := []) ⟨hx, hb, hml, hown, hts⟩ (n_X12_refusesDays l dC dI ad cA adK adV H.size σ1 hIσ1 p0) (cwV 1 hts gX12_income_X12_refusesDays rfl rfl rfl (by decide +kernel) ⟨Nat.le_of_ble_eq_true rfl, Nat.le_of_ble_eq_true rfl⟩) ⟨gBlind, va_recv hK hP (ci := 11) (q0 := 0) rfl (mat_11 rfl), gStart (As := [.ref (ad 0), .int p0]) hP hD hK0 hT hS hF (s.drawn)⟩ rfl rfl hl.1 rfl (lv_room (Nat.le_of_ble_eq_true rfl)) dX12_income_7 ⟨Nat.le_of_ble_eq_true rfl, Nat.le_of_ble_eq_true rfl⟩) hS (fun q _ h => hF q h) hF (fun r_1 σ2 t H locs ht hvm hw hB hz1 hk1 hS d_2 hd0 => ?_)
  have hts := dr_words hts0 (d_2)
  have hK := gKd hK0 (d_2)
  have hown : (s.setDrawn (d_2)).vm.findClass RX12 = some m.cls := hown0
  obtain ⟨hP, hD⟩ := gBack hF ht hB
  obtain ⟨hIσ2, hro, hp_3⟩ := hw
  subst hro
  refine lv_istore_n (lv' := [(2, .int r_1), (0, .ref (ad 0)), (1, .int p0)]) hx hb dX12_income_10 rfl hl (by decide) rfl (fun ls hl => ?_)
  refine lv_iload_n hx hb dX12_income_11 rfl (lv_at hl 0 rfl) ?_
  refine lv_if_le (tgt := 24) hx hb dX12_income_12 (by decide) (fun c_4 => ?_) (fun c_4 => ?_)
  · refine lv_aload_n hx hb dX12_income_24 rfl (lv_at hl 1 rfl) ?_
    refine lv_aload_n hx hb dX12_income_25 rfl (lv_at hl 1 rfl) ?_
    refine va_get (D := (dC, dI)) (ci := 11) (v := .ref (ad 25)) (C := RX12) (T := TX12) (N := 69) hx hb hts hinX12 hown hK hP 0 (mat_11 rfl) rfl 58 (by decide) (hts (.fieldLink RX12 89 "BondCalendarsModel" "held" "[I") (by decide +kernel)) (fun _ h9 => h9) rfl dX12_income_26 ?_
    refine lv_aload_n hx hb dX12_income_29 rfl (lv_at hl 1 rfl) ?_
    refine va_get (D := (dC, dI)) (ci := 11) (v := .ref (ad 29)) (C := RX12) (T := TX12) (N := 69) hx hb hts hinX12 hown hK hP 0 (mat_11 rfl) rfl 62 (by decide) (hts (.fieldLink RX12 101 "BondCalendarsModel" "heldHad" "[I") (by decide +kernel)) (fun _ h9 => h9) rfl dX12_income_30 ?_
    have hF := gFree hD hS hA
    refine va_callvD hd0 (va_runV_D (As := [.ref (ad 25), .ref (ad 29)]) (rest := []) ⟨hx, hb, hml, hown, hts⟩ (n_X12_copies_25_29 l dC dI ad cA adK adV H.size σ1 hIσ1 ) (cwV 2 hts gX12_income_X12_copies rfl rfl rfl (by decide +kernel) ⟨Nat.le_of_ble_eq_true rfl, Nat.le_of_ble_eq_true rfl⟩) ⟨gBlind, va_recv hK hP (ci := 11) (q0 := 0) rfl (mat_11 rfl), gStart (As := [.ref (ad 0), .ref (ad 25), .ref (ad 29)]) hP hD hK0 hT hS hF (d_2)⟩ rfl rfl hl.1 rfl (lv_room (Nat.le_of_ble_eq_true rfl)) dX12_income_33 ⟨Nat.le_of_ble_eq_true rfl, Nat.le_of_ble_eq_true rfl⟩) hS (fun q _ h => hF q h) hF (fun σ3 t H locs ht hvm hw hB hz1 hk1 hS d_6 hd0 => ?_)
    have hts := dr_words hts0 (d_6)
    have hK := gKd hK0 (d_6)
    have hown : (s.setDrawn (d_6)).vm.findClass RX12 = some m.cls := hown0
    obtain ⟨hP, hD⟩ := gBack hF ht hB
    obtain ⟨hIσ3, fcσ3, hp_7⟩ := hw
    refine lv_aload_n hx hb dX12_income_36 rfl (lv_at hl 1 rfl) ?_
    refine lv_aload_n hx hb dX12_income_37 rfl (lv_at hl 1 rfl) ?_
    refine va_get (D := (dC, dI)) (ci := 11) (v := .ref (ad 26)) (C := RX12) (T := TX12) (N := 69) hx hb hts hinX12 hown hK hP 0 (mat_11 rfl) rfl 59 (by decide) (hts (.fieldLink RX12 92 "BondCalendarsModel" "entitled" "[I") (by decide +kernel)) (fun _ h9 => h9) rfl dX12_income_38 ?_
    refine lv_aload_n hx hb dX12_income_41 rfl (lv_at hl 1 rfl) ?_
    refine va_get (D := (dC, dI)) (ci := 11) (v := .ref (ad 30)) (C := RX12) (T := TX12) (N := 69) hx hb hts hinX12 hown hK hP 0 (mat_11 rfl) rfl 63 (by decide) (hts (.fieldLink RX12 104 "BondCalendarsModel" "entitledHad" "[I") (by decide +kernel)) (fun _ h9 => h9) rfl dX12_income_42 ?_
    have hF := gFree hD hS hA
    refine va_callvD hd0 (va_runV_D (As := [.ref (ad 26), .ref (ad 30)]) (rest := []) ⟨hx, hb, hml, hown, hts⟩ (n_X12_copies_26_30 l dC dI ad cA adK adV H.size σ3 hIσ3 ) (cwV 2 hts gX12_income_X12_copies rfl rfl rfl (by decide +kernel) ⟨Nat.le_of_ble_eq_true rfl, Nat.le_of_ble_eq_true rfl⟩) ⟨gBlind, va_recv hK hP (ci := 11) (q0 := 0) rfl (mat_11 rfl), gStart (As := [.ref (ad 0), .ref (ad 26), .ref (ad 30)]) hP hD hK0 hT hS hF (d_6)⟩ rfl rfl hl.1 rfl (lv_room (Nat.le_of_ble_eq_true rfl)) dX12_income_45 ⟨Nat.le_of_ble_eq_true rfl, Nat.le_of_ble_eq_true rfl⟩) hS (fun q _ h => hF q h) hF (fun σ4 t H locs ht hvm hw hB hz1 hk1 hS d_9 hd0 => ?_)
    have hts := dr_words hts0 (d_9)
    have hK := gKd hK0 (d_9)
    have hown : (s.setDrawn (d_9)).vm.findClass RX12 = some m.cls := hown0
    obtain ⟨hP, hD⟩ := gBack hF ht hB
    obtain ⟨hIσ4, fcσ4, hp_10⟩ := hw
    refine lv_aload_n hx hb dX12_income_48 rfl (lv_at hl 1 rfl) ?_
    refine va_get (D := (dC, dI)) (ci := 11) (v := .int ((σ 0).1 64)) (C := RX12) (T := TX12) (N := 69) hx hb hts hinX12 hown hK hP 0 (mat_11 rfl) rfl 64 (by decide) (hts (.fieldLink RX12 377 "BondCalendarsModel" "now" "I") (by decide +kernel)) (fun _ h9 => h9) (congrArg (fun z => some (Value.int z)) (show (σ4 0).1 64 = ((σ 0).1 64) from by rw [fcσ4.2 64 (by decide), fcσ3.2 64 (by decide), eσ1, gI_oth _ _ _ (by decide)])) dX12_income_49 ?_
    refine lv_istore_n (lv' := [(3, .int ((σ 0).1 64)), (2, .int r_1), (0, .ref (ad 0)), (1, .int p0)]) hx hb dX12_income_52 rfl hl (by decide) rfl (fun ls hl => ?_)
    refine lv_aload_n hx hb dX12_income_53 rfl (lv_at hl 2 rfl) ?_
    refine va_get (D := (dC, dI)) (ci := 11) (v := .long ((σ4 0).2.1 66)) (C := RX12) (T := TX12) (N := 69) hx hb hts hinX12 hown hK hP 0 (mat_11 rfl) rfl 66 (by decide) (hts (.fieldLink RX12 380 "BondCalendarsModel" "cash" "J") (by decide +kernel)) (fun _ h9 => h9) rfl dX12_income_54 ?_
    refine lv_lstore (lv' := [(4, .long ((σ4 0).2.1 66)), (3, .int ((σ 0).1 64)), (2, .int r_1), (0, .ref (ad 0)), (1, .int p0)]) hx hb dX12_income_57 hl (by decide) rfl (fun ls hl => ?_)
    refine lv_aload_n hx hb dX12_income_59 rfl (lv_at hl 3 rfl) ?_
    refine lv_iload_n hx hb dX12_income_60 rfl (lv_at hl 4 rfl) ?_
    have hF := gFree hD hS hA
    refine va_calllD hd0 (va_runV_D (As := [.int p0]) (rest := []) ⟨hx, hb, hml, hown, hts⟩ (n_X12_goesDays l dC dI ad cA adK adV H.size σ4 hIσ4 p0 (Deep.fr hh0 (by rw [fcσ4.1 2 (by decide) (by decide), fcσ3.1 2 (by decide) (by decide), eσ1, gI_ne _ _ _ (by decide)]) (by rw [fcσ4.1 4 (by decide) (by decide), fcσ3.1 4 (by decide) (by decide), eσ1, gI_ne _ _ _ (by decide)]) (by rw [fcσ4.1 9 (by decide) (by decide), fcσ3.1 9 (by decide) (by decide), eσ1, gI_ne _ _ _ (by decide)]) (by rw [fcσ4.1 11 (by decide) (by decide), fcσ3.1 11 (by decide) (by decide), eσ1, gI_ne _ _ _ (by decide)]) (by rw [fcσ4.1 12 (by decide) (by decide), fcσ3.1 12 (by decide) (by decide), eσ1, gI_ne _ _ _ (by decide)]) (by rw [fcσ4.1 17 (by decide) (by decide), fcσ3.1 17 (by decide) (by decide), eσ1, gI_ne _ _ _ (by decide)]) (by rw [fcσ4.1 18 (by decide) (by decide), fcσ3.1 18 (by decide) (by decide), eσ1, gI_ne _ _ _ (by decide)]) (by rw [fcσ4.2 20 (by decide), fcσ3.2 20 (by decide), eσ1, gI_oth _ _ _ (by decide)]) (by rw [fcσ4.2 21 (by decide), fcσ3.2 21 (by decide), eσ1, gI_oth _ _ _ (by decide)]) (by rw [fcσ4.2 28 (by decide), fcσ3.2 28 (by decide), eσ1, gI_oth _ _ _ (by decide)]) (by rw [fcσ4.2 64 (by decide), fcσ3.2 64 (by decide), eσ1, gI_oth _ _ _ (by decide)]) (by rw [fcσ4.2 65 (by decide), fcσ3.2 65 (by decide), eσ1, gI_oth _ _ _ (by decide)]) (by rw [fcσ4.2 68 (by decide), fcσ3.2 68 (by decide), eσ1, gI_oth _ _ _ (by decide)])) (by rw [fcσ4.2 64 (by decide), fcσ3.2 64 (by decide)]; exact ((Deep.fr hh0 (by rw [eσ1, gI_ne _ _ _ (by decide)]) (by rw [eσ1, gI_ne _ _ _ (by decide)]) (by rw [eσ1, gI_ne _ _ _ (by decide)]) (by rw [eσ1, gI_ne _ _ _ (by decide)]) (by rw [eσ1, gI_ne _ _ _ (by decide)]) (by rw [eσ1, gI_ne _ _ _ (by decide)]) (by rw [eσ1, gI_ne _ _ _ (by decide)]) (by rw [eσ1, gI_oth _ _ _ (by decide)]) (by rw [eσ1, gI_oth _ _ _ (by decide)]) (by rw [eσ1, gI_oth _ _ _ (by decide)]) (by rw [eσ1, gI_oth _ _ _ (by decide)]) (by rw [eσ1, gI_oth _ _ _ (by decide)]) (by rw [eσ1, gI_oth _ _ _ (by decide)])).2.2.1.resolve_left (hp_3 c_4).1).1) (by rw [fcσ4.2 64 (by decide), fcσ3.2 64 (by decide)]; exact ((hp_3 c_4).2 ((Deep.fr hh0 (by rw [eσ1, gI_ne _ _ _ (by decide)]) (by rw [eσ1, gI_ne _ _ _ (by decide)]) (by rw [eσ1, gI_ne _ _ _ (by decide)]) (by rw [eσ1, gI_ne _ _ _ (by decide)]) (by rw [eσ1, gI_ne _ _ _ (by decide)]) (by rw [eσ1, gI_ne _ _ _ (by decide)]) (by rw [eσ1, gI_ne _ _ _ (by decide)]) (by rw [eσ1, gI_oth _ _ _ (by decide)]) (by rw [eσ1, gI_oth _ _ _ (by decide)]) (by rw [eσ1, gI_oth _ _ _ (by decide)]) (by rw [eσ1, gI_oth _ _ _ (by decide)]) (by rw [eσ1, gI_oth _ _ _ (by decide)]) (by rw [eσ1, gI_oth _ _ _ (by decide)])).2.2.1.resolve_left (hp_3 c_4).1)))) (cwV 1 hts gX12_income_X12_goesDays rfl rfl rfl (by decide +kernel) ⟨Nat.le_of_ble_eq_true rfl, Nat.le_of_ble_eq_true rfl⟩) ⟨gBlind, va_recv hK hP (ci := 11) (q0 := 0) rfl (mat_11 rfl), gStart (As := [.ref (ad 0), .int p0]) hP hD hK0 hT hS hF (d_9)⟩ rfl rfl hl.1 rfl (lv_room (Nat.le_of_ble_eq_true rfl)) dX12_income_61 ⟨Nat.le_of_ble_eq_true rfl, Nat.le_of_ble_eq_true rfl⟩) hS (fun q _ h => hF q h) hF (fun r_11 σ5 t H locs ht hvm hw hB hz1 hk1 hS d_12 hd0 => ?_)
    have hts := dr_words hts0 (d_12)
    have hK := gKd hK0 (d_12)
    have hown : (s.setDrawn (d_12)).vm.findClass RX12 = some m.cls := hown0
    obtain ⟨hP, hD⟩ := gBack hF ht hB
    obtain ⟨hIσ5, fcσ5, hp_13⟩ := hw
    refine lv_lstore (lv' := [(6, .long r_11), (4, .long ((σ4 0).2.1 66)), (3, .int ((σ 0).1 64)), (2, .int r_1), (0, .ref (ad 0)), (1, .int p0)]) hx hb dX12_income_64 hl (by decide) rfl (fun ls hl => ?_)
    refine lv_aload_n hx hb dX12_income_66 rfl (lv_at hl 4 rfl) ?_
    refine lv_aload_n hx hb dX12_income_67 rfl (lv_at hl 4 rfl) ?_
    refine va_get (D := (dC, dI)) (ci := 11) (v := .ref (ad 29)) (C := RX12) (T := TX12) (N := 69) hx hb hts hinX12 hown hK hP 0 (mat_11 rfl) rfl 62 (by decide) (hts (.fieldLink RX12 101 "BondCalendarsModel" "heldHad" "[I") (by decide +kernel)) (fun _ h9 => h9) rfl dX12_income_68 ?_
    refine lv_aload_n hx hb dX12_income_71 rfl (lv_at hl 4 rfl) ?_
    refine va_get (D := (dC, dI)) (ci := 11) (v := .ref (ad 25)) (C := RX12) (T := TX12) (N := 69) hx hb hts hinX12 hown hK hP 0 (mat_11 rfl) rfl 58 (by decide) (hts (.fieldLink RX12 89 "BondCalendarsModel" "held" "[I") (by decide +kernel)) (fun _ h9 => h9) rfl dX12_income_72 ?_
    have hF := gFree hD hS hA
    refine va_callvD hd0 (va_runV_D (As := [.ref (ad 29), .ref (ad 25)]) (rest := []) ⟨hx, hb, hml, hown, hts⟩ (n_X12_copies_29_25 l dC dI ad cA adK adV H.size σ5 hIσ5 ) (cwV 2 hts gX12_income_X12_copies rfl rfl rfl (by decide +kernel) ⟨Nat.le_of_ble_eq_true rfl, Nat.le_of_ble_eq_true rfl⟩) ⟨gBlind, va_recv hK hP (ci := 11) (q0 := 0) rfl (mat_11 rfl), gStart (As := [.ref (ad 0), .ref (ad 29), .ref (ad 25)]) hP hD hK0 hT hS hF (d_12)⟩ rfl rfl hl.1 rfl (lv_room (Nat.le_of_ble_eq_true rfl)) dX12_income_75 ⟨Nat.le_of_ble_eq_true rfl, Nat.le_of_ble_eq_true rfl⟩) hS (fun q _ h => hF q h) hF (fun σ6 t H locs ht hvm hw hB hz1 hk1 hS d_15 hd0 => ?_)
    have hts := dr_words hts0 (d_15)
    have hK := gKd hK0 (d_15)
    have hown : (s.setDrawn (d_15)).vm.findClass RX12 = some m.cls := hown0
    obtain ⟨hP, hD⟩ := gBack hF ht hB
    obtain ⟨hIσ6, fcσ6, hp_16⟩ := hw
    refine lv_aload_n hx hb dX12_income_78 rfl (lv_at hl 4 rfl) ?_
    refine lv_aload_n hx hb dX12_income_79 rfl (lv_at hl 4 rfl) ?_
    refine va_get (D := (dC, dI)) (ci := 11) (v := .ref (ad 30)) (C := RX12) (T := TX12) (N := 69) hx hb hts hinX12 hown hK hP 0 (mat_11 rfl) rfl 63 (by decide) (hts (.fieldLink RX12 104 "BondCalendarsModel" "entitledHad" "[I") (by decide +kernel)) (fun _ h9 => h9) rfl dX12_income_80 ?_
    refine lv_aload_n hx hb dX12_income_83 rfl (lv_at hl 4 rfl) ?_
    refine va_get (D := (dC, dI)) (ci := 11) (v := .ref (ad 26)) (C := RX12) (T := TX12) (N := 69) hx hb hts hinX12 hown hK hP 0 (mat_11 rfl) rfl 59 (by decide) (hts (.fieldLink RX12 92 "BondCalendarsModel" "entitled" "[I") (by decide +kernel)) (fun _ h9 => h9) rfl dX12_income_84 ?_
    have hF := gFree hD hS hA
    refine va_callvD hd0 (va_runV_D (As := [.ref (ad 30), .ref (ad 26)]) (rest := []) ⟨hx, hb, hml, hown, hts⟩ (n_X12_copies_30_26 l dC dI ad cA adK adV H.size σ6 hIσ6 ) (cwV 2 hts gX12_income_X12_copies rfl rfl rfl (by decide +kernel) ⟨Nat.le_of_ble_eq_true rfl, Nat.le_of_ble_eq_true rfl⟩) ⟨gBlind, va_recv hK hP (ci := 11) (q0 := 0) rfl (mat_11 rfl), gStart (As := [.ref (ad 0), .ref (ad 30), .ref (ad 26)]) hP hD hK0 hT hS hF (d_15)⟩ rfl rfl hl.1 rfl (lv_room (Nat.le_of_ble_eq_true rfl)) dX12_income_87 ⟨Nat.le_of_ble_eq_true rfl, Nat.le_of_ble_eq_true rfl⟩) hS (fun q _ h => hF q h) hF (fun σ7 t H locs ht hvm hw hB hz1 hk1 hS d_18 hd0 => ?_)
    have hts := dr_words hts0 (d_18)
    have hK := gKd hK0 (d_18)
    have hown : (s.setDrawn (d_18)).vm.findClass RX12 = some m.cls := hown0
    obtain ⟨hP, hD⟩ := gBack hF ht hB
    obtain ⟨hIσ7, fcσ7, hp_19⟩ := hw
    refine lv_aload_n hx hb dX12_income_90 rfl (lv_at hl 4 rfl) ?_
    refine lv_iload_n hx hb dX12_income_91 rfl (lv_at hl 2 rfl) ?_
    refine va_put (D := (dC, dI)) (ci := 11) (v := .int ((σ 0).1 64)) (C := RX12) (T := TX12) (N := 69) hx hb hts hinX12 tyX12 tyX12_ok nmX12 hown hK hP hD hS 0 (mat_11 rfl) rfl 64 (by decide) (hts (.fieldLink RX12 377 "BondCalendarsModel" "now" "I") (by decide +kernel)) (fun _ h9 => h9) rfl (ty := .int) (by decide +kernel) rfl rfl (Nat.le_of_ble_eq_true rfl) dX12_income_92 (fun H locs hP hD hS => ?_)
    obtain ⟨σ8, eσ8, hP, hD⟩ := gPut (mse_11_64 rfl) hP hD
    have hIσ8 : InvM σ8 := by rw [eσ8]; exact minv_I hIσ7 (mok_11_64 rfl _)
    have frσ8 : mFr [65, 66, 69, 70] [0, 1, 2, 64] σ σ8 := by rw [eσ8]; exact mFr.oI (mFr.tr (mFr.tr (mFr.tr (mFr.tr (mFr.tr frσ1 fcσ3 (by decide) (by decide)) fcσ4 (by decide) (by decide)) fcσ5 (by decide) (by decide)) fcσ6 (by decide) (by decide)) fcσ7 (by decide) (by decide)) (by decide)
    refine lv_aload_n hx hb dX12_income_95 rfl (lv_at hl 4 rfl) ?_
    refine lv_lload hx hb dX12_income_96 (lv_at hl 1 rfl) ?_
    refine va_put (D := (dC, dI)) (ci := 11) (v := .long ((σ4 0).2.1 66)) (C := RX12) (T := TX12) (N := 69) hx hb hts hinX12 tyX12 tyX12_ok nmX12 hown hK hP hD hS 0 (mat_11 rfl) rfl 66 (by decide) (hts (.fieldLink RX12 380 "BondCalendarsModel" "cash" "J") (by decide +kernel)) (fun _ h9 => h9) rfl (ty := .long) (by decide +kernel) rfl rfl (Nat.le_of_ble_eq_true rfl) dX12_income_98 (fun H locs hP hD hS => ?_)
    obtain ⟨σ9, eσ9, hP, hD⟩ := gPut (mse_11_66 rfl) hP hD
    have hIσ9 : InvM σ9 := by rw [eσ9]; exact minv_L hIσ8
    have frσ9 : mFr [65, 66, 69, 70] [0, 1, 2, 64] σ σ9 := by rw [eσ9]; exact mFr.oL frσ8
    refine lv_aload_n hx hb dX12_income_101 rfl (lv_at hl 4 rfl) ?_
    refine lv_lload hx hb dX12_income_102 (lv_at hl 0 rfl) ?_
    have hF := gFree hD hS hA
    refine va_calllD hd0 (va_runV_D (As := [.long r_11]) (rest := []) ⟨hx, hb, hml, hown, hts⟩ (n_X12_goodLong l dC dI ad cA adK adV H.size σ9 hIσ9 r_11) (cwV 1 hts gX12_income_X12_goodLong rfl rfl rfl (by decide +kernel) ⟨Nat.le_of_ble_eq_true rfl, Nat.le_of_ble_eq_true rfl⟩) ⟨gBlind, va_recv hK hP (ci := 11) (q0 := 0) rfl (mat_11 rfl), gStart (As := [.ref (ad 0), .long r_11]) hP hD hK0 hT hS hF (d_18)⟩ rfl rfl hl.1 rfl (lv_room (Nat.le_of_ble_eq_true rfl)) dX12_income_104 ⟨Nat.le_of_ble_eq_true rfl, Nat.le_of_ble_eq_true rfl⟩) hS (fun q _ h => hF q h) hF (fun r_20 σ10 t H locs ht hvm hw hB hz1 hk1 hS d_21 hd0 => ?_)
    have hts := dr_words hts0 (d_21)
    have hK := gKd hK0 (d_21)
    have hown : (s.setDrawn (d_21)).vm.findClass RX12 = some m.cls := hown0
    obtain ⟨hP, hD⟩ := gBack hF ht hB
    obtain ⟨hIσ10, fcσ10, hp_22⟩ := hw
    refine W.endD hd0 ?_
    exact W.lret (v := r_20) hx hb hr (fun t ht hW => ⟨⟨r_20, σ10, rfl, ⟨hIσ10, (mFr.tr frσ9 fcσ10 (by decide) (by decide)), (Deep.day hp_13 (by rw [fcσ10.1 2 (by decide) (by decide), eσ9, gL_ne _ _ _ (by decide), eσ8, gI_ne _ _ _ (by decide), fcσ7.1 2 (by decide) (by decide), fcσ6.1 2 (by decide) (by decide)]) (by rw [fcσ10.1 4 (by decide) (by decide), eσ9, gL_ne _ _ _ (by decide), eσ8, gI_ne _ _ _ (by decide), fcσ7.1 4 (by decide) (by decide), fcσ6.1 4 (by decide) (by decide)]) (by rw [fcσ10.1 9 (by decide) (by decide), eσ9, gL_ne _ _ _ (by decide), eσ8, gI_ne _ _ _ (by decide), fcσ7.1 9 (by decide) (by decide), fcσ6.1 9 (by decide) (by decide)]) (by rw [fcσ10.1 11 (by decide) (by decide), eσ9, gL_ne _ _ _ (by decide), eσ8, gI_ne _ _ _ (by decide), fcσ7.1 11 (by decide) (by decide), fcσ6.1 11 (by decide) (by decide)]) (by rw [fcσ10.1 12 (by decide) (by decide), eσ9, gL_ne _ _ _ (by decide), eσ8, gI_ne _ _ _ (by decide), fcσ7.1 12 (by decide) (by decide), fcσ6.1 12 (by decide) (by decide)]) (by rw [fcσ10.1 17 (by decide) (by decide), eσ9, gL_ne _ _ _ (by decide), eσ8, gI_ne _ _ _ (by decide), fcσ7.1 17 (by decide) (by decide), fcσ6.1 17 (by decide) (by decide)]) (by rw [fcσ10.1 18 (by decide) (by decide), eσ9, gL_ne _ _ _ (by decide), eσ8, gI_ne _ _ _ (by decide), fcσ7.1 18 (by decide) (by decide), fcσ6.1 18 (by decide) (by decide)]) (by rw [fcσ10.2 20 (by decide), eσ9, gL_i, eσ8, gI_oth _ _ _ (by decide), fcσ7.2 20 (by decide), fcσ6.2 20 (by decide)]) (by rw [fcσ10.2 21 (by decide), eσ9, gL_i, eσ8, gI_oth _ _ _ (by decide), fcσ7.2 21 (by decide), fcσ6.2 21 (by decide)]) (Or.inr (show NowOK ((σ10 0).1 64) from by rw [fcσ10.2 64 (by decide), eσ9, gL_i, eσ8, gI_self]; exact (by have h7 := ((Deep.fr hh0 (by rw [eσ1, gI_ne _ _ _ (by decide)]) (by rw [eσ1, gI_ne _ _ _ (by decide)]) (by rw [eσ1, gI_ne _ _ _ (by decide)]) (by rw [eσ1, gI_ne _ _ _ (by decide)]) (by rw [eσ1, gI_ne _ _ _ (by decide)]) (by rw [eσ1, gI_ne _ _ _ (by decide)]) (by rw [eσ1, gI_ne _ _ _ (by decide)]) (by rw [eσ1, gI_oth _ _ _ (by decide)]) (by rw [eσ1, gI_oth _ _ _ (by decide)]) (by rw [eσ1, gI_oth _ _ _ (by decide)]) (by rw [eσ1, gI_oth _ _ _ (by decide)]) (by rw [eσ1, gI_oth _ _ _ (by decide)]) (by rw [eσ1, gI_oth _ _ _ (by decide)])).2.2.1.resolve_left (hp_3 c_4).1); rw [eσ1, gI_oth _ _ _ (by decide)] at h7; exact h7))) (dk_same (by rw [fcσ10.2 68 (by decide), eσ9, gL_i, eσ8, gI_oth _ _ _ (by decide), fcσ7.2 68 (by decide), fcσ6.2 68 (by decide)]) (by rw [fcσ10.2 65 (by decide), eσ9, gL_i, eσ8, gI_oth _ _ _ (by decide), fcσ7.2 65 (by decide), fcσ6.2 65 (by decide)]) hp_13.2.2.2))⟩, ⟨by rw [ht]; exact hP, hD⟩⟩, hS.F ht⟩) hS.2.2 dX12_income_107
  · refine lv_aload_n hx hb dX12_income_15 rfl (lv_at hl 1 rfl) ?_
    refine lv_iload_n hx hb dX12_income_16 rfl (lv_at hl 0 rfl) ?_
    refine lv_ldc2 (v := (-9223372036854775808)) hx hb hown (hts (.constantLong RX12 482 (-9223372036854775808)) (by decide +kernel)) dX12_income_17 ?_
    have hF := gFree hD hS hA
    refine va_calllD hd0 (va_runV_D (As := [.int r_1, .long (-9223372036854775808)]) (rest := []) ⟨hx, hb, hml, hown, hts⟩ (n_X12_refusedLong l dC dI ad cA adK adV H.size σ1 hIσ1 r_1 (-9223372036854775808)) (cwV 2 hts gX12_income_X12_refusedLong rfl rfl rfl (by decide +kernel) ⟨Nat.le_of_ble_eq_true rfl, Nat.le_of_ble_eq_true rfl⟩) ⟨gBlind, va_recv hK hP (ci := 11) (q0 := 0) rfl (mat_11 rfl), gStart (As := [.ref (ad 0), .int r_1, .long (-9223372036854775808)]) hP hD hK0 hT hS hF (d_2)⟩ rfl rfl hl.1 rfl (lv_room (Nat.le_of_ble_eq_true rfl)) dX12_income_20 ⟨Nat.le_of_ble_eq_true rfl, Nat.le_of_ble_eq_true rfl⟩) hS (fun q _ h => hF q h) hF (fun r_23 σ11 t H locs ht hvm hw hB hz1 hk1 hS d_24 hd0 => ?_)
    have hts := dr_words hts0 (d_24)
    have hK := gKd hK0 (d_24)
    have hown : (s.setDrawn (d_24)).vm.findClass RX12 = some m.cls := hown0
    obtain ⟨hP, hD⟩ := gBack hF ht hB
    obtain ⟨hIσ11, fcσ11, hp_25⟩ := hw
    refine W.endD hd0 ?_
    exact W.lret (v := r_23) hx hb hr (fun t ht hW => ⟨⟨r_23, σ11, rfl, ⟨hIσ11, (mFr.tr frσ1 fcσ11 (by decide) (by decide)), (Deep.fr hh0 (by rw [fcσ11.1 2 (by decide) (by decide), eσ1, gI_ne _ _ _ (by decide)]) (by rw [fcσ11.1 4 (by decide) (by decide), eσ1, gI_ne _ _ _ (by decide)]) (by rw [fcσ11.1 9 (by decide) (by decide), eσ1, gI_ne _ _ _ (by decide)]) (by rw [fcσ11.1 11 (by decide) (by decide), eσ1, gI_ne _ _ _ (by decide)]) (by rw [fcσ11.1 12 (by decide) (by decide), eσ1, gI_ne _ _ _ (by decide)]) (by rw [fcσ11.1 17 (by decide) (by decide), eσ1, gI_ne _ _ _ (by decide)]) (by rw [fcσ11.1 18 (by decide) (by decide), eσ1, gI_ne _ _ _ (by decide)]) (by rw [fcσ11.2 20 (by decide), eσ1, gI_oth _ _ _ (by decide)]) (by rw [fcσ11.2 21 (by decide), eσ1, gI_oth _ _ _ (by decide)]) (by rw [fcσ11.2 28 (by decide), eσ1, gI_oth _ _ _ (by decide)]) (by rw [fcσ11.2 64 (by decide), eσ1, gI_oth _ _ _ (by decide)]) (by rw [fcσ11.2 65 (by decide), eσ1, gI_oth _ _ _ (by decide)]) (by rw [fcσ11.2 68 (by decide), eσ1, gI_oth _ _ _ (by decide)]))⟩, ⟨by rw [ht]; exact hP, hD⟩⟩, hS.F ht⟩) hS.2.2 dX12_income_23
set_option maxHeartbeats 8000000 in
set_option maxRecDepth 100000 in
theorem n_X12_keep (l : Launch) (dC : Nat → ClassId) (dI : Nat → Nat → Nat) (ad : Nat → Nat) (cA : Nat → ClassId) (adK adV : Nat → Nat) (sz : Nat) (σ : gs) (hI : InvM σ) (hh0 : Deep σ) : MetD lw_cs l yX12_keep wsX12_keep ({ frames := 2, cells := 0, slots := 0, locals := 41 }) (va_Pc [.ref (ad 0)] (gPre adK adV (dC, dI) (wM ad cA σ) (tM cA) sz)) (va_Qi (fun (r : Int32) (τ : gs) => InvM τ ∧ mFr [67, 68] [0, 1, 2, 65, 68] σ τ ∧ ((r = 0 ∨ r = 1) ∧ Deep τ)) (fun τ t => gPost (dC, dI) (va_A (wM ad cA σ) sz) (wM ad cA τ) t) (va_A (wM ad cA σ) sz)) 0 0 (va_A (wM ad cA σ) sz) := by
  refine MetD.ofW (cc := cX12_keep) (maxL := 1) (ret := (some .boolean)) (by decide) rfl ?_
  intro p e s m args below meth c s₁ B hml hv hd0
  obtain ⟨rfl, hsz, hP, hK, hD0, hT⟩ := hv
  have hx := B.exec
  have hb := B.bytes
  have hr := B.returns
  have hts0 := atoms_spec (ws := wsX12_keep) B.pre
  have hK0 := hK
  have hown0 : s.vm.findClass RX12 = some m.cls := findClass_of_methodNamed B.named
  have hlocks := B.notSynchronized
  have hinX12 : ∀ w ∈ u_ws RX12 TX12 69, w ∈ wsX12_keep := (fun _ h9 => List.mem_cons_of_mem _ (List.mem_append_right _ h9))
  subst hsz
  have hD := hD0.self (sz := s.heap.size)
  generalize hAe : va_A (wM ad cA σ) s.heap.size = A at hD hT ⊢
  have hA : ∀ q : Nat, s.heap.size ≤ q → A q := fun q h => by rw [← hAe]; exact Or.inr h
  have hS : va_S A s.heap s.heap [] := va_S.rf
  have hl := lv_entry ([.ref (ad 0)]) (n := 1) (Nat.le_of_ble_eq_true rfl)
  rw [lg_entry_eq]
  generalize (lg_sl ([.ref (ad 0)]) ++ List.replicate (1 - (lg_sl ([.ref (ad 0)])).length) Slot.unset).toArray = ls at hl ⊢
  have hl : lv_has ls 1 [(0, .ref (ad 0))] := hl
  have hts := dr_words hts0 (s.drawn)
  have hK := gKd hK0 (s.drawn)
  have hown : (s.setDrawn (s.drawn)).vm.findClass RX12 = some m.cls := hown0
  refine lv_aload_n hx hb dX12_keep_0 rfl (lv_at hl 0 rfl) ?_
  refine lv_iconst (v := 0) hx hb dX12_keep_1 (by decide) ?_
  refine va_put (D := (dC, dI)) (ci := 11) (v := .int 0) (C := RX12) (T := TX12) (N := 69) hx hb hts hinX12 tyX12 tyX12_ok nmX12 hown hK hP hD hS 0 (mat_11 rfl) rfl 0 (by decide) (hts (.fieldLink RX12 107 "BondCalendarsModel" "thrown" "I") (by decide +kernel)) (fun _ h9 => h9) rfl (ty := .int) (by decide +kernel) rfl rfl (Nat.le_of_ble_eq_true rfl) dX12_keep_2 (fun H locs hP hD hS => ?_)
  obtain ⟨σ1, eσ1, hP, hD⟩ := gPut (mse_11_0 rfl) hP hD
  have hIσ1 : InvM σ1 := by rw [eσ1]; exact minv_I hI (mok_11_0 rfl _)
  have frσ1 : mFr [67, 68] [0, 1, 2, 65, 68] σ σ1 := by rw [eσ1]; exact mFr.oI (mFr.rfl (L := [67, 68]) (F := [0, 1, 2, 65, 68]) (σ := σ)) (by decide)
  refine lv_aload_n hx hb dX12_keep_5 rfl (lv_at hl 0 rfl) ?_
  have bd_1 := mrd_11_28 (c := 0) hI rfl
  refine va_get (D := (dC, dI)) (ci := 11) (v := .int ((σ 0).1 28)) (C := RX12) (T := TX12) (N := 69) hx hb hts hinX12 hown hK hP 0 (mat_11 rfl) rfl 28 (by decide) (hts (.fieldLink RX12 361 "BondCalendarsModel" "isThere" "Z") (by decide +kernel)) (fun _ h9 => h9) (congrArg (fun z => some (Value.int z)) (show (σ1 0).1 28 = ((σ 0).1 28) from by rw [eσ1, gI_oth _ _ _ (by decide)])) dX12_keep_6 ?_
  refine lv_if_ne (tgt := 17) hx hb dX12_keep_9 (by decide) (fun c_2 => ?_) (fun c_2 => ?_)
  · refine lv_aload_n hx hb dX12_keep_17 rfl (lv_at hl 0 rfl) ?_
    refine lv_aload_n hx hb dX12_keep_18 rfl (lv_at hl 0 rfl) ?_
    refine va_get (D := (dC, dI)) (ci := 11) (v := .ref (ad 25)) (C := RX12) (T := TX12) (N := 69) hx hb hts hinX12 hown hK hP 0 (mat_11 rfl) rfl 58 (by decide) (hts (.fieldLink RX12 89 "BondCalendarsModel" "held" "[I") (by decide +kernel)) (fun _ h9 => h9) rfl dX12_keep_19 ?_
    refine lv_aload_n hx hb dX12_keep_22 rfl (lv_at hl 0 rfl) ?_
    refine va_get (D := (dC, dI)) (ci := 11) (v := .ref (ad 27)) (C := RX12) (T := TX12) (N := 69) hx hb hts hinX12 hown hK hP 0 (mat_11 rfl) rfl 60 (by decide) (hts (.fieldLink RX12 95 "BondCalendarsModel" "heldKept" "[I") (by decide +kernel)) (fun _ h9 => h9) rfl dX12_keep_23 ?_
    have hF := gFree hD hS hA
    refine va_callvD hd0 (va_runV_D (As := [.ref (ad 25), .ref (ad 27)]) (rest := []) ⟨hx, hb, hml, hown, hts⟩ (n_X12_copies_25_27 l dC dI ad cA adK adV H.size σ1 hIσ1 ) (cwV 2 hts gX12_keep_X12_copies rfl rfl rfl (by decide +kernel) ⟨Nat.le_of_ble_eq_true rfl, Nat.le_of_ble_eq_true rfl⟩) ⟨gBlind, va_recv hK hP (ci := 11) (q0 := 0) rfl (mat_11 rfl), gStart (As := [.ref (ad 0), .ref (ad 25), .ref (ad 27)]) hP hD hK0 hT hS hF (s.drawn)⟩ rfl rfl hl.1 rfl (lv_room (Nat.le_of_ble_eq_true rfl)) dX12_keep_26 ⟨Nat.le_of_ble_eq_true rfl, Nat.le_of_ble_eq_true rfl⟩) hS (fun q _ h => hF q h) hF (fun σ2 t H locs ht hvm hw hB hz1 hk1 hS d_4 hd0 => ?_)
    have hts := dr_words hts0 (d_4)
    have hK := gKd hK0 (d_4)
    have hown : (s.setDrawn (d_4)).vm.findClass RX12 = some m.cls := hown0
    obtain ⟨hP, hD⟩ := gBack hF ht hB
    obtain ⟨hIσ2, fcσ2, hp_5⟩ := hw
    refine lv_aload_n hx hb dX12_keep_29 rfl (lv_at hl 0 rfl) ?_
    refine lv_aload_n hx hb dX12_keep_30 rfl (lv_at hl 0 rfl) ?_
    refine va_get (D := (dC, dI)) (ci := 11) (v := .ref (ad 26)) (C := RX12) (T := TX12) (N := 69) hx hb hts hinX12 hown hK hP 0 (mat_11 rfl) rfl 59 (by decide) (hts (.fieldLink RX12 92 "BondCalendarsModel" "entitled" "[I") (by decide +kernel)) (fun _ h9 => h9) rfl dX12_keep_31 ?_
    refine lv_aload_n hx hb dX12_keep_34 rfl (lv_at hl 0 rfl) ?_
    refine va_get (D := (dC, dI)) (ci := 11) (v := .ref (ad 28)) (C := RX12) (T := TX12) (N := 69) hx hb hts hinX12 hown hK hP 0 (mat_11 rfl) rfl 61 (by decide) (hts (.fieldLink RX12 98 "BondCalendarsModel" "entitledKept" "[I") (by decide +kernel)) (fun _ h9 => h9) rfl dX12_keep_35 ?_
    have hF := gFree hD hS hA
    refine va_callvD hd0 (va_runV_D (As := [.ref (ad 26), .ref (ad 28)]) (rest := []) ⟨hx, hb, hml, hown, hts⟩ (n_X12_copies_26_28 l dC dI ad cA adK adV H.size σ2 hIσ2 ) (cwV 2 hts gX12_keep_X12_copies rfl rfl rfl (by decide +kernel) ⟨Nat.le_of_ble_eq_true rfl, Nat.le_of_ble_eq_true rfl⟩) ⟨gBlind, va_recv hK hP (ci := 11) (q0 := 0) rfl (mat_11 rfl), gStart (As := [.ref (ad 0), .ref (ad 26), .ref (ad 28)]) hP hD hK0 hT hS hF (d_4)⟩ rfl rfl hl.1 rfl (lv_room (Nat.le_of_ble_eq_true rfl)) dX12_keep_38 ⟨Nat.le_of_ble_eq_true rfl, Nat.le_of_ble_eq_true rfl⟩) hS (fun q _ h => hF q h) hF (fun σ3 t H locs ht hvm hw hB hz1 hk1 hS d_7 hd0 => ?_)
    have hts := dr_words hts0 (d_7)
    have hK := gKd hK0 (d_7)
    have hown : (s.setDrawn (d_7)).vm.findClass RX12 = some m.cls := hown0
    obtain ⟨hP, hD⟩ := gBack hF ht hB
    obtain ⟨hIσ3, fcσ3, hp_8⟩ := hw
    refine lv_aload_n hx hb dX12_keep_41 rfl (lv_at hl 0 rfl) ?_
    refine lv_aload_n hx hb dX12_keep_42 rfl (lv_at hl 0 rfl) ?_
    refine va_get (D := (dC, dI)) (ci := 11) (v := .int ((σ 0).1 64)) (C := RX12) (T := TX12) (N := 69) hx hb hts hinX12 hown hK hP 0 (mat_11 rfl) rfl 64 (by decide) (hts (.fieldLink RX12 377 "BondCalendarsModel" "now" "I") (by decide +kernel)) (fun _ h9 => h9) (congrArg (fun z => some (Value.int z)) (show (σ3 0).1 64 = ((σ 0).1 64) from by rw [fcσ3.2 64 (by decide), fcσ2.2 64 (by decide), eσ1, gI_oth _ _ _ (by decide)])) dX12_keep_43 ?_
    refine va_put (D := (dC, dI)) (ci := 11) (v := .int ((σ 0).1 64)) (C := RX12) (T := TX12) (N := 69) hx hb hts hinX12 tyX12 tyX12_ok nmX12 hown hK hP hD hS 0 (mat_11 rfl) rfl 65 (by decide) (hts (.fieldLink RX12 591 "BondCalendarsModel" "nowKept" "I") (by decide +kernel)) (fun _ h9 => h9) rfl (ty := .int) (by decide +kernel) rfl rfl (Nat.le_of_ble_eq_true rfl) dX12_keep_46 (fun H locs hP hD hS => ?_)
    obtain ⟨σ4, eσ4, hP, hD⟩ := gPut (mse_11_65 rfl) hP hD
    have hIσ4 : InvM σ4 := by rw [eσ4]; exact minv_I hIσ3 (mok_11_65 rfl _)
    have frσ4 : mFr [67, 68] [0, 1, 2, 65, 68] σ σ4 := by rw [eσ4]; exact mFr.oI (mFr.tr (mFr.tr frσ1 fcσ2 (by decide) (by decide)) fcσ3 (by decide) (by decide)) (by decide)
    refine lv_aload_n hx hb dX12_keep_49 rfl (lv_at hl 0 rfl) ?_
    refine lv_aload_n hx hb dX12_keep_50 rfl (lv_at hl 0 rfl) ?_
    refine va_get (D := (dC, dI)) (ci := 11) (v := .long ((σ4 0).2.1 66)) (C := RX12) (T := TX12) (N := 69) hx hb hts hinX12 hown hK hP 0 (mat_11 rfl) rfl 66 (by decide) (hts (.fieldLink RX12 380 "BondCalendarsModel" "cash" "J") (by decide +kernel)) (fun _ h9 => h9) rfl dX12_keep_51 ?_
    refine va_put (D := (dC, dI)) (ci := 11) (v := .long ((σ4 0).2.1 66)) (C := RX12) (T := TX12) (N := 69) hx hb hts hinX12 tyX12 tyX12_ok nmX12 hown hK hP hD hS 0 (mat_11 rfl) rfl 67 (by decide) (hts (.fieldLink RX12 594 "BondCalendarsModel" "cashKept" "J") (by decide +kernel)) (fun _ h9 => h9) rfl (ty := .long) (by decide +kernel) rfl rfl (Nat.le_of_ble_eq_true rfl) dX12_keep_54 (fun H locs hP hD hS => ?_)
    obtain ⟨σ5, eσ5, hP, hD⟩ := gPut (mse_11_67 rfl) hP hD
    have hIσ5 : InvM σ5 := by rw [eσ5]; exact minv_L hIσ4
    have frσ5 : mFr [67, 68] [0, 1, 2, 65, 68] σ σ5 := by rw [eσ5]; exact mFr.oL frσ4
    refine lv_aload_n hx hb dX12_keep_57 rfl (lv_at hl 0 rfl) ?_
    refine lv_iconst (v := 1) hx hb dX12_keep_58 (by decide) ?_
    refine va_put (D := (dC, dI)) (ci := 11) (v := .int 1) (C := RX12) (T := TX12) (N := 69) hx hb hts hinX12 tyX12 tyX12_ok nmX12 hown hK hP hD hS 0 (mat_11 rfl) rfl 68 (by decide) (hts (.fieldLink RX12 382 "BondCalendarsModel" "isKept" "Z") (by decide +kernel)) (fun _ h9 => h9) rfl (ty := .boolean) (by decide +kernel) (by decide +kernel) (by decide +kernel) (Nat.le_of_ble_eq_true rfl) dX12_keep_59 (fun H locs hP hD hS => ?_)
    obtain ⟨σ6, eσ6, hP, hD⟩ := gPut (mse_11_68 rfl) hP hD
    have hIσ6 : InvM σ6 := by rw [eσ6]; exact minv_I hIσ5 (mok_11_68 rfl _ ⟨(show (0 : Int32) ≤ 1 by decide), (show (1 : Int32) ≤ 1 by decide)⟩)
    have frσ6 : mFr [67, 68] [0, 1, 2, 65, 68] σ σ6 := by rw [eσ6]; exact mFr.oI frσ5 (by decide)
    refine lv_aload_n hx hb dX12_keep_62 rfl (lv_at hl 0 rfl) ?_
    refine lv_iconst (v := 0) hx hb dX12_keep_63 (by decide) ?_
    have hF := gFree hD hS hA
    refine va_calliD hd0 (va_runV_D (As := [.int 0]) (rest := []) ⟨hx, hb, hml, hown, hts⟩ (n_X12_good l dC dI ad cA adK adV H.size σ6 hIσ6 0) (cwV 1 hts gX12_keep_X12_good rfl rfl rfl (by decide +kernel) ⟨Nat.le_of_ble_eq_true rfl, Nat.le_of_ble_eq_true rfl⟩) ⟨gBlind, va_recv hK hP (ci := 11) (q0 := 0) rfl (mat_11 rfl), gStart (As := [.ref (ad 0), .int 0]) hP hD hK0 hT hS hF (d_7)⟩ rfl rfl hl.1 rfl (lv_room (Nat.le_of_ble_eq_true rfl)) dX12_keep_64 ⟨Nat.le_of_ble_eq_true rfl, Nat.le_of_ble_eq_true rfl⟩) hS (fun q _ h => hF q h) hF (fun r_9 σ7 t H locs ht hvm hw hB hz1 hk1 hS d_10 hd0 => ?_)
    have hts := dr_words hts0 (d_10)
    have hK := gKd hK0 (d_10)
    have hown : (s.setDrawn (d_10)).vm.findClass RX12 = some m.cls := hown0
    obtain ⟨hP, hD⟩ := gBack hF ht hB
    obtain ⟨hIσ7, fcσ7, hp_11⟩ := hw
    refine lv_pop hx hb dX12_keep_67 rfl ?_
    refine lv_iconst (v := 1) hx hb dX12_keep_68 (by decide) ?_
    refine W.endD hd0 ?_
    exact W.zret (v := 1) hx hb hr (by decide) (fun t ht hW => ⟨⟨1, σ7, rfl, ⟨hIσ7, (mFr.tr frσ6 fcσ7 (by decide) (by decide)), ⟨Or.inr rfl, (Deep.day hh0 (by rw [fcσ7.1 2 (by decide) (by decide), eσ6, gI_ne _ _ _ (by decide), eσ5, gL_ne _ _ _ (by decide), eσ4, gI_ne _ _ _ (by decide), fcσ3.1 2 (by decide) (by decide), fcσ2.1 2 (by decide) (by decide), eσ1, gI_ne _ _ _ (by decide)]) (by rw [fcσ7.1 4 (by decide) (by decide), eσ6, gI_ne _ _ _ (by decide), eσ5, gL_ne _ _ _ (by decide), eσ4, gI_ne _ _ _ (by decide), fcσ3.1 4 (by decide) (by decide), fcσ2.1 4 (by decide) (by decide), eσ1, gI_ne _ _ _ (by decide)]) (by rw [fcσ7.1 9 (by decide) (by decide), eσ6, gI_ne _ _ _ (by decide), eσ5, gL_ne _ _ _ (by decide), eσ4, gI_ne _ _ _ (by decide), fcσ3.1 9 (by decide) (by decide), fcσ2.1 9 (by decide) (by decide), eσ1, gI_ne _ _ _ (by decide)]) (by rw [fcσ7.1 11 (by decide) (by decide), eσ6, gI_ne _ _ _ (by decide), eσ5, gL_ne _ _ _ (by decide), eσ4, gI_ne _ _ _ (by decide), fcσ3.1 11 (by decide) (by decide), fcσ2.1 11 (by decide) (by decide), eσ1, gI_ne _ _ _ (by decide)]) (by rw [fcσ7.1 12 (by decide) (by decide), eσ6, gI_ne _ _ _ (by decide), eσ5, gL_ne _ _ _ (by decide), eσ4, gI_ne _ _ _ (by decide), fcσ3.1 12 (by decide) (by decide), fcσ2.1 12 (by decide) (by decide), eσ1, gI_ne _ _ _ (by decide)]) (by rw [fcσ7.1 17 (by decide) (by decide), eσ6, gI_ne _ _ _ (by decide), eσ5, gL_ne _ _ _ (by decide), eσ4, gI_ne _ _ _ (by decide), fcσ3.1 17 (by decide) (by decide), fcσ2.1 17 (by decide) (by decide), eσ1, gI_ne _ _ _ (by decide)]) (by rw [fcσ7.1 18 (by decide) (by decide), eσ6, gI_ne _ _ _ (by decide), eσ5, gL_ne _ _ _ (by decide), eσ4, gI_ne _ _ _ (by decide), fcσ3.1 18 (by decide) (by decide), fcσ2.1 18 (by decide) (by decide), eσ1, gI_ne _ _ _ (by decide)]) (by rw [fcσ7.2 20 (by decide), eσ6, gI_oth _ _ _ (by decide), eσ5, gL_i, eσ4, gI_oth _ _ _ (by decide), fcσ3.2 20 (by decide), fcσ2.2 20 (by decide), eσ1, gI_oth _ _ _ (by decide)]) (by rw [fcσ7.2 21 (by decide), eσ6, gI_oth _ _ _ (by decide), eσ5, gL_i, eσ4, gI_oth _ _ _ (by decide), fcσ3.2 21 (by decide), fcσ2.2 21 (by decide), eσ1, gI_oth _ _ _ (by decide)]) (dk_same (by rw [fcσ7.2 28 (by decide), eσ6, gI_oth _ _ _ (by decide), eσ5, gL_i, eσ4, gI_oth _ _ _ (by decide), fcσ3.2 28 (by decide), fcσ2.2 28 (by decide), eσ1, gI_oth _ _ _ (by decide)]) (by rw [fcσ7.2 64 (by decide), eσ6, gI_oth _ _ _ (by decide), eσ5, gL_i, eσ4, gI_oth _ _ _ (by decide), fcσ3.2 64 (by decide), fcσ2.2 64 (by decide), eσ1, gI_oth _ _ _ (by decide)]) hh0.2.2.1) (Or.inr (by rw [fcσ7.2 65 (by decide), eσ6, gI_oth _ _ _ (by decide), eσ5, gL_i, eσ4, gI_self]; exact hh0.2.2.1.resolve_left c_2)))⟩⟩, ⟨by rw [ht]; exact hP, hD⟩⟩, hS.F ht⟩) hS.2.2 dX12_keep_69
  · refine lv_aload_n hx hb dX12_keep_12 rfl (lv_at hl 0 rfl) ?_
    have hF := gFree hD hS hA
    refine va_calliD hd0 (va_runV_D (As := []) (rest := []) ⟨hx, hb, hml, hown, hts⟩ (n_X12_denied l dC dI ad cA adK adV H.size σ1 hIσ1 ) (cwV 0 hts gX12_keep_X12_denied rfl rfl rfl (by decide +kernel) ⟨Nat.le_of_ble_eq_true rfl, Nat.le_of_ble_eq_true rfl⟩) ⟨gBlind, va_recv hK hP (ci := 11) (q0 := 0) rfl (mat_11 rfl), gStart (As := [.ref (ad 0)]) hP hD hK0 hT hS hF (s.drawn)⟩ rfl rfl hl.1 rfl (lv_room (Nat.le_of_ble_eq_true rfl)) dX12_keep_13 ⟨Nat.le_of_ble_eq_true rfl, Nat.le_of_ble_eq_true rfl⟩) hS (fun q _ h => hF q h) hF (fun r_12 σ8 t H locs ht hvm hw hB hz1 hk1 hS d_13 hd0 => ?_)
    have hts := dr_words hts0 (d_13)
    have hK := gKd hK0 (d_13)
    have hown : (s.setDrawn (d_13)).vm.findClass RX12 = some m.cls := hown0
    obtain ⟨hP, hD⟩ := gBack hF ht hB
    obtain ⟨hIσ8, fcσ8, hp_14⟩ := hw
    refine W.endD hd0 ?_
    exact W.zret (v := r_12) hx hb hr (by rcases hp_14 with h9 | h9 <;> rw [h9] <;> decide +kernel) (fun t ht hW => ⟨⟨r_12, σ8, rfl, ⟨hIσ8, (mFr.tr frσ1 fcσ8 (by decide) (by decide)), ⟨hp_14, (Deep.fr hh0 (by rw [fcσ8.1 2 (by decide) (by decide), eσ1, gI_ne _ _ _ (by decide)]) (by rw [fcσ8.1 4 (by decide) (by decide), eσ1, gI_ne _ _ _ (by decide)]) (by rw [fcσ8.1 9 (by decide) (by decide), eσ1, gI_ne _ _ _ (by decide)]) (by rw [fcσ8.1 11 (by decide) (by decide), eσ1, gI_ne _ _ _ (by decide)]) (by rw [fcσ8.1 12 (by decide) (by decide), eσ1, gI_ne _ _ _ (by decide)]) (by rw [fcσ8.1 17 (by decide) (by decide), eσ1, gI_ne _ _ _ (by decide)]) (by rw [fcσ8.1 18 (by decide) (by decide), eσ1, gI_ne _ _ _ (by decide)]) (by rw [fcσ8.2 20 (by decide), eσ1, gI_oth _ _ _ (by decide)]) (by rw [fcσ8.2 21 (by decide), eσ1, gI_oth _ _ _ (by decide)]) (by rw [fcσ8.2 28 (by decide), eσ1, gI_oth _ _ _ (by decide)]) (by rw [fcσ8.2 64 (by decide), eσ1, gI_oth _ _ _ (by decide)]) (by rw [fcσ8.2 65 (by decide), eσ1, gI_oth _ _ _ (by decide)]) (by rw [fcσ8.2 68 (by decide), eσ1, gI_oth _ _ _ (by decide)]))⟩⟩, ⟨by rw [ht]; exact hP, hD⟩⟩, hS.F ht⟩) hS.2.2 dX12_keep_16
set_option maxHeartbeats 8000000 in
set_option maxRecDepth 100000 in
theorem n_X12_back (l : Launch) (dC : Nat → ClassId) (dI : Nat → Nat → Nat) (ad : Nat → Nat) (cA : Nat → ClassId) (adK adV : Nat → Nat) (sz : Nat) (σ : gs) (hI : InvM σ) (hh0 : Deep σ) : MetD lw_cs l yX12_back wsX12_back ({ frames := 2, cells := 0, slots := 0, locals := 41 }) (va_Pc [.ref (ad 0)] (gPre adK adV (dC, dI) (wM ad cA σ) (tM cA) sz)) (va_Qi (fun (r : Int32) (τ : gs) => InvM τ ∧ mFr [65, 66] [0, 1, 2, 64] σ τ ∧ ((r = 0 ∨ r = 1) ∧ Deep τ)) (fun τ t => gPost (dC, dI) (va_A (wM ad cA σ) sz) (wM ad cA τ) t) (va_A (wM ad cA σ) sz)) 0 0 (va_A (wM ad cA σ) sz) := by
  refine MetD.ofW (cc := cX12_back) (maxL := 1) (ret := (some .boolean)) (by decide) rfl ?_
  intro p e s m args below meth c s₁ B hml hv hd0
  obtain ⟨rfl, hsz, hP, hK, hD0, hT⟩ := hv
  have hx := B.exec
  have hb := B.bytes
  have hr := B.returns
  have hts0 := atoms_spec (ws := wsX12_back) B.pre
  have hK0 := hK
  have hown0 : s.vm.findClass RX12 = some m.cls := findClass_of_methodNamed B.named
  have hlocks := B.notSynchronized
  have hinX12 : ∀ w ∈ u_ws RX12 TX12 69, w ∈ wsX12_back := (fun _ h9 => List.mem_cons_of_mem _ (List.mem_append_right _ h9))
  subst hsz
  have hD := hD0.self (sz := s.heap.size)
  generalize hAe : va_A (wM ad cA σ) s.heap.size = A at hD hT ⊢
  have hA : ∀ q : Nat, s.heap.size ≤ q → A q := fun q h => by rw [← hAe]; exact Or.inr h
  have hS : va_S A s.heap s.heap [] := va_S.rf
  have hl := lv_entry ([.ref (ad 0)]) (n := 1) (Nat.le_of_ble_eq_true rfl)
  rw [lg_entry_eq]
  generalize (lg_sl ([.ref (ad 0)]) ++ List.replicate (1 - (lg_sl ([.ref (ad 0)])).length) Slot.unset).toArray = ls at hl ⊢
  have hl : lv_has ls 1 [(0, .ref (ad 0))] := hl
  have hts := dr_words hts0 (s.drawn)
  have hK := gKd hK0 (s.drawn)
  have hown : (s.setDrawn (s.drawn)).vm.findClass RX12 = some m.cls := hown0
  refine lv_aload_n hx hb dX12_back_0 rfl (lv_at hl 0 rfl) ?_
  refine lv_iconst (v := 0) hx hb dX12_back_1 (by decide) ?_
  refine va_put (D := (dC, dI)) (ci := 11) (v := .int 0) (C := RX12) (T := TX12) (N := 69) hx hb hts hinX12 tyX12 tyX12_ok nmX12 hown hK hP hD hS 0 (mat_11 rfl) rfl 0 (by decide) (hts (.fieldLink RX12 107 "BondCalendarsModel" "thrown" "I") (by decide +kernel)) (fun _ h9 => h9) rfl (ty := .int) (by decide +kernel) rfl rfl (Nat.le_of_ble_eq_true rfl) dX12_back_2 (fun H locs hP hD hS => ?_)
  obtain ⟨σ1, eσ1, hP, hD⟩ := gPut (mse_11_0 rfl) hP hD
  have hIσ1 : InvM σ1 := by rw [eσ1]; exact minv_I hI (mok_11_0 rfl _)
  have frσ1 : mFr [65, 66] [0, 1, 2, 64] σ σ1 := by rw [eσ1]; exact mFr.oI (mFr.rfl (L := [65, 66]) (F := [0, 1, 2, 64]) (σ := σ)) (by decide)
  refine lv_aload_n hx hb dX12_back_5 rfl (lv_at hl 0 rfl) ?_
  have bd_1 := mrd_11_68 (c := 0) hI rfl
  refine va_get (D := (dC, dI)) (ci := 11) (v := .int ((σ 0).1 68)) (C := RX12) (T := TX12) (N := 69) hx hb hts hinX12 hown hK hP 0 (mat_11 rfl) rfl 68 (by decide) (hts (.fieldLink RX12 382 "BondCalendarsModel" "isKept" "Z") (by decide +kernel)) (fun _ h9 => h9) (congrArg (fun z => some (Value.int z)) (show (σ1 0).1 68 = ((σ 0).1 68) from by rw [eσ1, gI_oth _ _ _ (by decide)])) dX12_back_6 ?_
  refine lv_if_ne (tgt := 17) hx hb dX12_back_9 (by decide) (fun c_2 => ?_) (fun c_2 => ?_)
  · refine lv_aload_n hx hb dX12_back_17 rfl (lv_at hl 0 rfl) ?_
    refine lv_aload_n hx hb dX12_back_18 rfl (lv_at hl 0 rfl) ?_
    refine va_get (D := (dC, dI)) (ci := 11) (v := .ref (ad 27)) (C := RX12) (T := TX12) (N := 69) hx hb hts hinX12 hown hK hP 0 (mat_11 rfl) rfl 60 (by decide) (hts (.fieldLink RX12 95 "BondCalendarsModel" "heldKept" "[I") (by decide +kernel)) (fun _ h9 => h9) rfl dX12_back_19 ?_
    refine lv_aload_n hx hb dX12_back_22 rfl (lv_at hl 0 rfl) ?_
    refine va_get (D := (dC, dI)) (ci := 11) (v := .ref (ad 25)) (C := RX12) (T := TX12) (N := 69) hx hb hts hinX12 hown hK hP 0 (mat_11 rfl) rfl 58 (by decide) (hts (.fieldLink RX12 89 "BondCalendarsModel" "held" "[I") (by decide +kernel)) (fun _ h9 => h9) rfl dX12_back_23 ?_
    have hF := gFree hD hS hA
    refine va_callvD hd0 (va_runV_D (As := [.ref (ad 27), .ref (ad 25)]) (rest := []) ⟨hx, hb, hml, hown, hts⟩ (n_X12_copies_27_25 l dC dI ad cA adK adV H.size σ1 hIσ1 ) (cwV 2 hts gX12_back_X12_copies rfl rfl rfl (by decide +kernel) ⟨Nat.le_of_ble_eq_true rfl, Nat.le_of_ble_eq_true rfl⟩) ⟨gBlind, va_recv hK hP (ci := 11) (q0 := 0) rfl (mat_11 rfl), gStart (As := [.ref (ad 0), .ref (ad 27), .ref (ad 25)]) hP hD hK0 hT hS hF (s.drawn)⟩ rfl rfl hl.1 rfl (lv_room (Nat.le_of_ble_eq_true rfl)) dX12_back_26 ⟨Nat.le_of_ble_eq_true rfl, Nat.le_of_ble_eq_true rfl⟩) hS (fun q _ h => hF q h) hF (fun σ2 t H locs ht hvm hw hB hz1 hk1 hS d_4 hd0 => ?_)
    have hts := dr_words hts0 (d_4)
    have hK := gKd hK0 (d_4)
    have hown : (s.setDrawn (d_4)).vm.findClass RX12 = some m.cls := hown0
    obtain ⟨hP, hD⟩ := gBack hF ht hB
    obtain ⟨hIσ2, fcσ2, hp_5⟩ := hw
    refine lv_aload_n hx hb dX12_back_29 rfl (lv_at hl 0 rfl) ?_
    refine lv_aload_n hx hb dX12_back_30 rfl (lv_at hl 0 rfl) ?_
    refine va_get (D := (dC, dI)) (ci := 11) (v := .ref (ad 28)) (C := RX12) (T := TX12) (N := 69) hx hb hts hinX12 hown hK hP 0 (mat_11 rfl) rfl 61 (by decide) (hts (.fieldLink RX12 98 "BondCalendarsModel" "entitledKept" "[I") (by decide +kernel)) (fun _ h9 => h9) rfl dX12_back_31 ?_
    refine lv_aload_n hx hb dX12_back_34 rfl (lv_at hl 0 rfl) ?_
    refine va_get (D := (dC, dI)) (ci := 11) (v := .ref (ad 26)) (C := RX12) (T := TX12) (N := 69) hx hb hts hinX12 hown hK hP 0 (mat_11 rfl) rfl 59 (by decide) (hts (.fieldLink RX12 92 "BondCalendarsModel" "entitled" "[I") (by decide +kernel)) (fun _ h9 => h9) rfl dX12_back_35 ?_
    have hF := gFree hD hS hA
    refine va_callvD hd0 (va_runV_D (As := [.ref (ad 28), .ref (ad 26)]) (rest := []) ⟨hx, hb, hml, hown, hts⟩ (n_X12_copies_28_26 l dC dI ad cA adK adV H.size σ2 hIσ2 ) (cwV 2 hts gX12_back_X12_copies rfl rfl rfl (by decide +kernel) ⟨Nat.le_of_ble_eq_true rfl, Nat.le_of_ble_eq_true rfl⟩) ⟨gBlind, va_recv hK hP (ci := 11) (q0 := 0) rfl (mat_11 rfl), gStart (As := [.ref (ad 0), .ref (ad 28), .ref (ad 26)]) hP hD hK0 hT hS hF (d_4)⟩ rfl rfl hl.1 rfl (lv_room (Nat.le_of_ble_eq_true rfl)) dX12_back_38 ⟨Nat.le_of_ble_eq_true rfl, Nat.le_of_ble_eq_true rfl⟩) hS (fun q _ h => hF q h) hF (fun σ3 t H locs ht hvm hw hB hz1 hk1 hS d_7 hd0 => ?_)
    have hts := dr_words hts0 (d_7)
    have hK := gKd hK0 (d_7)
    have hown : (s.setDrawn (d_7)).vm.findClass RX12 = some m.cls := hown0
    obtain ⟨hP, hD⟩ := gBack hF ht hB
    obtain ⟨hIσ3, fcσ3, hp_8⟩ := hw
    refine lv_aload_n hx hb dX12_back_41 rfl (lv_at hl 0 rfl) ?_
    refine lv_aload_n hx hb dX12_back_42 rfl (lv_at hl 0 rfl) ?_
    refine va_get (D := (dC, dI)) (ci := 11) (v := .int ((σ 0).1 65)) (C := RX12) (T := TX12) (N := 69) hx hb hts hinX12 hown hK hP 0 (mat_11 rfl) rfl 65 (by decide) (hts (.fieldLink RX12 591 "BondCalendarsModel" "nowKept" "I") (by decide +kernel)) (fun _ h9 => h9) (congrArg (fun z => some (Value.int z)) (show (σ3 0).1 65 = ((σ 0).1 65) from by rw [fcσ3.2 65 (by decide), fcσ2.2 65 (by decide), eσ1, gI_oth _ _ _ (by decide)])) dX12_back_43 ?_
    refine va_put (D := (dC, dI)) (ci := 11) (v := .int ((σ 0).1 65)) (C := RX12) (T := TX12) (N := 69) hx hb hts hinX12 tyX12 tyX12_ok nmX12 hown hK hP hD hS 0 (mat_11 rfl) rfl 64 (by decide) (hts (.fieldLink RX12 377 "BondCalendarsModel" "now" "I") (by decide +kernel)) (fun _ h9 => h9) rfl (ty := .int) (by decide +kernel) rfl rfl (Nat.le_of_ble_eq_true rfl) dX12_back_46 (fun H locs hP hD hS => ?_)
    obtain ⟨σ4, eσ4, hP, hD⟩ := gPut (mse_11_64 rfl) hP hD
    have hIσ4 : InvM σ4 := by rw [eσ4]; exact minv_I hIσ3 (mok_11_64 rfl _)
    have frσ4 : mFr [65, 66] [0, 1, 2, 64] σ σ4 := by rw [eσ4]; exact mFr.oI (mFr.tr (mFr.tr frσ1 fcσ2 (by decide) (by decide)) fcσ3 (by decide) (by decide)) (by decide)
    refine lv_aload_n hx hb dX12_back_49 rfl (lv_at hl 0 rfl) ?_
    refine lv_aload_n hx hb dX12_back_50 rfl (lv_at hl 0 rfl) ?_
    refine va_get (D := (dC, dI)) (ci := 11) (v := .long ((σ4 0).2.1 67)) (C := RX12) (T := TX12) (N := 69) hx hb hts hinX12 hown hK hP 0 (mat_11 rfl) rfl 67 (by decide) (hts (.fieldLink RX12 594 "BondCalendarsModel" "cashKept" "J") (by decide +kernel)) (fun _ h9 => h9) rfl dX12_back_51 ?_
    refine va_put (D := (dC, dI)) (ci := 11) (v := .long ((σ4 0).2.1 67)) (C := RX12) (T := TX12) (N := 69) hx hb hts hinX12 tyX12 tyX12_ok nmX12 hown hK hP hD hS 0 (mat_11 rfl) rfl 66 (by decide) (hts (.fieldLink RX12 380 "BondCalendarsModel" "cash" "J") (by decide +kernel)) (fun _ h9 => h9) rfl (ty := .long) (by decide +kernel) rfl rfl (Nat.le_of_ble_eq_true rfl) dX12_back_54 (fun H locs hP hD hS => ?_)
    obtain ⟨σ5, eσ5, hP, hD⟩ := gPut (mse_11_66 rfl) hP hD
    have hIσ5 : InvM σ5 := by rw [eσ5]; exact minv_L hIσ4
    have frσ5 : mFr [65, 66] [0, 1, 2, 64] σ σ5 := by rw [eσ5]; exact mFr.oL frσ4
    refine lv_aload_n hx hb dX12_back_57 rfl (lv_at hl 0 rfl) ?_
    refine lv_iconst (v := 0) hx hb dX12_back_58 (by decide) ?_
    have hF := gFree hD hS hA
    refine va_calliD hd0 (va_runV_D (As := [.int 0]) (rest := []) ⟨hx, hb, hml, hown, hts⟩ (n_X12_good l dC dI ad cA adK adV H.size σ5 hIσ5 0) (cwV 1 hts gX12_back_X12_good rfl rfl rfl (by decide +kernel) ⟨Nat.le_of_ble_eq_true rfl, Nat.le_of_ble_eq_true rfl⟩) ⟨gBlind, va_recv hK hP (ci := 11) (q0 := 0) rfl (mat_11 rfl), gStart (As := [.ref (ad 0), .int 0]) hP hD hK0 hT hS hF (d_7)⟩ rfl rfl hl.1 rfl (lv_room (Nat.le_of_ble_eq_true rfl)) dX12_back_59 ⟨Nat.le_of_ble_eq_true rfl, Nat.le_of_ble_eq_true rfl⟩) hS (fun q _ h => hF q h) hF (fun r_9 σ6 t H locs ht hvm hw hB hz1 hk1 hS d_10 hd0 => ?_)
    have hts := dr_words hts0 (d_10)
    have hK := gKd hK0 (d_10)
    have hown : (s.setDrawn (d_10)).vm.findClass RX12 = some m.cls := hown0
    obtain ⟨hP, hD⟩ := gBack hF ht hB
    obtain ⟨hIσ6, fcσ6, hp_11⟩ := hw
    refine lv_pop hx hb dX12_back_62 rfl ?_
    refine lv_iconst (v := 1) hx hb dX12_back_63 (by decide) ?_
    refine W.endD hd0 ?_
    exact W.zret (v := 1) hx hb hr (by decide) (fun t ht hW => ⟨⟨1, σ6, rfl, ⟨hIσ6, (mFr.tr frσ5 fcσ6 (by decide) (by decide)), ⟨Or.inr rfl, (Deep.day hh0 (by rw [fcσ6.1 2 (by decide) (by decide), eσ5, gL_ne _ _ _ (by decide), eσ4, gI_ne _ _ _ (by decide), fcσ3.1 2 (by decide) (by decide), fcσ2.1 2 (by decide) (by decide), eσ1, gI_ne _ _ _ (by decide)]) (by rw [fcσ6.1 4 (by decide) (by decide), eσ5, gL_ne _ _ _ (by decide), eσ4, gI_ne _ _ _ (by decide), fcσ3.1 4 (by decide) (by decide), fcσ2.1 4 (by decide) (by decide), eσ1, gI_ne _ _ _ (by decide)]) (by rw [fcσ6.1 9 (by decide) (by decide), eσ5, gL_ne _ _ _ (by decide), eσ4, gI_ne _ _ _ (by decide), fcσ3.1 9 (by decide) (by decide), fcσ2.1 9 (by decide) (by decide), eσ1, gI_ne _ _ _ (by decide)]) (by rw [fcσ6.1 11 (by decide) (by decide), eσ5, gL_ne _ _ _ (by decide), eσ4, gI_ne _ _ _ (by decide), fcσ3.1 11 (by decide) (by decide), fcσ2.1 11 (by decide) (by decide), eσ1, gI_ne _ _ _ (by decide)]) (by rw [fcσ6.1 12 (by decide) (by decide), eσ5, gL_ne _ _ _ (by decide), eσ4, gI_ne _ _ _ (by decide), fcσ3.1 12 (by decide) (by decide), fcσ2.1 12 (by decide) (by decide), eσ1, gI_ne _ _ _ (by decide)]) (by rw [fcσ6.1 17 (by decide) (by decide), eσ5, gL_ne _ _ _ (by decide), eσ4, gI_ne _ _ _ (by decide), fcσ3.1 17 (by decide) (by decide), fcσ2.1 17 (by decide) (by decide), eσ1, gI_ne _ _ _ (by decide)]) (by rw [fcσ6.1 18 (by decide) (by decide), eσ5, gL_ne _ _ _ (by decide), eσ4, gI_ne _ _ _ (by decide), fcσ3.1 18 (by decide) (by decide), fcσ2.1 18 (by decide) (by decide), eσ1, gI_ne _ _ _ (by decide)]) (by rw [fcσ6.2 20 (by decide), eσ5, gL_i, eσ4, gI_oth _ _ _ (by decide), fcσ3.2 20 (by decide), fcσ2.2 20 (by decide), eσ1, gI_oth _ _ _ (by decide)]) (by rw [fcσ6.2 21 (by decide), eσ5, gL_i, eσ4, gI_oth _ _ _ (by decide), fcσ3.2 21 (by decide), fcσ2.2 21 (by decide), eσ1, gI_oth _ _ _ (by decide)]) (Or.inr (by rw [fcσ6.2 64 (by decide), eσ5, gL_i, eσ4, gI_self]; exact hh0.2.2.2.resolve_left c_2)) (dk_same (by rw [fcσ6.2 68 (by decide), eσ5, gL_i, eσ4, gI_oth _ _ _ (by decide), fcσ3.2 68 (by decide), fcσ2.2 68 (by decide), eσ1, gI_oth _ _ _ (by decide)]) (by rw [fcσ6.2 65 (by decide), eσ5, gL_i, eσ4, gI_oth _ _ _ (by decide), fcσ3.2 65 (by decide), fcσ2.2 65 (by decide), eσ1, gI_oth _ _ _ (by decide)]) hh0.2.2.2))⟩⟩, ⟨by rw [ht]; exact hP, hD⟩⟩, hS.F ht⟩) hS.2.2 dX12_back_64
  · refine lv_aload_n hx hb dX12_back_12 rfl (lv_at hl 0 rfl) ?_
    have hF := gFree hD hS hA
    refine va_calliD hd0 (va_runV_D (As := []) (rest := []) ⟨hx, hb, hml, hown, hts⟩ (n_X12_denied l dC dI ad cA adK adV H.size σ1 hIσ1 ) (cwV 0 hts gX12_back_X12_denied rfl rfl rfl (by decide +kernel) ⟨Nat.le_of_ble_eq_true rfl, Nat.le_of_ble_eq_true rfl⟩) ⟨gBlind, va_recv hK hP (ci := 11) (q0 := 0) rfl (mat_11 rfl), gStart (As := [.ref (ad 0)]) hP hD hK0 hT hS hF (s.drawn)⟩ rfl rfl hl.1 rfl (lv_room (Nat.le_of_ble_eq_true rfl)) dX12_back_13 ⟨Nat.le_of_ble_eq_true rfl, Nat.le_of_ble_eq_true rfl⟩) hS (fun q _ h => hF q h) hF (fun r_12 σ7 t H locs ht hvm hw hB hz1 hk1 hS d_13 hd0 => ?_)
    have hts := dr_words hts0 (d_13)
    have hK := gKd hK0 (d_13)
    have hown : (s.setDrawn (d_13)).vm.findClass RX12 = some m.cls := hown0
    obtain ⟨hP, hD⟩ := gBack hF ht hB
    obtain ⟨hIσ7, fcσ7, hp_14⟩ := hw
    refine W.endD hd0 ?_
    exact W.zret (v := r_12) hx hb hr (by rcases hp_14 with h9 | h9 <;> rw [h9] <;> decide +kernel) (fun t ht hW => ⟨⟨r_12, σ7, rfl, ⟨hIσ7, (mFr.tr frσ1 fcσ7 (by decide) (by decide)), ⟨hp_14, (Deep.fr hh0 (by rw [fcσ7.1 2 (by decide) (by decide), eσ1, gI_ne _ _ _ (by decide)]) (by rw [fcσ7.1 4 (by decide) (by decide), eσ1, gI_ne _ _ _ (by decide)]) (by rw [fcσ7.1 9 (by decide) (by decide), eσ1, gI_ne _ _ _ (by decide)]) (by rw [fcσ7.1 11 (by decide) (by decide), eσ1, gI_ne _ _ _ (by decide)]) (by rw [fcσ7.1 12 (by decide) (by decide), eσ1, gI_ne _ _ _ (by decide)]) (by rw [fcσ7.1 17 (by decide) (by decide), eσ1, gI_ne _ _ _ (by decide)]) (by rw [fcσ7.1 18 (by decide) (by decide), eσ1, gI_ne _ _ _ (by decide)]) (by rw [fcσ7.2 20 (by decide), eσ1, gI_oth _ _ _ (by decide)]) (by rw [fcσ7.2 21 (by decide), eσ1, gI_oth _ _ _ (by decide)]) (by rw [fcσ7.2 28 (by decide), eσ1, gI_oth _ _ _ (by decide)]) (by rw [fcσ7.2 64 (by decide), eσ1, gI_oth _ _ _ (by decide)]) (by rw [fcσ7.2 65 (by decide), eσ1, gI_oth _ _ _ (by decide)]) (by rw [fcσ7.2 68 (by decide), eσ1, gI_oth _ _ _ (by decide)]))⟩⟩, ⟨by rw [ht]; exact hP, hD⟩⟩, hS.F ht⟩) hS.2.2 dX12_back_16
