set_option maxHeartbeats 8000000 in
set_option maxRecDepth 100000 in
theorem n_X8_open (l : Launch) (dC : Nat → ClassId) (dI : Nat → Nat → Nat) (ad : Nat → Nat) (cA : Nat → ClassId) (adK adV : Nat → Nat) (sz : Nat) (σ : gs) (hI : InvX σ) (o : Nat) (ho : kX o = 7) (a0 : Nat) (ha0 : kX a0 = 0) (p1 : Int32) : MetD lw_cs l yX8_open wsX8_open ({ frames := 5, cells := 0, slots := 0, locals := 131 }) (va_Pc [.ref (ad o), .ref (ad a0), .int p1] (gPre adK adV (dC, dI) (wX ad cA σ) (tX cA) sz)) (va_Qv (fun (τ : gs) => InvX τ ∧ gFr [5, 7] σ τ ∧ (True)) (fun τ t => gPost (dC, dI) (va_A (wX ad cA σ) sz) (wX ad cA τ) t) (va_A (wX ad cA σ) sz)) 0 0 (va_A (wX ad cA σ) sz) := by
  refine MetD.ofW (cc := cX8_open) (maxL := 4) (ret := none) (by decide) rfl ?_
  intro p e s m args below meth c s₁ B hml hv hd0
  obtain ⟨rfl, hsz, hP, hK, hD0, hT⟩ := hv
  have hx := B.exec
  have hb := B.bytes
  have hr := B.returns
  have hts0 := atoms_spec (ws := wsX8_open) B.pre
  have hK0 := hK
  have hown0 : s.vm.findClass RX8 = some m.cls := findClass_of_methodNamed B.named
  have hlocks := B.notSynchronized
  have hinX8 : ∀ w ∈ u_ws RX8 TX8 8, w ∈ wsX8_open := (fun _ h9 => List.mem_cons_of_mem _ (List.mem_append_left _ (List.mem_append_left _ (List.mem_append_right _ h9))))
  have hinX0 : ∀ w ∈ u_ws RX0 TX0 16, w ∈ wsX8_open := (fun _ h9 => List.mem_cons_of_mem _ (List.mem_append_left _ (List.mem_append_right _ h9)))
  have hinX6 : ∀ w ∈ u_ws RX6 TX6 2, w ∈ wsX8_open := (fun _ h9 => List.mem_cons_of_mem _ (List.mem_append_right _ h9))
  subst hsz
  have hD := hD0.self (sz := s.heap.size)
  generalize hAe : va_A (wX ad cA σ) s.heap.size = A at hD hT ⊢
  have hA : ∀ q : Nat, s.heap.size ≤ q → A q := fun q h => by rw [← hAe]; exact Or.inr h
  have hS : va_S A s.heap s.heap [] := va_S.rf
  have hl := lv_entry ([.ref (ad o), .ref (ad a0), .int p1]) (n := 4) (Nat.le_of_ble_eq_true rfl)
  rw [lg_entry_eq]
  generalize (lg_sl ([.ref (ad o), .ref (ad a0), .int p1]) ++ List.replicate (4 - (lg_sl ([.ref (ad o), .ref (ad a0), .int p1])).length) Slot.unset).toArray = ls at hl ⊢
  have hl : lv_has ls 4 [(0, .ref (ad o)), (1, .ref (ad a0)), (2, .int p1)] := hl
  have hts := dr_words hts0 (s.drawn)
  have hK := gKd hK0 (s.drawn)
  have hown : (s.setDrawn (s.drawn)).vm.findClass RX8 = some m.cls := hown0
  refine lv_aload_n hx hb dX8_open_0 rfl (lv_at hl 0 rfl) ?_
  refine lv_aload_n hx hb dX8_open_1 rfl (lv_at hl 1 rfl) ?_
  refine va_put (D := (dC, dI)) (ci := 7) (v := .ref (ad a0)) (C := RX8) (T := TX8) (N := 8) hx hb hts hinX8 tyX8 tyX8_ok nmX8 hown hK hP hD hS o (at_7 ho) rfl 0 (by decide) (hts (.fieldLink RX8 7 "BondCalendars$Settle" "bond" "LBondCalendars$Bond;") (by decide +kernel)) (fun _ h9 => h9) rfl (ty := (.object "BondCalendars$Bond")) (by decide +kernel) rfl rfl (Nat.le_of_ble_eq_true rfl) dX8_open_2 (fun H locs hP hD hS => ?_)
  obtain ⟨σ1, eσ1, hP, hD⟩ := gPut (se_7_0 ho) hP hD
  have hIσ1 : InvX σ1 := by rw [eσ1]; exact inv_Q hI (okq_7_0 ho ha0)
  have frσ1 : gFr [5, 7] σ σ1 := by rw [eσ1]; exact gFr.pQ (gFr.rfl (L := [5, 7]) (σ := σ)) ho (by decide)
  refine lv_aload_n hx hb dX8_open_5 rfl (lv_at hl 0 rfl) ?_
  refine lv_aload_n hx hb dX8_open_6 rfl (lv_at hl 1 rfl) ?_
  refine lv_iload_n hx hb dX8_open_7 rfl (lv_at hl 2 rfl) ?_
  have hF := gFree hD hS hA
  refine va_calliD hd0 (va_runV_D (As := [.int p1]) (rest := [.ref (ad o)]) ⟨hx, hb, hml, hown, hts⟩ (n_X0_periodAt l dC dI ad cA adK adV H.size σ1 hIσ1 a0 ha0 p1) (cwV 1 hts gX8_open_X0_periodAt rfl rfl rfl (by decide +kernel) ⟨Nat.le_of_ble_eq_true rfl, Nat.le_of_ble_eq_true rfl⟩) ⟨gBlind, va_recv hK hP (ci := 0) (q0 := a0) rfl (at_0 ha0), gStart (As := [.ref (ad a0), .int p1]) hP hD hK0 hT hS hF (s.drawn)⟩ rfl rfl hl.1 rfl (lv_room (Nat.le_of_ble_eq_true rfl)) dX8_open_8 ⟨Nat.le_of_ble_eq_true rfl, Nat.le_of_ble_eq_true rfl⟩) hS (fun q _ h => hF q h) hF (fun r_1 σ2 t H locs ht hvm hw hB hz1 hk1 hS d_2 hd0 => ?_)
  have hts := dr_words hts0 (d_2)
  have hK := gKd hK0 (d_2)
  have hown : (s.setDrawn (d_2)).vm.findClass RX8 = some m.cls := hown0
  obtain ⟨hP, hD⟩ := gBack hF ht hB
  obtain ⟨hIσ2, hro, hp_3⟩ := hw
  subst hro
  refine va_put (D := (dC, dI)) (ci := 7) (v := .int r_1) (C := RX8) (T := TX8) (N := 8) hx hb hts hinX8 tyX8 tyX8_ok nmX8 hown hK hP hD hS o (at_7 ho) rfl 1 (by decide) (hts (.fieldLink RX8 13 "BondCalendars$Settle" "current" "I") (by decide +kernel)) (fun _ h9 => h9) rfl (ty := .int) (by decide +kernel) rfl rfl (Nat.le_of_ble_eq_true rfl) dX8_open_11 (fun H locs hP hD hS => ?_)
  obtain ⟨σ3, eσ3, hP, hD⟩ := gPut (se_7_1 ho) hP hD
  have hIσ3 : InvX σ3 := by rw [eσ3]; exact inv_I hIσ1 (ok_7_1 ho _)
  have frσ3 : gFr [5, 7] σ σ3 := by rw [eσ3]; exact gFr.pI frσ1 ho (by decide)
  refine lv_aload_n hx hb dX8_open_14 rfl (lv_at hl 1 rfl) ?_
  refine lv_aload_n hx hb dX8_open_15 rfl (lv_at hl 0 rfl) ?_
  refine va_get (D := (dC, dI)) (ci := 7) (v := .int r_1) (C := RX8) (T := TX8) (N := 8) hx hb hts hinX8 hown hK hP o (at_7 ho) rfl 1 (by decide) (hts (.fieldLink RX8 13 "BondCalendars$Settle" "current" "I") (by decide +kernel)) (fun _ h9 => h9) (congrArg (fun z => some (Value.int z)) (show (σ3 o).1 1 = r_1 from by rw [eσ3, gI_self])) dX8_open_16 ?_
  have hF := gFree hD hS hA
  refine va_calliD hd0 (va_runV_D (As := [.int r_1]) (rest := []) ⟨hx, hb, hml, hown, hts⟩ (n_X0_hasPeriod l dC dI ad cA adK adV H.size σ3 hIσ3 a0 ha0 r_1) (cwV 1 hts gX8_open_X0_hasPeriod rfl rfl rfl (by decide +kernel) ⟨Nat.le_of_ble_eq_true rfl, Nat.le_of_ble_eq_true rfl⟩) ⟨gBlind, va_recv hK hP (ci := 0) (q0 := a0) rfl (at_0 ha0), gStart (As := [.ref (ad a0), .int r_1]) hP hD hK0 hT hS hF (d_2)⟩ rfl rfl hl.1 rfl (lv_room (Nat.le_of_ble_eq_true rfl)) dX8_open_19 ⟨Nat.le_of_ble_eq_true rfl, Nat.le_of_ble_eq_true rfl⟩) hS (fun q _ h => hF q h) hF (fun r_4 σ4 t H locs ht hvm hw hB hz1 hk1 hS d_5 hd0 => ?_)
  have hts := dr_words hts0 (d_5)
  have hK := gKd hK0 (d_5)
  have hown : (s.setDrawn (d_5)).vm.findClass RX8 = some m.cls := hown0
  obtain ⟨hP, hD⟩ := gBack hF ht hB
  obtain ⟨hIσ4, hro, hp_6⟩ := hw
  subst hro
  refine lv_if_ne (tgt := 26) hx hb dX8_open_22 (by decide) (fun c_7 => ?_) (fun c_7 => ?_)
  · refine lv_aload_n hx hb dX8_open_26 rfl (lv_at hl 1 rfl) ?_
    refine lv_aload_n hx hb dX8_open_27 rfl (lv_at hl 0 rfl) ?_
    refine va_get (D := (dC, dI)) (ci := 7) (v := .int r_1) (C := RX8) (T := TX8) (N := 8) hx hb hts hinX8 hown hK hP o (at_7 ho) rfl 1 (by decide) (hts (.fieldLink RX8 13 "BondCalendars$Settle" "current" "I") (by decide +kernel)) (fun _ h9 => h9) (congrArg (fun z => some (Value.int z)) (show (σ3 o).1 1 = r_1 from by rw [eσ3, gI_self])) dX8_open_28 ?_
    have hF := gFree hD hS hA
    refine va_calliD hd0 (va_runV_D (As := [.int r_1]) (rest := []) ⟨hx, hb, hml, hown, hts⟩ (n_X0_startOf l dC dI ad cA adK adV H.size σ3 hIσ3 a0 ha0 r_1) (cwV 1 hts gX8_open_X0_startOf rfl rfl rfl (by decide +kernel) ⟨Nat.le_of_ble_eq_true rfl, Nat.le_of_ble_eq_true rfl⟩) ⟨gBlind, va_recv hK hP (ci := 0) (q0 := a0) rfl (at_0 ha0), gStart (As := [.ref (ad a0), .int r_1]) hP hD hK0 hT hS hF (d_5)⟩ rfl rfl hl.1 rfl (lv_room (Nat.le_of_ble_eq_true rfl)) dX8_open_31 ⟨Nat.le_of_ble_eq_true rfl, Nat.le_of_ble_eq_true rfl⟩) hS (fun q _ h => hF q h) hF (fun r_8 σ5 t H locs ht hvm hw hB hz1 hk1 hS d_9 hd0 => ?_)
    have hts := dr_words hts0 (d_9)
    have hK := gKd hK0 (d_9)
    have hown : (s.setDrawn (d_9)).vm.findClass RX8 = some m.cls := hown0
    obtain ⟨hP, hD⟩ := gBack hF ht hB
    obtain ⟨hIσ5, hro, hp_10⟩ := hw
    subst hro
    refine lv_istore_n (lv' := [(3, .int r_8), (0, .ref (ad o)), (1, .ref (ad a0)), (2, .int p1)]) hx hb dX8_open_34 rfl hl (by decide) rfl (fun ls hl => ?_)
    refine lv_aload_n hx hb dX8_open_35 rfl (lv_at hl 1 rfl) ?_
    refine lv_aload_n hx hb dX8_open_36 rfl (lv_at hl 2 rfl) ?_
    refine va_get (D := (dC, dI)) (ci := 0) (v := .ref (ad (a0 + 3))) (C := RX0) (T := TX0) (N := 16) hx hb hts hinX0 hown hK hP a0 (at_0 ha0) rfl 12 (by decide) (hts (.fieldLink RX8 54 "BondCalendars$Bond" "exFrom" "[I") (by decide +kernel)) (fun _ h9 => h9) rfl dX8_open_37 ?_
    refine lv_aload_n hx hb dX8_open_40 rfl (lv_at hl 1 rfl) ?_
    refine va_get (D := (dC, dI)) (ci := 7) (v := .int r_1) (C := RX8) (T := TX8) (N := 8) hx hb hts hinX8 hown hK hP o (at_7 ho) rfl 1 (by decide) (hts (.fieldLink RX8 13 "BondCalendars$Settle" "current" "I") (by decide +kernel)) (fun _ h9 => h9) (congrArg (fun z => some (Value.int z)) (show (σ3 o).1 1 = r_1 from by rw [eσ3, gI_self])) dX8_open_41 ?_
    refine va_iald hx hb hK hP ((a0 + 3)) ((a0 + 3)) (at_24 (kk_0_3 ha0)) (ty_24 (kk_0_3 ha0)) (gin (N := 81) (by decide) (hp_6.2 c_7).1 (hp_6.2 c_7).2) dX8_open_44 ?_
    refine lv_topi (fun x_11 _ => ?_)
    refine lv_iload_n hx hb dX8_open_45 rfl (lv_at hl 3 rfl) ?_
    refine lv_icmp_gt (tgt := 53) hx hb dX8_open_46 (by decide) (fun c_12 => ?_) (fun c_12 => ?_)
    · refine lv_iconst (v := 0) hx hb dX8_open_53 (by decide) ?_
      refine va_put (D := (dC, dI)) (ci := 7) (v := .int 0) (C := RX8) (T := TX8) (N := 8) hx hb hts hinX8 tyX8 tyX8_ok nmX8 hown hK hP hD hS o (at_7 ho) rfl 2 (by decide) (hts (.fieldLink RX8 17 "BondCalendars$Settle" "ex" "Z") (by decide +kernel)) (fun _ h9 => h9) rfl (ty := .boolean) (by decide +kernel) (by decide +kernel) (by decide +kernel) (Nat.le_of_ble_eq_true rfl) dX8_open_54 (fun H locs hP hD hS => ?_)
      obtain ⟨σ6, eσ6, hP, hD⟩ := gPut (se_7_2 ho) hP hD
      have hIσ6 : InvX σ6 := by rw [eσ6]; exact inv_I hIσ3 (ok_7_2 ho _)
      have frσ6 : gFr [5, 7] σ σ6 := by rw [eσ6]; exact gFr.pI frσ3 ho (by decide)
      refine lv_aload_n hx hb dX8_open_57 rfl (lv_at hl 2 rfl) ?_
      refine lv_iload_n hx hb dX8_open_58 rfl (lv_at hl 0 rfl) ?_
      refine lv_iload_n hx hb dX8_open_59 rfl (lv_at hl 3 rfl) ?_
      refine lv_aload_n hx hb dX8_open_60 rfl (lv_at hl 1 rfl) ?_
      refine va_get (D := (dC, dI)) (ci := 7) (v := .ref (ad (o + 1))) (C := RX8) (T := TX8) (N := 8) hx hb hts hinX8 hown hK hP o (at_7 ho) rfl 3 (by decide) (hts (.fieldLink RX8 24 "BondCalendars$Settle" "accruedRatio" "LBondCalendars$Ratio;") (by decide +kernel)) (fun _ h9 => h9) rfl dX8_open_61 ?_
      have hF := gFree hD hS hA
      refine va_callvD hd0 (va_runV_D (As := [.int r_8, .int p1, .ref (ad (o + 1))]) (rest := []) ⟨hx, hb, hml, hown, hts⟩ (n_X0_measure l dC dI ad cA adK adV H.size σ6 hIσ6 a0 ha0 r_8 p1 ((o + 1)) (kk_7_1 ho)) (cwV 3 hts gX8_open_X0_measure rfl rfl rfl (by decide +kernel) ⟨Nat.le_of_ble_eq_true rfl, Nat.le_of_ble_eq_true rfl⟩) ⟨gBlind, va_recv hK hP (ci := 0) (q0 := a0) rfl (at_0 ha0), gStart (As := [.ref (ad a0), .int r_8, .int p1, .ref (ad (o + 1))]) hP hD hK0 hT hS hF (d_9)⟩ rfl rfl hl.1 rfl (lv_room (Nat.le_of_ble_eq_true rfl)) dX8_open_64 ⟨Nat.le_of_ble_eq_true rfl, Nat.le_of_ble_eq_true rfl⟩) hS (fun q _ h => hF q h) hF (fun σ7 t H locs ht hvm hw hB hz1 hk1 hS d_14 hd0 => ?_)
      have hts := dr_words hts0 (d_14)
      have hK := gKd hK0 (d_14)
      have hown : (s.setDrawn (d_14)).vm.findClass RX8 = some m.cls := hown0
      obtain ⟨hP, hD⟩ := gBack hF ht hB
      obtain ⟨hIσ7, fcσ7, hp_15⟩ := hw
      refine lv_aload_n hx hb dX8_open_67 rfl (lv_at hl 1 rfl) ?_
      refine va_get (D := (dC, dI)) (ci := 7) (v := .int 0) (C := RX8) (T := TX8) (N := 8) hx hb hts hinX8 hown hK hP o (at_7 ho) rfl 2 (by decide) (hts (.fieldLink RX8 17 "BondCalendars$Settle" "ex" "Z") (by decide +kernel)) (fun _ h9 => h9) (congrArg (fun z => some (Value.int z)) (show (σ7 o).1 2 = 0 from by rw [fcσ7 o (by rw [ho]; decide), eσ6, gI_self])) dX8_open_68 ?_
      refine lv_if_eq (tgt := 108) hx hb dX8_open_71 (by decide) (fun c_16 => ?_) (fun c_16 => ?_)
      · refine lv_aload_n hx hb dX8_open_108 rfl (lv_at hl 1 rfl) ?_
        refine va_get (D := (dC, dI)) (ci := 7) (v := .ref (ad (o + 1))) (C := RX8) (T := TX8) (N := 8) hx hb hts hinX8 hown hK hP o (at_7 ho) rfl 3 (by decide) (hts (.fieldLink RX8 24 "BondCalendars$Settle" "accruedRatio" "LBondCalendars$Ratio;") (by decide +kernel)) (fun _ h9 => h9) rfl dX8_open_109 ?_
        refine lv_aload_n hx hb dX8_open_112 rfl (lv_at hl 2 rfl) ?_
        refine va_get (D := (dC, dI)) (ci := 0) (v := .int ((σ a0).1 0)) (C := RX0) (T := TX0) (N := 16) hx hb hts hinX0 hown hK hP a0 (at_0 ha0) rfl 0 (by decide) (hts (.fieldLink RX8 77 "BondCalendars$Bond" "rate" "I") (by decide +kernel)) (fun _ h9 => h9) (congrArg (fun z => some (Value.int z)) (show (σ7 a0).1 0 = ((σ a0).1 0) from by rw [fcσ7 a0 (by rw [ha0]; decide), eσ6, gI_ne _ _ _ (kne ha0 ho (by decide)), eσ3, gI_ne _ _ _ (kne ha0 ho (by decide)), eσ1, gQ_ne _ _ _ (kne ha0 ho (by decide))])) dX8_open_113 ?_
        refine lv_i2l hx hb dX8_open_116 rfl ?_
        refine lv_ldc2 (v := 100) hx hb hown (hts (.constantLong RX8 80 (100)) (by decide +kernel)) dX8_open_117 ?_
        have hF := gFree hD hS hA
        refine va_callvD hd0 (va_runV_D (As := [.long (((σ a0).1 0).toInt64), .long 100]) (rest := []) ⟨hx, hb, hml, hown, hts⟩ (n_X6_multiply l dC dI ad cA adK adV H.size σ7 hIσ7 ((o + 1)) (kk_7_1 ho) (((σ a0).1 0).toInt64) 100) (cwV 2 hts gX8_open_X6_multiply rfl rfl rfl (by decide +kernel) ⟨Nat.le_of_ble_eq_true rfl, Nat.le_of_ble_eq_true rfl⟩) ⟨gBlind, va_recv hK hP (ci := 5) (q0 := ((o + 1))) rfl (at_5 (kk_7_1 ho)), gStart (As := [.ref (ad (o + 1)), .long (((σ a0).1 0).toInt64), .long 100]) hP hD hK0 hT hS hF (d_14)⟩ rfl rfl hl.1 rfl (lv_room (Nat.le_of_ble_eq_true rfl)) dX8_open_120 ⟨Nat.le_of_ble_eq_true rfl, Nat.le_of_ble_eq_true rfl⟩) hS (fun q _ h => hF q h) hF (fun σ8 t H locs ht hvm hw hB hz1 hk1 hS d_18 hd0 => ?_)
        have hts := dr_words hts0 (d_18)
        have hK := gKd hK0 (d_18)
        have hown : (s.setDrawn (d_18)).vm.findClass RX8 = some m.cls := hown0
        obtain ⟨hP, hD⟩ := gBack hF ht hB
        obtain ⟨hIσ8, fcσ8, hp_19⟩ := hw
        refine lv_aload_n hx hb dX8_open_123 rfl (lv_at hl 1 rfl) ?_
        refine lv_aload_n hx hb dX8_open_124 rfl (lv_at hl 1 rfl) ?_
        refine va_get (D := (dC, dI)) (ci := 7) (v := .ref (ad (o + 1))) (C := RX8) (T := TX8) (N := 8) hx hb hts hinX8 hown hK hP o (at_7 ho) rfl 3 (by decide) (hts (.fieldLink RX8 24 "BondCalendars$Settle" "accruedRatio" "LBondCalendars$Ratio;") (by decide +kernel)) (fun _ h9 => h9) rfl dX8_open_125 ?_
        have hF := gFree hD hS hA
        refine va_calldD hd0 (va_runV_D (As := []) (rest := [.ref (ad o)]) ⟨hx, hb, hml, hown, hts⟩ (n_X6_value l dC dI ad cA adK adV H.size σ8 hIσ8 ((o + 1)) (kk_7_1 ho)) (cwV 0 hts gX8_open_X6_value rfl rfl rfl (by decide +kernel) ⟨Nat.le_of_ble_eq_true rfl, Nat.le_of_ble_eq_true rfl⟩) ⟨gBlind, va_recv hK hP (ci := 5) (q0 := ((o + 1))) rfl (at_5 (kk_7_1 ho)), gStart (As := [.ref (ad (o + 1))]) hP hD hK0 hT hS hF (d_18)⟩ rfl rfl hl.1 rfl (lv_room (Nat.le_of_ble_eq_true rfl)) dX8_open_128 ⟨Nat.le_of_ble_eq_true rfl, Nat.le_of_ble_eq_true rfl⟩) hS (fun q _ h => hF q h) hF (fun r_20 σ9 t H locs ht hvm hw hB hz1 hk1 hS d_21 hd0 => ?_)
        have hts := dr_words hts0 (d_21)
        have hK := gKd hK0 (d_21)
        have hown : (s.setDrawn (d_21)).vm.findClass RX8 = some m.cls := hown0
        obtain ⟨hP, hD⟩ := gBack hF ht hB
        obtain ⟨hIσ9, hro, hp_22⟩ := hw
        subst hro
        refine va_put (D := (dC, dI)) (ci := 7) (v := .double r_20) (C := RX8) (T := TX8) (N := 8) hx hb hts hinX8 tyX8 tyX8_ok nmX8 hown hK hP hD hS o (at_7 ho) rfl 6 (by decide) (hts (.fieldLink RX8 34 "BondCalendars$Settle" "accruedValue" "D") (by decide +kernel)) (fun _ h9 => h9) rfl (ty := .double) (by decide +kernel) rfl rfl (Nat.le_of_ble_eq_true rfl) dX8_open_131 (fun H locs hP hD hS => ?_)
        obtain ⟨σ10, eσ10, hP, hD⟩ := gPut (se_7_6 ho) hP hD
        have hIσ10 : InvX σ10 := by rw [eσ10]; exact inv_D hIσ8
        have frσ10 : gFr [5, 7] σ σ10 := by rw [eσ10]; exact gFr.pD (gFr.tr (gFr.tr frσ6 fcσ7 (by decide)) fcσ8 (by decide)) ho (by decide)
        refine lv_aload_n hx hb dX8_open_134 rfl (lv_at hl 2 rfl) ?_
        refine lv_iload_n hx hb dX8_open_135 rfl (lv_at hl 3 rfl) ?_
        refine lv_aload_n hx hb dX8_open_136 rfl (lv_at hl 2 rfl) ?_
        refine va_get (D := (dC, dI)) (ci := 0) (v := .ref (ad (a0 + 2))) (C := RX0) (T := TX0) (N := 16) hx hb hts hinX0 hown hK hP a0 (at_0 ha0) rfl 11 (by decide) (hts (.fieldLink RX8 89 "BondCalendars$Bond" "endDays" "[I") (by decide +kernel)) (fun _ h9 => h9) rfl dX8_open_137 ?_
        refine lv_aload_n hx hb dX8_open_140 rfl (lv_at hl 1 rfl) ?_
        refine va_get (D := (dC, dI)) (ci := 7) (v := .int r_1) (C := RX8) (T := TX8) (N := 8) hx hb hts hinX8 hown hK hP o (at_7 ho) rfl 1 (by decide) (hts (.fieldLink RX8 13 "BondCalendars$Settle" "current" "I") (by decide +kernel)) (fun _ h9 => h9) (congrArg (fun z => some (Value.int z)) (show (σ10 o).1 1 = r_1 from by rw [eσ10, gD_i, fcσ8 o (by rw [ho]; decide), fcσ7 o (by rw [ho]; decide), eσ6, gI_oth _ _ _ (by decide), eσ3, gI_self])) dX8_open_141 ?_
        refine va_iald hx hb hK hP ((a0 + 2)) ((a0 + 2)) (at_24 (kk_0_2 ha0)) (ty_24 (kk_0_2 ha0)) (gin (N := 81) (by decide) (hp_6.2 c_7).1 (hp_6.2 c_7).2) dX8_open_144 ?_
        refine lv_topi (fun x_23 _ => ?_)
        refine lv_aload_n hx hb dX8_open_145 rfl (lv_at hl 1 rfl) ?_
        refine va_get (D := (dC, dI)) (ci := 7) (v := .ref (ad (o + 2))) (C := RX8) (T := TX8) (N := 8) hx hb hts hinX8 hown hK hP o (at_7 ho) rfl 4 (by decide) (hts (.fieldLink RX8 28 "BondCalendars$Settle" "restRatio" "LBondCalendars$Ratio;") (by decide +kernel)) (fun _ h9 => h9) rfl dX8_open_146 ?_
        have hF := gFree hD hS hA
        refine va_callvD hd0 (va_runV_D (As := [.int p1, .int x_23, .ref (ad (o + 2))]) (rest := []) ⟨hx, hb, hml, hown, hts⟩ (n_X0_measure l dC dI ad cA adK adV H.size σ10 hIσ10 a0 ha0 p1 x_23 ((o + 2)) (kk_7_2 ho)) (cwV 3 hts gX8_open_X0_measure rfl rfl rfl (by decide +kernel) ⟨Nat.le_of_ble_eq_true rfl, Nat.le_of_ble_eq_true rfl⟩) ⟨gBlind, va_recv hK hP (ci := 0) (q0 := a0) rfl (at_0 ha0), gStart (As := [.ref (ad a0), .int p1, .int x_23, .ref (ad (o + 2))]) hP hD hK0 hT hS hF (d_21)⟩ rfl rfl hl.1 rfl (lv_room (Nat.le_of_ble_eq_true rfl)) dX8_open_149 ⟨Nat.le_of_ble_eq_true rfl, Nat.le_of_ble_eq_true rfl⟩) hS (fun q _ h => hF q h) hF (fun σ11 t H locs ht hvm hw hB hz1 hk1 hS d_25 hd0 => ?_)
        have hts := dr_words hts0 (d_25)
        have hK := gKd hK0 (d_25)
        have hown : (s.setDrawn (d_25)).vm.findClass RX8 = some m.cls := hown0
        obtain ⟨hP, hD⟩ := gBack hF ht hB
        obtain ⟨hIσ11, fcσ11, hp_26⟩ := hw
        refine lv_aload_n hx hb dX8_open_152 rfl (lv_at hl 1 rfl) ?_
        refine lv_aload_n hx hb dX8_open_153 rfl (lv_at hl 1 rfl) ?_
        refine va_get (D := (dC, dI)) (ci := 7) (v := .ref (ad (o + 2))) (C := RX8) (T := TX8) (N := 8) hx hb hts hinX8 hown hK hP o (at_7 ho) rfl 4 (by decide) (hts (.fieldLink RX8 28 "BondCalendars$Settle" "restRatio" "LBondCalendars$Ratio;") (by decide +kernel)) (fun _ h9 => h9) rfl dX8_open_154 ?_
        have hF := gFree hD hS hA
        refine va_calldD hd0 (va_runV_D (As := []) (rest := [.ref (ad o)]) ⟨hx, hb, hml, hown, hts⟩ (n_X6_value l dC dI ad cA adK adV H.size σ11 hIσ11 ((o + 2)) (kk_7_2 ho)) (cwV 0 hts gX8_open_X6_value rfl rfl rfl (by decide +kernel) ⟨Nat.le_of_ble_eq_true rfl, Nat.le_of_ble_eq_true rfl⟩) ⟨gBlind, va_recv hK hP (ci := 5) (q0 := ((o + 2))) rfl (at_5 (kk_7_2 ho)), gStart (As := [.ref (ad (o + 2))]) hP hD hK0 hT hS hF (d_25)⟩ rfl rfl hl.1 rfl (lv_room (Nat.le_of_ble_eq_true rfl)) dX8_open_157 ⟨Nat.le_of_ble_eq_true rfl, Nat.le_of_ble_eq_true rfl⟩) hS (fun q _ h => hF q h) hF (fun r_27 σ12 t H locs ht hvm hw hB hz1 hk1 hS d_28 hd0 => ?_)
        have hts := dr_words hts0 (d_28)
        have hK := gKd hK0 (d_28)
        have hown : (s.setDrawn (d_28)).vm.findClass RX8 = some m.cls := hown0
        obtain ⟨hP, hD⟩ := gBack hF ht hB
        obtain ⟨hIσ12, hro, hp_29⟩ := hw
        subst hro
        refine va_put (D := (dC, dI)) (ci := 7) (v := .double r_27) (C := RX8) (T := TX8) (N := 8) hx hb hts hinX8 tyX8 tyX8_ok nmX8 hown hK hP hD hS o (at_7 ho) rfl 7 (by decide) (hts (.fieldLink RX8 38 "BondCalendars$Settle" "restOfPeriod" "D") (by decide +kernel)) (fun _ h9 => h9) rfl (ty := .double) (by decide +kernel) rfl rfl (Nat.le_of_ble_eq_true rfl) dX8_open_160 (fun H locs hP hD hS => ?_)
        obtain ⟨σ13, eσ13, hP, hD⟩ := gPut (se_7_7 ho) hP hD
        have hIσ13 : InvX σ13 := by rw [eσ13]; exact inv_D hIσ11
        have frσ13 : gFr [5, 7] σ σ13 := by rw [eσ13]; exact gFr.pD (gFr.tr frσ10 fcσ11 (by decide)) ho (by decide)
        refine lv_aload_n hx hb dX8_open_163 rfl (lv_at hl 1 rfl) ?_
        refine va_get (D := (dC, dI)) (ci := 7) (v := .ref (ad (o + 2))) (C := RX8) (T := TX8) (N := 8) hx hb hts hinX8 hown hK hP o (at_7 ho) rfl 4 (by decide) (hts (.fieldLink RX8 28 "BondCalendars$Settle" "restRatio" "LBondCalendars$Ratio;") (by decide +kernel)) (fun _ h9 => h9) rfl dX8_open_164 ?_
        refine lv_aload_n hx hb dX8_open_167 rfl (lv_at hl 2 rfl) ?_
        refine va_get (D := (dC, dI)) (ci := 0) (v := .int ((σ a0).1 0)) (C := RX0) (T := TX0) (N := 16) hx hb hts hinX0 hown hK hP a0 (at_0 ha0) rfl 0 (by decide) (hts (.fieldLink RX8 77 "BondCalendars$Bond" "rate" "I") (by decide +kernel)) (fun _ h9 => h9) (congrArg (fun z => some (Value.int z)) (show (σ13 a0).1 0 = ((σ a0).1 0) from by rw [eσ13, gD_ne _ _ _ (kne ha0 ho (by decide)), fcσ11 a0 (by rw [ha0]; decide), eσ10, gD_ne _ _ _ (kne ha0 ho (by decide)), fcσ8 a0 (by rw [ha0]; decide), fcσ7 a0 (by rw [ha0]; decide), eσ6, gI_ne _ _ _ (kne ha0 ho (by decide)), eσ3, gI_ne _ _ _ (kne ha0 ho (by decide)), eσ1, gQ_ne _ _ _ (kne ha0 ho (by decide))])) dX8_open_168 ?_
        refine lv_i2l hx hb dX8_open_171 rfl ?_
        refine lv_ldc2 (v := 100) hx hb hown (hts (.constantLong RX8 80 (100)) (by decide +kernel)) dX8_open_172 ?_
        have hF := gFree hD hS hA
        refine va_callvD hd0 (va_runV_D (As := [.long (((σ a0).1 0).toInt64), .long 100]) (rest := []) ⟨hx, hb, hml, hown, hts⟩ (n_X6_multiply l dC dI ad cA adK adV H.size σ13 hIσ13 ((o + 2)) (kk_7_2 ho) (((σ a0).1 0).toInt64) 100) (cwV 2 hts gX8_open_X6_multiply rfl rfl rfl (by decide +kernel) ⟨Nat.le_of_ble_eq_true rfl, Nat.le_of_ble_eq_true rfl⟩) ⟨gBlind, va_recv hK hP (ci := 5) (q0 := ((o + 2))) rfl (at_5 (kk_7_2 ho)), gStart (As := [.ref (ad (o + 2)), .long (((σ a0).1 0).toInt64), .long 100]) hP hD hK0 hT hS hF (d_28)⟩ rfl rfl hl.1 rfl (lv_room (Nat.le_of_ble_eq_true rfl)) dX8_open_175 ⟨Nat.le_of_ble_eq_true rfl, Nat.le_of_ble_eq_true rfl⟩) hS (fun q _ h => hF q h) hF (fun σ14 t H locs ht hvm hw hB hz1 hk1 hS d_31 hd0 => ?_)
        have hts := dr_words hts0 (d_31)
        have hK := gKd hK0 (d_31)
        have hown : (s.setDrawn (d_31)).vm.findClass RX8 = some m.cls := hown0
        obtain ⟨hP, hD⟩ := gBack hF ht hB
        obtain ⟨hIσ14, fcσ14, hp_32⟩ := hw
        refine W.endD hd0 ?_
        exact W.vret hx hb hr (fun t ht hW => ⟨⟨σ14, rfl, ⟨hIσ14, (gFr.tr frσ13 fcσ14 (by decide)), trivial⟩, ⟨by rw [ht]; exact hP, hD⟩⟩, hS.F ht⟩) hS.2.2 dX8_open_178
      · exact absurd (by decide) c_16
    · refine lv_iconst (v := 1) hx hb dX8_open_49 (by decide) ?_
      refine lv_goto (tgt := 54) hx hb dX8_open_50 (by decide) ?_
      refine va_put (D := (dC, dI)) (ci := 7) (v := .int 1) (C := RX8) (T := TX8) (N := 8) hx hb hts hinX8 tyX8 tyX8_ok nmX8 hown hK hP hD hS o (at_7 ho) rfl 2 (by decide) (hts (.fieldLink RX8 17 "BondCalendars$Settle" "ex" "Z") (by decide +kernel)) (fun _ h9 => h9) rfl (ty := .boolean) (by decide +kernel) (by decide +kernel) (by decide +kernel) (Nat.le_of_ble_eq_true rfl) dX8_open_54 (fun H locs hP hD hS => ?_)
      obtain ⟨σ15, eσ15, hP, hD⟩ := gPut (se_7_2 ho) hP hD
      have hIσ15 : InvX σ15 := by rw [eσ15]; exact inv_I hIσ3 (ok_7_2 ho _)
      have frσ15 : gFr [5, 7] σ σ15 := by rw [eσ15]; exact gFr.pI frσ3 ho (by decide)
      refine lv_aload_n hx hb dX8_open_57 rfl (lv_at hl 2 rfl) ?_
      refine lv_iload_n hx hb dX8_open_58 rfl (lv_at hl 0 rfl) ?_
      refine lv_iload_n hx hb dX8_open_59 rfl (lv_at hl 3 rfl) ?_
      refine lv_aload_n hx hb dX8_open_60 rfl (lv_at hl 1 rfl) ?_
      refine va_get (D := (dC, dI)) (ci := 7) (v := .ref (ad (o + 1))) (C := RX8) (T := TX8) (N := 8) hx hb hts hinX8 hown hK hP o (at_7 ho) rfl 3 (by decide) (hts (.fieldLink RX8 24 "BondCalendars$Settle" "accruedRatio" "LBondCalendars$Ratio;") (by decide +kernel)) (fun _ h9 => h9) rfl dX8_open_61 ?_
      have hF := gFree hD hS hA
      refine va_callvD hd0 (va_runV_D (As := [.int r_8, .int p1, .ref (ad (o + 1))]) (rest := []) ⟨hx, hb, hml, hown, hts⟩ (n_X0_measure l dC dI ad cA adK adV H.size σ15 hIσ15 a0 ha0 r_8 p1 ((o + 1)) (kk_7_1 ho)) (cwV 3 hts gX8_open_X0_measure rfl rfl rfl (by decide +kernel) ⟨Nat.le_of_ble_eq_true rfl, Nat.le_of_ble_eq_true rfl⟩) ⟨gBlind, va_recv hK hP (ci := 0) (q0 := a0) rfl (at_0 ha0), gStart (As := [.ref (ad a0), .int r_8, .int p1, .ref (ad (o + 1))]) hP hD hK0 hT hS hF (d_9)⟩ rfl rfl hl.1 rfl (lv_room (Nat.le_of_ble_eq_true rfl)) dX8_open_64 ⟨Nat.le_of_ble_eq_true rfl, Nat.le_of_ble_eq_true rfl⟩) hS (fun q _ h => hF q h) hF (fun σ16 t H locs ht hvm hw hB hz1 hk1 hS d_34 hd0 => ?_)
      have hts := dr_words hts0 (d_34)
      have hK := gKd hK0 (d_34)
      have hown : (s.setDrawn (d_34)).vm.findClass RX8 = some m.cls := hown0
      obtain ⟨hP, hD⟩ := gBack hF ht hB
      obtain ⟨hIσ16, fcσ16, hp_35⟩ := hw
      refine lv_aload_n hx hb dX8_open_67 rfl (lv_at hl 1 rfl) ?_
      refine va_get (D := (dC, dI)) (ci := 7) (v := .int 1) (C := RX8) (T := TX8) (N := 8) hx hb hts hinX8 hown hK hP o (at_7 ho) rfl 2 (by decide) (hts (.fieldLink RX8 17 "BondCalendars$Settle" "ex" "Z") (by decide +kernel)) (fun _ h9 => h9) (congrArg (fun z => some (Value.int z)) (show (σ16 o).1 2 = 1 from by rw [fcσ16 o (by rw [ho]; decide), eσ15, gI_self])) dX8_open_68 ?_
      refine lv_if_eq (tgt := 108) hx hb dX8_open_71 (by decide) (fun c_36 => ?_) (fun c_36 => ?_)
      · exact absurd c_36 (by decide)
      · refine lv_aload_n hx hb dX8_open_74 rfl (lv_at hl 2 rfl) ?_
        refine lv_aload_n hx hb dX8_open_75 rfl (lv_at hl 1 rfl) ?_
        refine va_get (D := (dC, dI)) (ci := 7) (v := .int r_1) (C := RX8) (T := TX8) (N := 8) hx hb hts hinX8 hown hK hP o (at_7 ho) rfl 1 (by decide) (hts (.fieldLink RX8 13 "BondCalendars$Settle" "current" "I") (by decide +kernel)) (fun _ h9 => h9) (congrArg (fun z => some (Value.int z)) (show (σ16 o).1 1 = r_1 from by rw [fcσ16 o (by rw [ho]; decide), eσ15, gI_oth _ _ _ (by decide), eσ3, gI_self])) dX8_open_76 ?_
        refine lv_aload_n hx hb dX8_open_79 rfl (lv_at hl 1 rfl) ?_
        refine va_get (D := (dC, dI)) (ci := 7) (v := .ref (ad (o + 3))) (C := RX8) (T := TX8) (N := 8) hx hb hts hinX8 hown hK hP o (at_7 ho) rfl 5 (by decide) (hts (.fieldLink RX8 31 "BondCalendars$Settle" "scratch" "LBondCalendars$Ratio;") (by decide +kernel)) (fun _ h9 => h9) rfl dX8_open_80 ?_
        have hF := gFree hD hS hA
        refine va_callvD hd0 (va_runV_D (As := [.int r_1, .ref (ad (o + 3))]) (rest := []) ⟨hx, hb, hml, hown, hts⟩ (n_X0_measurePeriod l dC dI ad cA adK adV H.size σ16 hIσ16 a0 ha0 r_1 ((o + 3)) (kk_7_3 ho)) (cwV 2 hts gX8_open_X0_measurePeriod rfl rfl rfl (by decide +kernel) ⟨Nat.le_of_ble_eq_true rfl, Nat.le_of_ble_eq_true rfl⟩) ⟨gBlind, va_recv hK hP (ci := 0) (q0 := a0) rfl (at_0 ha0), gStart (As := [.ref (ad a0), .int r_1, .ref (ad (o + 3))]) hP hD hK0 hT hS hF (d_34)⟩ rfl rfl hl.1 rfl (lv_room (Nat.le_of_ble_eq_true rfl)) dX8_open_83 ⟨Nat.le_of_ble_eq_true rfl, Nat.le_of_ble_eq_true rfl⟩) hS (fun q _ h => hF q h) hF (fun σ17 t H locs ht hvm hw hB hz1 hk1 hS d_38 hd0 => ?_)
        have hts := dr_words hts0 (d_38)
        have hK := gKd hK0 (d_38)
        have hown : (s.setDrawn (d_38)).vm.findClass RX8 = some m.cls := hown0
        obtain ⟨hP, hD⟩ := gBack hF ht hB
        obtain ⟨hIσ17, fcσ17, hp_39⟩ := hw
        refine lv_aload_n hx hb dX8_open_86 rfl (lv_at hl 1 rfl) ?_
        refine va_get (D := (dC, dI)) (ci := 7) (v := .ref (ad (o + 1))) (C := RX8) (T := TX8) (N := 8) hx hb hts hinX8 hown hK hP o (at_7 ho) rfl 3 (by decide) (hts (.fieldLink RX8 24 "BondCalendars$Settle" "accruedRatio" "LBondCalendars$Ratio;") (by decide +kernel)) (fun _ h9 => h9) rfl dX8_open_87 ?_
        refine lv_aload_n hx hb dX8_open_90 rfl (lv_at hl 1 rfl) ?_
        refine va_get (D := (dC, dI)) (ci := 7) (v := .ref (ad (o + 3))) (C := RX8) (T := TX8) (N := 8) hx hb hts hinX8 hown hK hP o (at_7 ho) rfl 5 (by decide) (hts (.fieldLink RX8 31 "BondCalendars$Settle" "scratch" "LBondCalendars$Ratio;") (by decide +kernel)) (fun _ h9 => h9) rfl dX8_open_91 ?_
        refine va_get (D := (dC, dI)) (ci := 5) (v := .long ((σ17 ((o + 3))).2.1 0)) (C := RX6) (T := TX6) (N := 2) hx hb hts hinX6 hown hK hP ((o + 3)) (at_5 (kk_7_3 ho)) rfl 0 (by decide) (hts (.fieldLink RX8 66 "BondCalendars$Ratio" "upper" "J") (by decide +kernel)) (fun _ h9 => h9) rfl dX8_open_94 ?_
        refine lv_lneg hx hb dX8_open_97 ?_
        refine lv_aload_n hx hb dX8_open_98 rfl (lv_at hl 1 rfl) ?_
        refine va_get (D := (dC, dI)) (ci := 7) (v := .ref (ad (o + 3))) (C := RX8) (T := TX8) (N := 8) hx hb hts hinX8 hown hK hP o (at_7 ho) rfl 5 (by decide) (hts (.fieldLink RX8 31 "BondCalendars$Settle" "scratch" "LBondCalendars$Ratio;") (by decide +kernel)) (fun _ h9 => h9) rfl dX8_open_99 ?_
        refine va_get (D := (dC, dI)) (ci := 5) (v := .long ((σ17 ((o + 3))).2.1 1)) (C := RX6) (T := TX6) (N := 2) hx hb hts hinX6 hown hK hP ((o + 3)) (at_5 (kk_7_3 ho)) rfl 1 (by decide) (hts (.fieldLink RX8 70 "BondCalendars$Ratio" "lower" "J") (by decide +kernel)) (fun _ h9 => h9) rfl dX8_open_102 ?_
        have hF := gFree hD hS hA
        refine va_callvD hd0 (va_runV_D (As := [.long (-((σ17 ((o + 3))).2.1 0)), .long ((σ17 ((o + 3))).2.1 1)]) (rest := []) ⟨hx, hb, hml, hown, hts⟩ (n_X6_add l dC dI ad cA adK adV H.size σ17 hIσ17 ((o + 1)) (kk_7_1 ho) (-((σ17 ((o + 3))).2.1 0)) ((σ17 ((o + 3))).2.1 1)) (cwV 2 hts gX8_open_X6_add rfl rfl rfl (by decide +kernel) ⟨Nat.le_of_ble_eq_true rfl, Nat.le_of_ble_eq_true rfl⟩) ⟨gBlind, va_recv hK hP (ci := 5) (q0 := ((o + 1))) rfl (at_5 (kk_7_1 ho)), gStart (As := [.ref (ad (o + 1)), .long (-((σ17 ((o + 3))).2.1 0)), .long ((σ17 ((o + 3))).2.1 1)]) hP hD hK0 hT hS hF (d_38)⟩ rfl rfl hl.1 rfl (lv_room (Nat.le_of_ble_eq_true rfl)) dX8_open_105 ⟨Nat.le_of_ble_eq_true rfl, Nat.le_of_ble_eq_true rfl⟩) hS (fun q _ h => hF q h) hF (fun σ18 t H locs ht hvm hw hB hz1 hk1 hS d_41 hd0 => ?_)
        have hts := dr_words hts0 (d_41)
        have hK := gKd hK0 (d_41)
        have hown : (s.setDrawn (d_41)).vm.findClass RX8 = some m.cls := hown0
        obtain ⟨hP, hD⟩ := gBack hF ht hB
        obtain ⟨hIσ18, fcσ18, hp_42⟩ := hw
        refine lv_aload_n hx hb dX8_open_108 rfl (lv_at hl 1 rfl) ?_
        refine va_get (D := (dC, dI)) (ci := 7) (v := .ref (ad (o + 1))) (C := RX8) (T := TX8) (N := 8) hx hb hts hinX8 hown hK hP o (at_7 ho) rfl 3 (by decide) (hts (.fieldLink RX8 24 "BondCalendars$Settle" "accruedRatio" "LBondCalendars$Ratio;") (by decide +kernel)) (fun _ h9 => h9) rfl dX8_open_109 ?_
        refine lv_aload_n hx hb dX8_open_112 rfl (lv_at hl 2 rfl) ?_
        refine va_get (D := (dC, dI)) (ci := 0) (v := .int ((σ a0).1 0)) (C := RX0) (T := TX0) (N := 16) hx hb hts hinX0 hown hK hP a0 (at_0 ha0) rfl 0 (by decide) (hts (.fieldLink RX8 77 "BondCalendars$Bond" "rate" "I") (by decide +kernel)) (fun _ h9 => h9) (congrArg (fun z => some (Value.int z)) (show (σ18 a0).1 0 = ((σ a0).1 0) from by rw [fcσ18 a0 (by rw [ha0]; decide), fcσ17 a0 (by rw [ha0]; decide), fcσ16 a0 (by rw [ha0]; decide), eσ15, gI_ne _ _ _ (kne ha0 ho (by decide)), eσ3, gI_ne _ _ _ (kne ha0 ho (by decide)), eσ1, gQ_ne _ _ _ (kne ha0 ho (by decide))])) dX8_open_113 ?_
        refine lv_i2l hx hb dX8_open_116 rfl ?_
        refine lv_ldc2 (v := 100) hx hb hown (hts (.constantLong RX8 80 (100)) (by decide +kernel)) dX8_open_117 ?_
        have hF := gFree hD hS hA
        refine va_callvD hd0 (va_runV_D (As := [.long (((σ a0).1 0).toInt64), .long 100]) (rest := []) ⟨hx, hb, hml, hown, hts⟩ (n_X6_multiply l dC dI ad cA adK adV H.size σ18 hIσ18 ((o + 1)) (kk_7_1 ho) (((σ a0).1 0).toInt64) 100) (cwV 2 hts gX8_open_X6_multiply rfl rfl rfl (by decide +kernel) ⟨Nat.le_of_ble_eq_true rfl, Nat.le_of_ble_eq_true rfl⟩) ⟨gBlind, va_recv hK hP (ci := 5) (q0 := ((o + 1))) rfl (at_5 (kk_7_1 ho)), gStart (As := [.ref (ad (o + 1)), .long (((σ a0).1 0).toInt64), .long 100]) hP hD hK0 hT hS hF (d_41)⟩ rfl rfl hl.1 rfl (lv_room (Nat.le_of_ble_eq_true rfl)) dX8_open_120 ⟨Nat.le_of_ble_eq_true rfl, Nat.le_of_ble_eq_true rfl⟩) hS (fun q _ h => hF q h) hF (fun σ19 t H locs ht hvm hw hB hz1 hk1 hS d_44 hd0 => ?_)
        have hts := dr_words hts0 (d_44)
        have hK := gKd hK0 (d_44)
        have hown : (s.setDrawn (d_44)).vm.findClass RX8 = some m.cls := hown0
        obtain ⟨hP, hD⟩ := gBack hF ht hB
        obtain ⟨hIσ19, fcσ19, hp_45⟩ := hw
        refine lv_aload_n hx hb dX8_open_123 rfl (lv_at hl 1 rfl) ?_
        refine lv_aload_n hx hb dX8_open_124 rfl (lv_at hl 1 rfl) ?_
        refine va_get (D := (dC, dI)) (ci := 7) (v := .ref (ad (o + 1))) (C := RX8) (T := TX8) (N := 8) hx hb hts hinX8 hown hK hP o (at_7 ho) rfl 3 (by decide) (hts (.fieldLink RX8 24 "BondCalendars$Settle" "accruedRatio" "LBondCalendars$Ratio;") (by decide +kernel)) (fun _ h9 => h9) rfl dX8_open_125 ?_
        have hF := gFree hD hS hA
        refine va_calldD hd0 (va_runV_D (As := []) (rest := [.ref (ad o)]) ⟨hx, hb, hml, hown, hts⟩ (n_X6_value l dC dI ad cA adK adV H.size σ19 hIσ19 ((o + 1)) (kk_7_1 ho)) (cwV 0 hts gX8_open_X6_value rfl rfl rfl (by decide +kernel) ⟨Nat.le_of_ble_eq_true rfl, Nat.le_of_ble_eq_true rfl⟩) ⟨gBlind, va_recv hK hP (ci := 5) (q0 := ((o + 1))) rfl (at_5 (kk_7_1 ho)), gStart (As := [.ref (ad (o + 1))]) hP hD hK0 hT hS hF (d_44)⟩ rfl rfl hl.1 rfl (lv_room (Nat.le_of_ble_eq_true rfl)) dX8_open_128 ⟨Nat.le_of_ble_eq_true rfl, Nat.le_of_ble_eq_true rfl⟩) hS (fun q _ h => hF q h) hF (fun r_46 σ20 t H locs ht hvm hw hB hz1 hk1 hS d_47 hd0 => ?_)
        have hts := dr_words hts0 (d_47)
        have hK := gKd hK0 (d_47)
        have hown : (s.setDrawn (d_47)).vm.findClass RX8 = some m.cls := hown0
        obtain ⟨hP, hD⟩ := gBack hF ht hB
        obtain ⟨hIσ20, hro, hp_48⟩ := hw
        subst hro
        refine va_put (D := (dC, dI)) (ci := 7) (v := .double r_46) (C := RX8) (T := TX8) (N := 8) hx hb hts hinX8 tyX8 tyX8_ok nmX8 hown hK hP hD hS o (at_7 ho) rfl 6 (by decide) (hts (.fieldLink RX8 34 "BondCalendars$Settle" "accruedValue" "D") (by decide +kernel)) (fun _ h9 => h9) rfl (ty := .double) (by decide +kernel) rfl rfl (Nat.le_of_ble_eq_true rfl) dX8_open_131 (fun H locs hP hD hS => ?_)
        obtain ⟨σ21, eσ21, hP, hD⟩ := gPut (se_7_6 ho) hP hD
        have hIσ21 : InvX σ21 := by rw [eσ21]; exact inv_D hIσ19
        have frσ21 : gFr [5, 7] σ σ21 := by rw [eσ21]; exact gFr.pD (gFr.tr (gFr.tr (gFr.tr (gFr.tr frσ15 fcσ16 (by decide)) fcσ17 (by decide)) fcσ18 (by decide)) fcσ19 (by decide)) ho (by decide)
        refine lv_aload_n hx hb dX8_open_134 rfl (lv_at hl 2 rfl) ?_
        refine lv_iload_n hx hb dX8_open_135 rfl (lv_at hl 3 rfl) ?_
        refine lv_aload_n hx hb dX8_open_136 rfl (lv_at hl 2 rfl) ?_
        refine va_get (D := (dC, dI)) (ci := 0) (v := .ref (ad (a0 + 2))) (C := RX0) (T := TX0) (N := 16) hx hb hts hinX0 hown hK hP a0 (at_0 ha0) rfl 11 (by decide) (hts (.fieldLink RX8 89 "BondCalendars$Bond" "endDays" "[I") (by decide +kernel)) (fun _ h9 => h9) rfl dX8_open_137 ?_
        refine lv_aload_n hx hb dX8_open_140 rfl (lv_at hl 1 rfl) ?_
        refine va_get (D := (dC, dI)) (ci := 7) (v := .int r_1) (C := RX8) (T := TX8) (N := 8) hx hb hts hinX8 hown hK hP o (at_7 ho) rfl 1 (by decide) (hts (.fieldLink RX8 13 "BondCalendars$Settle" "current" "I") (by decide +kernel)) (fun _ h9 => h9) (congrArg (fun z => some (Value.int z)) (show (σ21 o).1 1 = r_1 from by rw [eσ21, gD_i, fcσ19 o (by rw [ho]; decide), fcσ18 o (by rw [ho]; decide), fcσ17 o (by rw [ho]; decide), fcσ16 o (by rw [ho]; decide), eσ15, gI_oth _ _ _ (by decide), eσ3, gI_self])) dX8_open_141 ?_
        refine va_iald hx hb hK hP ((a0 + 2)) ((a0 + 2)) (at_24 (kk_0_2 ha0)) (ty_24 (kk_0_2 ha0)) (gin (N := 81) (by decide) (hp_6.2 c_7).1 (hp_6.2 c_7).2) dX8_open_144 ?_
        refine lv_topi (fun x_49 _ => ?_)
        refine lv_aload_n hx hb dX8_open_145 rfl (lv_at hl 1 rfl) ?_
        refine va_get (D := (dC, dI)) (ci := 7) (v := .ref (ad (o + 2))) (C := RX8) (T := TX8) (N := 8) hx hb hts hinX8 hown hK hP o (at_7 ho) rfl 4 (by decide) (hts (.fieldLink RX8 28 "BondCalendars$Settle" "restRatio" "LBondCalendars$Ratio;") (by decide +kernel)) (fun _ h9 => h9) rfl dX8_open_146 ?_
        have hF := gFree hD hS hA
        refine va_callvD hd0 (va_runV_D (As := [.int p1, .int x_49, .ref (ad (o + 2))]) (rest := []) ⟨hx, hb, hml, hown, hts⟩ (n_X0_measure l dC dI ad cA adK adV H.size σ21 hIσ21 a0 ha0 p1 x_49 ((o + 2)) (kk_7_2 ho)) (cwV 3 hts gX8_open_X0_measure rfl rfl rfl (by decide +kernel) ⟨Nat.le_of_ble_eq_true rfl, Nat.le_of_ble_eq_true rfl⟩) ⟨gBlind, va_recv hK hP (ci := 0) (q0 := a0) rfl (at_0 ha0), gStart (As := [.ref (ad a0), .int p1, .int x_49, .ref (ad (o + 2))]) hP hD hK0 hT hS hF (d_47)⟩ rfl rfl hl.1 rfl (lv_room (Nat.le_of_ble_eq_true rfl)) dX8_open_149 ⟨Nat.le_of_ble_eq_true rfl, Nat.le_of_ble_eq_true rfl⟩) hS (fun q _ h => hF q h) hF (fun σ22 t H locs ht hvm hw hB hz1 hk1 hS d_51 hd0 => ?_)
        have hts := dr_words hts0 (d_51)
        have hK := gKd hK0 (d_51)
        have hown : (s.setDrawn (d_51)).vm.findClass RX8 = some m.cls := hown0
        obtain ⟨hP, hD⟩ := gBack hF ht hB
        obtain ⟨hIσ22, fcσ22, hp_52⟩ := hw
        refine lv_aload_n hx hb dX8_open_152 rfl (lv_at hl 1 rfl) ?_
        refine lv_aload_n hx hb dX8_open_153 rfl (lv_at hl 1 rfl) ?_
        refine va_get (D := (dC, dI)) (ci := 7) (v := .ref (ad (o + 2))) (C := RX8) (T := TX8) (N := 8) hx hb hts hinX8 hown hK hP o (at_7 ho) rfl 4 (by decide) (hts (.fieldLink RX8 28 "BondCalendars$Settle" "restRatio" "LBondCalendars$Ratio;") (by decide +kernel)) (fun _ h9 => h9) rfl dX8_open_154 ?_
        have hF := gFree hD hS hA
        refine va_calldD hd0 (va_runV_D (As := []) (rest := [.ref (ad o)]) ⟨hx, hb, hml, hown, hts⟩ (n_X6_value l dC dI ad cA adK adV H.size σ22 hIσ22 ((o + 2)) (kk_7_2 ho)) (cwV 0 hts gX8_open_X6_value rfl rfl rfl (by decide +kernel) ⟨Nat.le_of_ble_eq_true rfl, Nat.le_of_ble_eq_true rfl⟩) ⟨gBlind, va_recv hK hP (ci := 5) (q0 := ((o + 2))) rfl (at_5 (kk_7_2 ho)), gStart (As := [.ref (ad (o + 2))]) hP hD hK0 hT hS hF (d_51)⟩ rfl rfl hl.1 rfl (lv_room (Nat.le_of_ble_eq_true rfl)) dX8_open_157 ⟨Nat.le_of_ble_eq_true rfl, Nat.le_of_ble_eq_true rfl⟩) hS (fun q _ h => hF q h) hF (fun r_53 σ23 t H locs ht hvm hw hB hz1 hk1 hS d_54 hd0 => ?_)
        have hts := dr_words hts0 (d_54)
        have hK := gKd hK0 (d_54)
        have hown : (s.setDrawn (d_54)).vm.findClass RX8 = some m.cls := hown0
        obtain ⟨hP, hD⟩ := gBack hF ht hB
        obtain ⟨hIσ23, hro, hp_55⟩ := hw
        subst hro
        refine va_put (D := (dC, dI)) (ci := 7) (v := .double r_53) (C := RX8) (T := TX8) (N := 8) hx hb hts hinX8 tyX8 tyX8_ok nmX8 hown hK hP hD hS o (at_7 ho) rfl 7 (by decide) (hts (.fieldLink RX8 38 "BondCalendars$Settle" "restOfPeriod" "D") (by decide +kernel)) (fun _ h9 => h9) rfl (ty := .double) (by decide +kernel) rfl rfl (Nat.le_of_ble_eq_true rfl) dX8_open_160 (fun H locs hP hD hS => ?_)
        obtain ⟨σ24, eσ24, hP, hD⟩ := gPut (se_7_7 ho) hP hD
        have hIσ24 : InvX σ24 := by rw [eσ24]; exact inv_D hIσ22
        have frσ24 : gFr [5, 7] σ σ24 := by rw [eσ24]; exact gFr.pD (gFr.tr frσ21 fcσ22 (by decide)) ho (by decide)
        refine lv_aload_n hx hb dX8_open_163 rfl (lv_at hl 1 rfl) ?_
        refine va_get (D := (dC, dI)) (ci := 7) (v := .ref (ad (o + 2))) (C := RX8) (T := TX8) (N := 8) hx hb hts hinX8 hown hK hP o (at_7 ho) rfl 4 (by decide) (hts (.fieldLink RX8 28 "BondCalendars$Settle" "restRatio" "LBondCalendars$Ratio;") (by decide +kernel)) (fun _ h9 => h9) rfl dX8_open_164 ?_
        refine lv_aload_n hx hb dX8_open_167 rfl (lv_at hl 2 rfl) ?_
        refine va_get (D := (dC, dI)) (ci := 0) (v := .int ((σ a0).1 0)) (C := RX0) (T := TX0) (N := 16) hx hb hts hinX0 hown hK hP a0 (at_0 ha0) rfl 0 (by decide) (hts (.fieldLink RX8 77 "BondCalendars$Bond" "rate" "I") (by decide +kernel)) (fun _ h9 => h9) (congrArg (fun z => some (Value.int z)) (show (σ24 a0).1 0 = ((σ a0).1 0) from by rw [eσ24, gD_ne _ _ _ (kne ha0 ho (by decide)), fcσ22 a0 (by rw [ha0]; decide), eσ21, gD_ne _ _ _ (kne ha0 ho (by decide)), fcσ19 a0 (by rw [ha0]; decide), fcσ18 a0 (by rw [ha0]; decide), fcσ17 a0 (by rw [ha0]; decide), fcσ16 a0 (by rw [ha0]; decide), eσ15, gI_ne _ _ _ (kne ha0 ho (by decide)), eσ3, gI_ne _ _ _ (kne ha0 ho (by decide)), eσ1, gQ_ne _ _ _ (kne ha0 ho (by decide))])) dX8_open_168 ?_
        refine lv_i2l hx hb dX8_open_171 rfl ?_
        refine lv_ldc2 (v := 100) hx hb hown (hts (.constantLong RX8 80 (100)) (by decide +kernel)) dX8_open_172 ?_
        have hF := gFree hD hS hA
        refine va_callvD hd0 (va_runV_D (As := [.long (((σ a0).1 0).toInt64), .long 100]) (rest := []) ⟨hx, hb, hml, hown, hts⟩ (n_X6_multiply l dC dI ad cA adK adV H.size σ24 hIσ24 ((o + 2)) (kk_7_2 ho) (((σ a0).1 0).toInt64) 100) (cwV 2 hts gX8_open_X6_multiply rfl rfl rfl (by decide +kernel) ⟨Nat.le_of_ble_eq_true rfl, Nat.le_of_ble_eq_true rfl⟩) ⟨gBlind, va_recv hK hP (ci := 5) (q0 := ((o + 2))) rfl (at_5 (kk_7_2 ho)), gStart (As := [.ref (ad (o + 2)), .long (((σ a0).1 0).toInt64), .long 100]) hP hD hK0 hT hS hF (d_54)⟩ rfl rfl hl.1 rfl (lv_room (Nat.le_of_ble_eq_true rfl)) dX8_open_175 ⟨Nat.le_of_ble_eq_true rfl, Nat.le_of_ble_eq_true rfl⟩) hS (fun q _ h => hF q h) hF (fun σ25 t H locs ht hvm hw hB hz1 hk1 hS d_57 hd0 => ?_)
        have hts := dr_words hts0 (d_57)
        have hK := gKd hK0 (d_57)
        have hown : (s.setDrawn (d_57)).vm.findClass RX8 = some m.cls := hown0
        obtain ⟨hP, hD⟩ := gBack hF ht hB
        obtain ⟨hIσ25, fcσ25, hp_58⟩ := hw
        refine W.endD hd0 ?_
        exact W.vret hx hb hr (fun t ht hW => ⟨⟨σ25, rfl, ⟨hIσ25, (gFr.tr frσ24 fcσ25 (by decide)), trivial⟩, ⟨by rw [ht]; exact hP, hD⟩⟩, hS.F ht⟩) hS.2.2 dX8_open_178
  · refine W.endD hd0 ?_
    exact W.vret hx hb hr (fun t ht hW => ⟨⟨σ3, rfl, ⟨hIσ3, frσ3, trivial⟩, ⟨by rw [ht]; exact hP, hD⟩⟩, hS.F ht⟩) hS.2.2 dX8_open_25
set_option maxHeartbeats 8000000 in
set_option maxRecDepth 100000 in
theorem n_X8_dirtyAt (l : Launch) (dC : Nat → ClassId) (dI : Nat → Nat → Nat) (ad : Nat → Nat) (cA : Nat → ClassId) (adK adV : Nat → Nat) (sz : Nat) (σ : gs) (hI : InvX σ) (o : Nat) (ho : kX o = 7) (p0 : UInt64) : MetD lw_cs l yX8_dirtyAt wsX8_dirtyAt ({ frames := 0, cells := 0, slots := 0, locals := 0 }) (va_Pc [.ref (ad o), .double p0] (gPre adK adV (dC, dI) (wX ad cA σ) (tX cA) sz)) (va_Qd (fun (r : UInt64) (τ : gs) => InvX τ ∧ σ = τ ∧ (True)) (fun τ t => gPost (dC, dI) (va_A (wX ad cA σ) sz) (wX ad cA τ) t) (va_A (wX ad cA σ) sz)) 0 0 (va_A (wX ad cA σ) sz) := by
  refine MetD.ofW (cc := cX8_dirtyAt) (maxL := 11) (ret := (some .double)) (by decide) rfl ?_
  intro p e s m args below meth c s₁ B hml hv hd0
  obtain ⟨rfl, hsz, hP, hK, hD0, hT⟩ := hv
  have hx := B.exec
  have hb := B.bytes
  have hr := B.returns
  have hts0 := atoms_spec (ws := wsX8_dirtyAt) B.pre
  have hK0 := hK
  have hown0 : s.vm.findClass RX8 = some m.cls := findClass_of_methodNamed B.named
  have hlocks := B.notSynchronized
  have hinX8 : ∀ w ∈ u_ws RX8 TX8 8, w ∈ wsX8_dirtyAt := (fun _ h9 => List.mem_cons_of_mem _ (List.mem_append_left _ (List.mem_append_right _ h9)))
  have hinX0 : ∀ w ∈ u_ws RX0 TX0 16, w ∈ wsX8_dirtyAt := (fun _ h9 => List.mem_cons_of_mem _ (List.mem_append_right _ h9))
  subst hsz
  have hD := hD0.self (sz := s.heap.size)
  generalize hAe : va_A (wX ad cA σ) s.heap.size = A at hD hT ⊢
  have hA : ∀ q : Nat, s.heap.size ≤ q → A q := fun q h => by rw [← hAe]; exact Or.inr h
  have hS : va_S A s.heap s.heap [] := va_S.rf
  have hl := lv_entry ([.ref (ad o), .double p0]) (n := 11) (Nat.le_of_ble_eq_true rfl)
  rw [lg_entry_eq]
  generalize (lg_sl ([.ref (ad o), .double p0]) ++ List.replicate (11 - (lg_sl ([.ref (ad o), .double p0])).length) Slot.unset).toArray = ls at hl ⊢
  have hl : lv_has ls 11 [(0, .ref (ad o)), (1, .double p0)] := hl
  have hts := dr_words hts0 (s.drawn)
  have hK := gKd hK0 (s.drawn)
  have hown : (s.setDrawn (s.drawn)).vm.findClass RX8 = some m.cls := hown0
  refine lv_aload_n hx hb dX8_dirtyAt_0 rfl (lv_at hl 0 rfl) ?_
  rcases rq_7_0 (c := o) hI ho with q_3 | ⟨b_1, hb_2, q_3⟩
  · refine va_get (D := (dC, dI)) (ci := 7) (v := .null) (C := RX8) (T := TX8) (N := 8) hx hb hts hinX8 hown hK hP o (at_7 ho) rfl 0 (by decide) (hts (.fieldLink RX8 7 "BondCalendars$Settle" "bond" "LBondCalendars$Bond;") (by decide +kernel)) (fun _ h9 => h9) (by show some (va_re ad ((σ o).2.2.2 0)) = _; rw [q_3]; rfl) dX8_dirtyAt_1 ?_
    refine lv_ifnonnullN hx hb dX8_dirtyAt_4 ?_
    refine lv_dconst0 hx hb dX8_dirtyAt_7 ?_
    refine W.endD hd0 ?_
    exact W.dret (v := 0) hx hb hr (fun t ht hW => ⟨⟨0, σ, rfl, ⟨hI, rfl, trivial⟩, ⟨by rw [ht]; exact hP, hD⟩⟩, hS.F ht⟩) hS.2.2 dX8_dirtyAt_8
  · refine va_get (D := (dC, dI)) (ci := 7) (v := .ref (ad b_1)) (C := RX8) (T := TX8) (N := 8) hx hb hts hinX8 hown hK hP o (at_7 ho) rfl 0 (by decide) (hts (.fieldLink RX8 7 "BondCalendars$Settle" "bond" "LBondCalendars$Bond;") (by decide +kernel)) (fun _ h9 => h9) (by show some (va_re ad ((σ o).2.2.2 0)) = _; rw [q_3]; rfl) dX8_dirtyAt_1 ?_
    refine lv_ifnonnull (tgt := 9) hx hb dX8_dirtyAt_4 (by decide) ?_
    refine lv_dconst1 hx hb dX8_dirtyAt_9 ?_
    refine lv_dload_n hx hb dX8_dirtyAt_10 rfl (lv_at hl 1 rfl) ?_
    refine lv_aload_n hx hb dX8_dirtyAt_11 rfl (lv_at hl 0 rfl) ?_
    refine va_get (D := (dC, dI)) (ci := 7) (v := .double ((σ o).2.2.1 7)) (C := RX8) (T := TX8) (N := 8) hx hb hts hinX8 hown hK hP o (at_7 ho) rfl 7 (by decide) (hts (.fieldLink RX8 38 "BondCalendars$Settle" "restOfPeriod" "D") (by decide +kernel)) (fun _ h9 => h9) rfl dX8_dirtyAt_12 ?_
    refine lv_dmul_any hd0 lw_bits hx hb dX8_dirtyAt_15 (fun y_4 d_5 _ hd0 => ?_)
    have hts := dr_words hts0 (d_5)
    have hK := gKd hK0 (d_5)
    have hown : (s.setDrawn (d_5)).vm.findClass RX8 = some m.cls := hown0
    refine lv_dadd_any hd0 lw_bits hx hb dX8_dirtyAt_16 (fun y_6 d_7 _ hd0 => ?_)
    have hts := dr_words hts0 (d_7)
    have hK := gKd hK0 (d_7)
    have hown : (s.setDrawn (d_7)).vm.findClass RX8 = some m.cls := hown0
    refine lv_dstore_n (lv' := [(3, .double y_6), (0, .ref (ad o)), (1, .double p0)]) hx hb dX8_dirtyAt_17 rfl hl (by decide) rfl (fun ls hl => ?_)
    refine lv_dconst0 hx hb dX8_dirtyAt_18 ?_
    refine lv_dstore (lv' := [(5, .double 0), (3, .double y_6), (0, .ref (ad o)), (1, .double p0)]) hx hb dX8_dirtyAt_19 hl (by decide) rfl (fun ls hl => ?_)
    refine lv_aload_n hx hb dX8_dirtyAt_21 rfl (lv_at hl 2 rfl) ?_
    refine va_get (D := (dC, dI)) (ci := 7) (v := .ref (ad b_1)) (C := RX8) (T := TX8) (N := 8) hx hb hts hinX8 hown hK hP o (at_7 ho) rfl 0 (by decide) (hts (.fieldLink RX8 7 "BondCalendars$Settle" "bond" "LBondCalendars$Bond;") (by decide +kernel)) (fun _ h9 => h9) (by show some (va_re ad ((σ o).2.2.2 0)) = _; rw [q_3]; rfl) dX8_dirtyAt_22 ?_
    have bd_8 := rd_0_9 (c := b_1) hI hb_2
    refine va_get (D := (dC, dI)) (ci := 0) (v := .int ((σ b_1).1 9)) (C := RX0) (T := TX0) (N := 16) hx hb hts hinX0 hown hK hP b_1 (at_0 hb_2) rfl 9 (by decide) (hts (.fieldLink RX8 92 "BondCalendars$Bond" "periods" "I") (by decide +kernel)) (fun _ h9 => h9) rfl dX8_dirtyAt_25 ?_
    refine lv_iconst (v := 1) hx hb dX8_dirtyAt_28 (by decide) ?_
    refine lv_isub hx hb dX8_dirtyAt_29 ?_
    refine lv_topi (fun x_9 ex_9 => ?_)
    refine lv_istore (lv' := [(7, .int x_9), (5, .double 0), (3, .double y_6), (0, .ref (ad o)), (1, .double p0)]) hx hb dX8_dirtyAt_30 hl (by decide) rfl (fun ls hl => ?_)
    refine lv_aload_n hx hb dX8_dirtyAt_32 rfl (lv_at hl 3 rfl) ?_
    refine va_get (D := (dC, dI)) (ci := 7) (v := .int ((σ o).1 1)) (C := RX8) (T := TX8) (N := 8) hx hb hts hinX8 hown hK hP o (at_7 ho) rfl 1 (by decide) (hts (.fieldLink RX8 13 "BondCalendars$Settle" "current" "I") (by decide +kernel)) (fun _ h9 => h9) rfl dX8_dirtyAt_33 ?_
    refine lv_istore (lv' := [(8, .int ((σ o).1 1)), (7, .int x_9), (5, .double 0), (3, .double y_6), (0, .ref (ad o)), (1, .double p0)]) hx hb dX8_dirtyAt_36 hl (by decide) rfl (fun ls hl => ?_)
    refine (fun (h : ∀ (n : Nat) (i8 : Int32) (gr : UInt64) (sm : UInt64) (d38 : Drawn) (H : Heap) (locs : List Loc) (ls : Array Slot), ((81 : Int32).toInt - i8.toInt).toNat < n → s.drawn.sameBut d38 lw_cs → va_P (dC, dI) vwCl (wX ad cA σ) H → va_D A (wX ad cA σ) → va_S A s.heap H locs → lv_has ls 11 [(8, .int i8), (7, .int x_9), (5, .double sm), (3, .double gr), (0, .ref (ad o)), (1, .double p0)] → W p l e _ (s.setDrawn d38) m _ below meth c H locs _ _ _ (F0 m 38 ls [])) => h _ ((σ o).1 1) y_6 0 _ _ _ _ (Nat.lt_succ_self _)  hd0 hP hD hS (lv_sub hl [0, 1, 2, 3, 4, 5] rfl)) ?_
    intro n38
    induction n38 with
    | zero => intro i8 gr sm  d38 H locs ls hm; exact absurd hm (Nat.not_lt_zero _)
    | succ n38 ih38 =>
      intro i8 gr sm  d38 H locs ls hm38   hd0 hP hD hS hl
      have hts := dr_words hts0 (d38)
      have hK := gKd hK0 (d38)
      have hown : (s.setDrawn (d38)).vm.findClass RX8 = some m.cls := hown0
      refine lv_iload hx hb dX8_dirtyAt_38 (lv_at hl 0 rfl) ?_
      refine lv_if_lt (tgt := 145) hx hb dX8_dirtyAt_40 (by decide) (fun c_10 => ?_) (fun c_10 => ?_)
      · refine lv_dload hx hb dX8_dirtyAt_145 (lv_at hl 2 rfl) ?_
        refine W.endD hd0 ?_
        exact W.dret (v := sm) hx hb hr (fun t ht hW => ⟨⟨sm, σ, rfl, ⟨hI, rfl, trivial⟩, ⟨by rw [ht]; exact hP, hD⟩⟩, hS.F ht⟩) hS.2.2 dX8_dirtyAt_147
      · refine lv_iload hx hb dX8_dirtyAt_43 (lv_at hl 0 rfl) ?_
        refine lv_iload hx hb dX8_dirtyAt_45 (lv_at hl 1 rfl) ?_
        refine lv_icmp_gt (tgt := 145) hx hb dX8_dirtyAt_47 (by decide) (fun c_11 => ?_) (fun c_11 => ?_)
        · refine lv_dload hx hb dX8_dirtyAt_145 (lv_at hl 2 rfl) ?_
          refine W.endD hd0 ?_
          exact W.dret (v := sm) hx hb hr (fun t ht hW => ⟨⟨sm, σ, rfl, ⟨hI, rfl, trivial⟩, ⟨by rw [ht]; exact hP, hD⟩⟩, hS.F ht⟩) hS.2.2 dX8_dirtyAt_147
        · refine lv_iload hx hb dX8_dirtyAt_50 (lv_at hl 0 rfl) ?_
          refine lv_bipush (v := 81) hx hb dX8_dirtyAt_52 (by decide) ?_
          refine lv_icmp_ge (tgt := 145) hx hb dX8_dirtyAt_54 (by decide) (fun c_12 => ?_) (fun c_12 => ?_)
          · exact absurd c_12 (Int32.not_le.mpr (Int32.lt_of_lt_of_le (Int32.lt_of_le_of_lt (Int32.not_lt.mp c_11) (sub_lt (k := 1) (by decide) bd_8.1 ex_9)) bd_8.2))
          · refine lv_iload hx hb dX8_dirtyAt_57 (lv_at hl 0 rfl) ?_
            refine lv_aload_n hx hb dX8_dirtyAt_59 rfl (lv_at hl 4 rfl) ?_
            refine va_get (D := (dC, dI)) (ci := 7) (v := .int ((σ o).1 1)) (C := RX8) (T := TX8) (N := 8) hx hb hts hinX8 hown hK hP o (at_7 ho) rfl 1 (by decide) (hts (.fieldLink RX8 13 "BondCalendars$Settle" "current" "I") (by decide +kernel)) (fun _ h9 => h9) rfl dX8_dirtyAt_60 ?_
            refine lv_icmp_le (tgt := 83) hx hb dX8_dirtyAt_63 (by decide) (fun c_13 => ?_) (fun c_13 => ?_)
            · refine lv_aload_n hx hb dX8_dirtyAt_83 rfl (lv_at hl 4 rfl) ?_
              refine va_get (D := (dC, dI)) (ci := 7) (v := .int ((σ o).1 2)) (C := RX8) (T := TX8) (N := 8) hx hb hts hinX8 hown hK hP o (at_7 ho) rfl 2 (by decide) (hts (.fieldLink RX8 17 "BondCalendars$Settle" "ex" "Z") (by decide +kernel)) (fun _ h9 => h9) rfl dX8_dirtyAt_84 ?_
              refine lv_if_eq (tgt := 103) hx hb dX8_dirtyAt_87 (by decide) (fun c_14 => ?_) (fun c_14 => ?_)
              · refine lv_aload_n hx hb dX8_dirtyAt_103 rfl (lv_at hl 4 rfl) ?_
                refine va_get (D := (dC, dI)) (ci := 7) (v := .ref (ad b_1)) (C := RX8) (T := TX8) (N := 8) hx hb hts hinX8 hown hK hP o (at_7 ho) rfl 0 (by decide) (hts (.fieldLink RX8 7 "BondCalendars$Settle" "bond" "LBondCalendars$Bond;") (by decide +kernel)) (fun _ h9 => h9) (by show some (va_re ad ((σ o).2.2.2 0)) = _; rw [q_3]; rfl) dX8_dirtyAt_104 ?_
                refine va_get (D := (dC, dI)) (ci := 0) (v := .ref (ad (b_1 + 6))) (C := RX0) (T := TX0) (N := 16) hx hb hts hinX0 hown hK hP b_1 (at_0 hb_2) rfl 15 (by decide) (hts (.fieldLink RX8 99 "BondCalendars$Bond" "coupons" "[D") (by decide +kernel)) (fun _ h9 => h9) rfl dX8_dirtyAt_107 ?_
                refine lv_iload hx hb dX8_dirtyAt_110 (lv_at hl 0 rfl) ?_
                refine va_dald hx hb hK hP ((b_1 + 6)) ((b_1 + 6)) (at_28 (kk_0_6 hb_2)) (ty_28 (kk_0_6 hb_2)) (gin (N := 81) (by decide) (Int32.not_lt.mp c_10) (Int32.not_le.mp c_12)) dX8_dirtyAt_112 ?_
                refine lv_topd (fun y_15 _ => ?_)
                refine lv_dstore (lv' := [(9, .double y_15), (8, .int i8), (7, .int x_9), (5, .double sm), (3, .double gr), (0, .ref (ad o)), (1, .double p0)]) hx hb dX8_dirtyAt_113 hl (by decide) rfl (fun ls hl => ?_)
                refine lv_iload hx hb dX8_dirtyAt_115 (lv_at hl 1 rfl) ?_
                refine lv_iload hx hb dX8_dirtyAt_117 (lv_at hl 2 rfl) ?_
                refine lv_icmp_ne (tgt := 130) hx hb dX8_dirtyAt_119 (by decide) (fun c_16 => ?_) (fun c_16 => ?_)
                · refine lv_dload hx hb dX8_dirtyAt_130 (lv_at hl 3 rfl) ?_
                  refine lv_dload hx hb dX8_dirtyAt_132 (lv_at hl 0 rfl) ?_
                  refine lv_dload_n hx hb dX8_dirtyAt_134 rfl (lv_at hl 4 rfl) ?_
                  refine lv_ddiv_any hd0 lw_bits hx hb dX8_dirtyAt_135 (fun y_17 d_18 _ hd0 => ?_)
                  have hts := dr_words hts0 (d_18)
                  have hK := gKd hK0 (d_18)
                  have hown : (s.setDrawn (d_18)).vm.findClass RX8 = some m.cls := hown0
                  refine lv_dadd_any hd0 lw_bits hx hb dX8_dirtyAt_136 (fun y_19 d_20 _ hd0 => ?_)
                  have hts := dr_words hts0 (d_20)
                  have hK := gKd hK0 (d_20)
                  have hown : (s.setDrawn (d_20)).vm.findClass RX8 = some m.cls := hown0
                  refine lv_dstore (lv' := [(5, .double y_19), (9, .double y_15), (8, .int i8), (7, .int x_9), (3, .double gr), (0, .ref (ad o)), (1, .double p0)]) hx hb dX8_dirtyAt_137 hl (by decide) rfl (fun ls hl => ?_)
                  obtain ⟨x_21, ex_21⟩ : ∃ zz : Int32, zz = i8 + 1 := ⟨_, rfl⟩
                  refine lv_iinc (v := x_21) (lv' := [(8, .int x_21), (5, .double y_19), (9, .double y_15), (7, .int x_9), (3, .double gr), (0, .ref (ad o)), (1, .double p0)]) hx hb dX8_dirtyAt_139 hl (k := 2) rfl (by rw [ex_21]; rfl) (by decide) rfl (fun ls hl => ?_)
                  refine lv_goto (tgt := 38) hx hb dX8_dirtyAt_142 (by decide) ?_
                  exact ih38 x_21 gr y_19 _ _ _ _ (cnt_m (Int32.not_lt.mp c_10) (Int32.not_le.mp c_12) hm38 ex_21)  hd0 hP hD hS (lv_sub hl [0, 3, 1, 4, 5, 6] rfl)
                · refine lv_dload hx hb dX8_dirtyAt_122 (lv_at hl 0 rfl) ?_
                  refine lv_ldc2d (v := 4636737291354636288) hx hb hown (hts (.constantDouble RX8 102 (4636737291354636288)) (by decide +kernel)) dX8_dirtyAt_124 ?_
                  refine lv_dadd_any hd0 lw_bits hx hb dX8_dirtyAt_127 (fun y_22 d_23 _ hd0 => ?_)
                  have hts := dr_words hts0 (d_23)
                  have hK := gKd hK0 (d_23)
                  have hown : (s.setDrawn (d_23)).vm.findClass RX8 = some m.cls := hown0
                  refine lv_dstore (lv' := [(9, .double y_22), (8, .int i8), (7, .int x_9), (5, .double sm), (3, .double gr), (0, .ref (ad o)), (1, .double p0)]) hx hb dX8_dirtyAt_128 hl (by decide) rfl (fun ls hl => ?_)
                  refine lv_dload hx hb dX8_dirtyAt_130 (lv_at hl 3 rfl) ?_
                  refine lv_dload hx hb dX8_dirtyAt_132 (lv_at hl 0 rfl) ?_
                  refine lv_dload_n hx hb dX8_dirtyAt_134 rfl (lv_at hl 4 rfl) ?_
                  refine lv_ddiv_any hd0 lw_bits hx hb dX8_dirtyAt_135 (fun y_24 d_25 _ hd0 => ?_)
                  have hts := dr_words hts0 (d_25)
                  have hK := gKd hK0 (d_25)
                  have hown : (s.setDrawn (d_25)).vm.findClass RX8 = some m.cls := hown0
                  refine lv_dadd_any hd0 lw_bits hx hb dX8_dirtyAt_136 (fun y_26 d_27 _ hd0 => ?_)
                  have hts := dr_words hts0 (d_27)
                  have hK := gKd hK0 (d_27)
                  have hown : (s.setDrawn (d_27)).vm.findClass RX8 = some m.cls := hown0
                  refine lv_dstore (lv' := [(5, .double y_26), (9, .double y_22), (8, .int i8), (7, .int x_9), (3, .double gr), (0, .ref (ad o)), (1, .double p0)]) hx hb dX8_dirtyAt_137 hl (by decide) rfl (fun ls hl => ?_)
                  obtain ⟨x_28, ex_28⟩ : ∃ zz : Int32, zz = i8 + 1 := ⟨_, rfl⟩
                  refine lv_iinc (v := x_28) (lv' := [(8, .int x_28), (5, .double y_26), (9, .double y_22), (7, .int x_9), (3, .double gr), (0, .ref (ad o)), (1, .double p0)]) hx hb dX8_dirtyAt_139 hl (k := 2) rfl (by rw [ex_28]; rfl) (by decide) rfl (fun ls hl => ?_)
                  refine lv_goto (tgt := 38) hx hb dX8_dirtyAt_142 (by decide) ?_
                  exact ih38 x_28 gr y_26 _ _ _ _ (cnt_m (Int32.not_lt.mp c_10) (Int32.not_le.mp c_12) hm38 ex_28)  hd0 hP hD hS (lv_sub hl [0, 3, 1, 4, 5, 6] rfl)
              · refine lv_iload hx hb dX8_dirtyAt_90 (lv_at hl 0 rfl) ?_
                refine lv_aload_n hx hb dX8_dirtyAt_92 rfl (lv_at hl 4 rfl) ?_
                refine va_get (D := (dC, dI)) (ci := 7) (v := .int ((σ o).1 1)) (C := RX8) (T := TX8) (N := 8) hx hb hts hinX8 hown hK hP o (at_7 ho) rfl 1 (by decide) (hts (.fieldLink RX8 13 "BondCalendars$Settle" "current" "I") (by decide +kernel)) (fun _ h9 => h9) rfl dX8_dirtyAt_93 ?_
                refine lv_icmp_ne (tgt := 103) hx hb dX8_dirtyAt_96 (by decide) (fun c_29 => ?_) (fun c_29 => ?_)
                · refine lv_aload_n hx hb dX8_dirtyAt_103 rfl (lv_at hl 4 rfl) ?_
                  refine va_get (D := (dC, dI)) (ci := 7) (v := .ref (ad b_1)) (C := RX8) (T := TX8) (N := 8) hx hb hts hinX8 hown hK hP o (at_7 ho) rfl 0 (by decide) (hts (.fieldLink RX8 7 "BondCalendars$Settle" "bond" "LBondCalendars$Bond;") (by decide +kernel)) (fun _ h9 => h9) (by show some (va_re ad ((σ o).2.2.2 0)) = _; rw [q_3]; rfl) dX8_dirtyAt_104 ?_
                  refine va_get (D := (dC, dI)) (ci := 0) (v := .ref (ad (b_1 + 6))) (C := RX0) (T := TX0) (N := 16) hx hb hts hinX0 hown hK hP b_1 (at_0 hb_2) rfl 15 (by decide) (hts (.fieldLink RX8 99 "BondCalendars$Bond" "coupons" "[D") (by decide +kernel)) (fun _ h9 => h9) rfl dX8_dirtyAt_107 ?_
                  refine lv_iload hx hb dX8_dirtyAt_110 (lv_at hl 0 rfl) ?_
                  refine va_dald hx hb hK hP ((b_1 + 6)) ((b_1 + 6)) (at_28 (kk_0_6 hb_2)) (ty_28 (kk_0_6 hb_2)) (gin (N := 81) (by decide) (Int32.not_lt.mp c_10) (Int32.not_le.mp c_12)) dX8_dirtyAt_112 ?_
                  refine lv_topd (fun y_30 _ => ?_)
                  refine lv_dstore (lv' := [(9, .double y_30), (8, .int i8), (7, .int x_9), (5, .double sm), (3, .double gr), (0, .ref (ad o)), (1, .double p0)]) hx hb dX8_dirtyAt_113 hl (by decide) rfl (fun ls hl => ?_)
                  refine lv_iload hx hb dX8_dirtyAt_115 (lv_at hl 1 rfl) ?_
                  refine lv_iload hx hb dX8_dirtyAt_117 (lv_at hl 2 rfl) ?_
                  refine lv_icmp_ne (tgt := 130) hx hb dX8_dirtyAt_119 (by decide) (fun c_31 => ?_) (fun c_31 => ?_)
                  · refine lv_dload hx hb dX8_dirtyAt_130 (lv_at hl 3 rfl) ?_
                    refine lv_dload hx hb dX8_dirtyAt_132 (lv_at hl 0 rfl) ?_
                    refine lv_dload_n hx hb dX8_dirtyAt_134 rfl (lv_at hl 4 rfl) ?_
                    refine lv_ddiv_any hd0 lw_bits hx hb dX8_dirtyAt_135 (fun y_32 d_33 _ hd0 => ?_)
                    have hts := dr_words hts0 (d_33)
                    have hK := gKd hK0 (d_33)
                    have hown : (s.setDrawn (d_33)).vm.findClass RX8 = some m.cls := hown0
                    refine lv_dadd_any hd0 lw_bits hx hb dX8_dirtyAt_136 (fun y_34 d_35 _ hd0 => ?_)
                    have hts := dr_words hts0 (d_35)
                    have hK := gKd hK0 (d_35)
                    have hown : (s.setDrawn (d_35)).vm.findClass RX8 = some m.cls := hown0
                    refine lv_dstore (lv' := [(5, .double y_34), (9, .double y_30), (8, .int i8), (7, .int x_9), (3, .double gr), (0, .ref (ad o)), (1, .double p0)]) hx hb dX8_dirtyAt_137 hl (by decide) rfl (fun ls hl => ?_)
                    obtain ⟨x_36, ex_36⟩ : ∃ zz : Int32, zz = i8 + 1 := ⟨_, rfl⟩
                    refine lv_iinc (v := x_36) (lv' := [(8, .int x_36), (5, .double y_34), (9, .double y_30), (7, .int x_9), (3, .double gr), (0, .ref (ad o)), (1, .double p0)]) hx hb dX8_dirtyAt_139 hl (k := 2) rfl (by rw [ex_36]; rfl) (by decide) rfl (fun ls hl => ?_)
                    refine lv_goto (tgt := 38) hx hb dX8_dirtyAt_142 (by decide) ?_
                    exact ih38 x_36 gr y_34 _ _ _ _ (cnt_m (Int32.not_lt.mp c_10) (Int32.not_le.mp c_12) hm38 ex_36)  hd0 hP hD hS (lv_sub hl [0, 3, 1, 4, 5, 6] rfl)
                  · refine lv_dload hx hb dX8_dirtyAt_122 (lv_at hl 0 rfl) ?_
                    refine lv_ldc2d (v := 4636737291354636288) hx hb hown (hts (.constantDouble RX8 102 (4636737291354636288)) (by decide +kernel)) dX8_dirtyAt_124 ?_
                    refine lv_dadd_any hd0 lw_bits hx hb dX8_dirtyAt_127 (fun y_37 d_38 _ hd0 => ?_)
                    have hts := dr_words hts0 (d_38)
                    have hK := gKd hK0 (d_38)
                    have hown : (s.setDrawn (d_38)).vm.findClass RX8 = some m.cls := hown0
                    refine lv_dstore (lv' := [(9, .double y_37), (8, .int i8), (7, .int x_9), (5, .double sm), (3, .double gr), (0, .ref (ad o)), (1, .double p0)]) hx hb dX8_dirtyAt_128 hl (by decide) rfl (fun ls hl => ?_)
                    refine lv_dload hx hb dX8_dirtyAt_130 (lv_at hl 3 rfl) ?_
                    refine lv_dload hx hb dX8_dirtyAt_132 (lv_at hl 0 rfl) ?_
                    refine lv_dload_n hx hb dX8_dirtyAt_134 rfl (lv_at hl 4 rfl) ?_
                    refine lv_ddiv_any hd0 lw_bits hx hb dX8_dirtyAt_135 (fun y_39 d_40 _ hd0 => ?_)
                    have hts := dr_words hts0 (d_40)
                    have hK := gKd hK0 (d_40)
                    have hown : (s.setDrawn (d_40)).vm.findClass RX8 = some m.cls := hown0
                    refine lv_dadd_any hd0 lw_bits hx hb dX8_dirtyAt_136 (fun y_41 d_42 _ hd0 => ?_)
                    have hts := dr_words hts0 (d_42)
                    have hK := gKd hK0 (d_42)
                    have hown : (s.setDrawn (d_42)).vm.findClass RX8 = some m.cls := hown0
                    refine lv_dstore (lv' := [(5, .double y_41), (9, .double y_37), (8, .int i8), (7, .int x_9), (3, .double gr), (0, .ref (ad o)), (1, .double p0)]) hx hb dX8_dirtyAt_137 hl (by decide) rfl (fun ls hl => ?_)
                    obtain ⟨x_43, ex_43⟩ : ∃ zz : Int32, zz = i8 + 1 := ⟨_, rfl⟩
                    refine lv_iinc (v := x_43) (lv' := [(8, .int x_43), (5, .double y_41), (9, .double y_37), (7, .int x_9), (3, .double gr), (0, .ref (ad o)), (1, .double p0)]) hx hb dX8_dirtyAt_139 hl (k := 2) rfl (by rw [ex_43]; rfl) (by decide) rfl (fun ls hl => ?_)
                    refine lv_goto (tgt := 38) hx hb dX8_dirtyAt_142 (by decide) ?_
                    exact ih38 x_43 gr y_41 _ _ _ _ (cnt_m (Int32.not_lt.mp c_10) (Int32.not_le.mp c_12) hm38 ex_43)  hd0 hP hD hS (lv_sub hl [0, 3, 1, 4, 5, 6] rfl)
                · refine lv_dconst0 hx hb dX8_dirtyAt_99 ?_
                  refine lv_goto (tgt := 113) hx hb dX8_dirtyAt_100 (by decide) ?_
                  refine lv_dstore (lv' := [(9, .double 0), (8, .int i8), (7, .int x_9), (5, .double sm), (3, .double gr), (0, .ref (ad o)), (1, .double p0)]) hx hb dX8_dirtyAt_113 hl (by decide) rfl (fun ls hl => ?_)
                  refine lv_iload hx hb dX8_dirtyAt_115 (lv_at hl 1 rfl) ?_
                  refine lv_iload hx hb dX8_dirtyAt_117 (lv_at hl 2 rfl) ?_
                  refine lv_icmp_ne (tgt := 130) hx hb dX8_dirtyAt_119 (by decide) (fun c_44 => ?_) (fun c_44 => ?_)
                  · refine lv_dload hx hb dX8_dirtyAt_130 (lv_at hl 3 rfl) ?_
                    refine lv_dload hx hb dX8_dirtyAt_132 (lv_at hl 0 rfl) ?_
                    refine lv_dload_n hx hb dX8_dirtyAt_134 rfl (lv_at hl 4 rfl) ?_
                    refine lv_ddiv_any hd0 lw_bits hx hb dX8_dirtyAt_135 (fun y_45 d_46 _ hd0 => ?_)
                    have hts := dr_words hts0 (d_46)
                    have hK := gKd hK0 (d_46)
                    have hown : (s.setDrawn (d_46)).vm.findClass RX8 = some m.cls := hown0
                    refine lv_dadd_any hd0 lw_bits hx hb dX8_dirtyAt_136 (fun y_47 d_48 _ hd0 => ?_)
                    have hts := dr_words hts0 (d_48)
                    have hK := gKd hK0 (d_48)
                    have hown : (s.setDrawn (d_48)).vm.findClass RX8 = some m.cls := hown0
                    refine lv_dstore (lv' := [(5, .double y_47), (9, .double 0), (8, .int i8), (7, .int x_9), (3, .double gr), (0, .ref (ad o)), (1, .double p0)]) hx hb dX8_dirtyAt_137 hl (by decide) rfl (fun ls hl => ?_)
                    obtain ⟨x_49, ex_49⟩ : ∃ zz : Int32, zz = i8 + 1 := ⟨_, rfl⟩
                    refine lv_iinc (v := x_49) (lv' := [(8, .int x_49), (5, .double y_47), (9, .double 0), (7, .int x_9), (3, .double gr), (0, .ref (ad o)), (1, .double p0)]) hx hb dX8_dirtyAt_139 hl (k := 2) rfl (by rw [ex_49]; rfl) (by decide) rfl (fun ls hl => ?_)
                    refine lv_goto (tgt := 38) hx hb dX8_dirtyAt_142 (by decide) ?_
                    exact ih38 x_49 gr y_47 _ _ _ _ (cnt_m (Int32.not_lt.mp c_10) (Int32.not_le.mp c_12) hm38 ex_49)  hd0 hP hD hS (lv_sub hl [0, 3, 1, 4, 5, 6] rfl)
                  · refine lv_dload hx hb dX8_dirtyAt_122 (lv_at hl 0 rfl) ?_
                    refine lv_ldc2d (v := 4636737291354636288) hx hb hown (hts (.constantDouble RX8 102 (4636737291354636288)) (by decide +kernel)) dX8_dirtyAt_124 ?_
                    refine lv_dadd_any hd0 lw_bits hx hb dX8_dirtyAt_127 (fun y_50 d_51 _ hd0 => ?_)
                    have hts := dr_words hts0 (d_51)
                    have hK := gKd hK0 (d_51)
                    have hown : (s.setDrawn (d_51)).vm.findClass RX8 = some m.cls := hown0
                    refine lv_dstore (lv' := [(9, .double y_50), (8, .int i8), (7, .int x_9), (5, .double sm), (3, .double gr), (0, .ref (ad o)), (1, .double p0)]) hx hb dX8_dirtyAt_128 hl (by decide) rfl (fun ls hl => ?_)
                    refine lv_dload hx hb dX8_dirtyAt_130 (lv_at hl 3 rfl) ?_
                    refine lv_dload hx hb dX8_dirtyAt_132 (lv_at hl 0 rfl) ?_
                    refine lv_dload_n hx hb dX8_dirtyAt_134 rfl (lv_at hl 4 rfl) ?_
                    refine lv_ddiv_any hd0 lw_bits hx hb dX8_dirtyAt_135 (fun y_52 d_53 _ hd0 => ?_)
                    have hts := dr_words hts0 (d_53)
                    have hK := gKd hK0 (d_53)
                    have hown : (s.setDrawn (d_53)).vm.findClass RX8 = some m.cls := hown0
                    refine lv_dadd_any hd0 lw_bits hx hb dX8_dirtyAt_136 (fun y_54 d_55 _ hd0 => ?_)
                    have hts := dr_words hts0 (d_55)
                    have hK := gKd hK0 (d_55)
                    have hown : (s.setDrawn (d_55)).vm.findClass RX8 = some m.cls := hown0
                    refine lv_dstore (lv' := [(5, .double y_54), (9, .double y_50), (8, .int i8), (7, .int x_9), (3, .double gr), (0, .ref (ad o)), (1, .double p0)]) hx hb dX8_dirtyAt_137 hl (by decide) rfl (fun ls hl => ?_)
                    obtain ⟨x_56, ex_56⟩ : ∃ zz : Int32, zz = i8 + 1 := ⟨_, rfl⟩
                    refine lv_iinc (v := x_56) (lv' := [(8, .int x_56), (5, .double y_54), (9, .double y_50), (7, .int x_9), (3, .double gr), (0, .ref (ad o)), (1, .double p0)]) hx hb dX8_dirtyAt_139 hl (k := 2) rfl (by rw [ex_56]; rfl) (by decide) rfl (fun ls hl => ?_)
                    refine lv_goto (tgt := 38) hx hb dX8_dirtyAt_142 (by decide) ?_
                    exact ih38 x_56 gr y_54 _ _ _ _ (cnt_m (Int32.not_lt.mp c_10) (Int32.not_le.mp c_12) hm38 ex_56)  hd0 hP hD hS (lv_sub hl [0, 3, 1, 4, 5, 6] rfl)
            · refine lv_dload_n hx hb dX8_dirtyAt_66 rfl (lv_at hl 3 rfl) ?_
              refine lv_dconst1 hx hb dX8_dirtyAt_67 ?_
              refine lv_dload_n hx hb dX8_dirtyAt_68 rfl (lv_at hl 5 rfl) ?_
              refine lv_aload_n hx hb dX8_dirtyAt_69 rfl (lv_at hl 4 rfl) ?_
              refine va_get (D := (dC, dI)) (ci := 7) (v := .ref (ad b_1)) (C := RX8) (T := TX8) (N := 8) hx hb hts hinX8 hown hK hP o (at_7 ho) rfl 0 (by decide) (hts (.fieldLink RX8 7 "BondCalendars$Settle" "bond" "LBondCalendars$Bond;") (by decide +kernel)) (fun _ h9 => h9) (by show some (va_re ad ((σ o).2.2.2 0)) = _; rw [q_3]; rfl) dX8_dirtyAt_70 ?_
              refine va_get (D := (dC, dI)) (ci := 0) (v := .ref (ad (b_1 + 5))) (C := RX0) (T := TX0) (N := 16) hx hb hts hinX0 hown hK hP b_1 (at_0 hb_2) rfl 14 (by decide) (hts (.fieldLink RX8 95 "BondCalendars$Bond" "fractions" "[D") (by decide +kernel)) (fun _ h9 => h9) rfl dX8_dirtyAt_73 ?_
              refine lv_iload hx hb dX8_dirtyAt_76 (lv_at hl 0 rfl) ?_
              refine va_dald hx hb hK hP ((b_1 + 5)) ((b_1 + 5)) (at_28 (kk_0_5 hb_2)) (ty_28 (kk_0_5 hb_2)) (gin (N := 81) (by decide) (Int32.not_lt.mp c_10) (Int32.not_le.mp c_12)) dX8_dirtyAt_78 ?_
              refine lv_topd (fun y_57 _ => ?_)
              refine lv_dmul_any hd0 lw_bits hx hb dX8_dirtyAt_79 (fun y_58 d_59 _ hd0 => ?_)
              have hts := dr_words hts0 (d_59)
              have hK := gKd hK0 (d_59)
              have hown : (s.setDrawn (d_59)).vm.findClass RX8 = some m.cls := hown0
              refine lv_dadd_any hd0 lw_bits hx hb dX8_dirtyAt_80 (fun y_60 d_61 _ hd0 => ?_)
              have hts := dr_words hts0 (d_61)
              have hK := gKd hK0 (d_61)
              have hown : (s.setDrawn (d_61)).vm.findClass RX8 = some m.cls := hown0
              refine lv_dmul_any hd0 lw_bits hx hb dX8_dirtyAt_81 (fun y_62 d_63 _ hd0 => ?_)
              have hts := dr_words hts0 (d_63)
              have hK := gKd hK0 (d_63)
              have hown : (s.setDrawn (d_63)).vm.findClass RX8 = some m.cls := hown0
              refine lv_dstore_n (lv' := [(3, .double y_62), (8, .int i8), (7, .int x_9), (5, .double sm), (0, .ref (ad o)), (1, .double p0)]) hx hb dX8_dirtyAt_82 rfl hl (by decide) rfl (fun ls hl => ?_)
              refine lv_aload_n hx hb dX8_dirtyAt_83 rfl (lv_at hl 4 rfl) ?_
              refine va_get (D := (dC, dI)) (ci := 7) (v := .int ((σ o).1 2)) (C := RX8) (T := TX8) (N := 8) hx hb hts hinX8 hown hK hP o (at_7 ho) rfl 2 (by decide) (hts (.fieldLink RX8 17 "BondCalendars$Settle" "ex" "Z") (by decide +kernel)) (fun _ h9 => h9) rfl dX8_dirtyAt_84 ?_
              refine lv_if_eq (tgt := 103) hx hb dX8_dirtyAt_87 (by decide) (fun c_64 => ?_) (fun c_64 => ?_)
              · refine lv_aload_n hx hb dX8_dirtyAt_103 rfl (lv_at hl 4 rfl) ?_
                refine va_get (D := (dC, dI)) (ci := 7) (v := .ref (ad b_1)) (C := RX8) (T := TX8) (N := 8) hx hb hts hinX8 hown hK hP o (at_7 ho) rfl 0 (by decide) (hts (.fieldLink RX8 7 "BondCalendars$Settle" "bond" "LBondCalendars$Bond;") (by decide +kernel)) (fun _ h9 => h9) (by show some (va_re ad ((σ o).2.2.2 0)) = _; rw [q_3]; rfl) dX8_dirtyAt_104 ?_
                refine va_get (D := (dC, dI)) (ci := 0) (v := .ref (ad (b_1 + 6))) (C := RX0) (T := TX0) (N := 16) hx hb hts hinX0 hown hK hP b_1 (at_0 hb_2) rfl 15 (by decide) (hts (.fieldLink RX8 99 "BondCalendars$Bond" "coupons" "[D") (by decide +kernel)) (fun _ h9 => h9) rfl dX8_dirtyAt_107 ?_
                refine lv_iload hx hb dX8_dirtyAt_110 (lv_at hl 1 rfl) ?_
                refine va_dald hx hb hK hP ((b_1 + 6)) ((b_1 + 6)) (at_28 (kk_0_6 hb_2)) (ty_28 (kk_0_6 hb_2)) (gin (N := 81) (by decide) (Int32.not_lt.mp c_10) (Int32.not_le.mp c_12)) dX8_dirtyAt_112 ?_
                refine lv_topd (fun y_65 _ => ?_)
                refine lv_dstore (lv' := [(9, .double y_65), (3, .double y_62), (8, .int i8), (7, .int x_9), (5, .double sm), (0, .ref (ad o)), (1, .double p0)]) hx hb dX8_dirtyAt_113 hl (by decide) rfl (fun ls hl => ?_)
                refine lv_iload hx hb dX8_dirtyAt_115 (lv_at hl 2 rfl) ?_
                refine lv_iload hx hb dX8_dirtyAt_117 (lv_at hl 3 rfl) ?_
                refine lv_icmp_ne (tgt := 130) hx hb dX8_dirtyAt_119 (by decide) (fun c_66 => ?_) (fun c_66 => ?_)
                · refine lv_dload hx hb dX8_dirtyAt_130 (lv_at hl 4 rfl) ?_
                  refine lv_dload hx hb dX8_dirtyAt_132 (lv_at hl 0 rfl) ?_
                  refine lv_dload_n hx hb dX8_dirtyAt_134 rfl (lv_at hl 1 rfl) ?_
                  refine lv_ddiv_any hd0 lw_bits hx hb dX8_dirtyAt_135 (fun y_67 d_68 _ hd0 => ?_)
                  have hts := dr_words hts0 (d_68)
                  have hK := gKd hK0 (d_68)
                  have hown : (s.setDrawn (d_68)).vm.findClass RX8 = some m.cls := hown0
                  refine lv_dadd_any hd0 lw_bits hx hb dX8_dirtyAt_136 (fun y_69 d_70 _ hd0 => ?_)
                  have hts := dr_words hts0 (d_70)
                  have hK := gKd hK0 (d_70)
                  have hown : (s.setDrawn (d_70)).vm.findClass RX8 = some m.cls := hown0
                  refine lv_dstore (lv' := [(5, .double y_69), (9, .double y_65), (3, .double y_62), (8, .int i8), (7, .int x_9), (0, .ref (ad o)), (1, .double p0)]) hx hb dX8_dirtyAt_137 hl (by decide) rfl (fun ls hl => ?_)
                  obtain ⟨x_71, ex_71⟩ : ∃ zz : Int32, zz = i8 + 1 := ⟨_, rfl⟩
                  refine lv_iinc (v := x_71) (lv' := [(8, .int x_71), (5, .double y_69), (9, .double y_65), (3, .double y_62), (7, .int x_9), (0, .ref (ad o)), (1, .double p0)]) hx hb dX8_dirtyAt_139 hl (k := 3) rfl (by rw [ex_71]; rfl) (by decide) rfl (fun ls hl => ?_)
                  refine lv_goto (tgt := 38) hx hb dX8_dirtyAt_142 (by decide) ?_
                  exact ih38 x_71 y_62 y_69 _ _ _ _ (cnt_m (Int32.not_lt.mp c_10) (Int32.not_le.mp c_12) hm38 ex_71)  hd0 hP hD hS (lv_sub hl [0, 4, 1, 3, 5, 6] rfl)
                · refine lv_dload hx hb dX8_dirtyAt_122 (lv_at hl 0 rfl) ?_
                  refine lv_ldc2d (v := 4636737291354636288) hx hb hown (hts (.constantDouble RX8 102 (4636737291354636288)) (by decide +kernel)) dX8_dirtyAt_124 ?_
                  refine lv_dadd_any hd0 lw_bits hx hb dX8_dirtyAt_127 (fun y_72 d_73 _ hd0 => ?_)
                  have hts := dr_words hts0 (d_73)
                  have hK := gKd hK0 (d_73)
                  have hown : (s.setDrawn (d_73)).vm.findClass RX8 = some m.cls := hown0
                  refine lv_dstore (lv' := [(9, .double y_72), (3, .double y_62), (8, .int i8), (7, .int x_9), (5, .double sm), (0, .ref (ad o)), (1, .double p0)]) hx hb dX8_dirtyAt_128 hl (by decide) rfl (fun ls hl => ?_)
                  refine lv_dload hx hb dX8_dirtyAt_130 (lv_at hl 4 rfl) ?_
                  refine lv_dload hx hb dX8_dirtyAt_132 (lv_at hl 0 rfl) ?_
                  refine lv_dload_n hx hb dX8_dirtyAt_134 rfl (lv_at hl 1 rfl) ?_
                  refine lv_ddiv_any hd0 lw_bits hx hb dX8_dirtyAt_135 (fun y_74 d_75 _ hd0 => ?_)
                  have hts := dr_words hts0 (d_75)
                  have hK := gKd hK0 (d_75)
                  have hown : (s.setDrawn (d_75)).vm.findClass RX8 = some m.cls := hown0
                  refine lv_dadd_any hd0 lw_bits hx hb dX8_dirtyAt_136 (fun y_76 d_77 _ hd0 => ?_)
                  have hts := dr_words hts0 (d_77)
                  have hK := gKd hK0 (d_77)
                  have hown : (s.setDrawn (d_77)).vm.findClass RX8 = some m.cls := hown0
                  refine lv_dstore (lv' := [(5, .double y_76), (9, .double y_72), (3, .double y_62), (8, .int i8), (7, .int x_9), (0, .ref (ad o)), (1, .double p0)]) hx hb dX8_dirtyAt_137 hl (by decide) rfl (fun ls hl => ?_)
                  obtain ⟨x_78, ex_78⟩ : ∃ zz : Int32, zz = i8 + 1 := ⟨_, rfl⟩
                  refine lv_iinc (v := x_78) (lv' := [(8, .int x_78), (5, .double y_76), (9, .double y_72), (3, .double y_62), (7, .int x_9), (0, .ref (ad o)), (1, .double p0)]) hx hb dX8_dirtyAt_139 hl (k := 3) rfl (by rw [ex_78]; rfl) (by decide) rfl (fun ls hl => ?_)
                  refine lv_goto (tgt := 38) hx hb dX8_dirtyAt_142 (by decide) ?_
                  exact ih38 x_78 y_62 y_76 _ _ _ _ (cnt_m (Int32.not_lt.mp c_10) (Int32.not_le.mp c_12) hm38 ex_78)  hd0 hP hD hS (lv_sub hl [0, 4, 1, 3, 5, 6] rfl)
              · refine lv_iload hx hb dX8_dirtyAt_90 (lv_at hl 1 rfl) ?_
                refine lv_aload_n hx hb dX8_dirtyAt_92 rfl (lv_at hl 4 rfl) ?_
                refine va_get (D := (dC, dI)) (ci := 7) (v := .int ((σ o).1 1)) (C := RX8) (T := TX8) (N := 8) hx hb hts hinX8 hown hK hP o (at_7 ho) rfl 1 (by decide) (hts (.fieldLink RX8 13 "BondCalendars$Settle" "current" "I") (by decide +kernel)) (fun _ h9 => h9) rfl dX8_dirtyAt_93 ?_
                refine lv_icmp_ne (tgt := 103) hx hb dX8_dirtyAt_96 (by decide) (fun c_79 => ?_) (fun c_79 => ?_)
                · refine lv_aload_n hx hb dX8_dirtyAt_103 rfl (lv_at hl 4 rfl) ?_
                  refine va_get (D := (dC, dI)) (ci := 7) (v := .ref (ad b_1)) (C := RX8) (T := TX8) (N := 8) hx hb hts hinX8 hown hK hP o (at_7 ho) rfl 0 (by decide) (hts (.fieldLink RX8 7 "BondCalendars$Settle" "bond" "LBondCalendars$Bond;") (by decide +kernel)) (fun _ h9 => h9) (by show some (va_re ad ((σ o).2.2.2 0)) = _; rw [q_3]; rfl) dX8_dirtyAt_104 ?_
                  refine va_get (D := (dC, dI)) (ci := 0) (v := .ref (ad (b_1 + 6))) (C := RX0) (T := TX0) (N := 16) hx hb hts hinX0 hown hK hP b_1 (at_0 hb_2) rfl 15 (by decide) (hts (.fieldLink RX8 99 "BondCalendars$Bond" "coupons" "[D") (by decide +kernel)) (fun _ h9 => h9) rfl dX8_dirtyAt_107 ?_
                  refine lv_iload hx hb dX8_dirtyAt_110 (lv_at hl 1 rfl) ?_
                  refine va_dald hx hb hK hP ((b_1 + 6)) ((b_1 + 6)) (at_28 (kk_0_6 hb_2)) (ty_28 (kk_0_6 hb_2)) (gin (N := 81) (by decide) (Int32.not_lt.mp c_10) (Int32.not_le.mp c_12)) dX8_dirtyAt_112 ?_
                  refine lv_topd (fun y_80 _ => ?_)
                  refine lv_dstore (lv' := [(9, .double y_80), (3, .double y_62), (8, .int i8), (7, .int x_9), (5, .double sm), (0, .ref (ad o)), (1, .double p0)]) hx hb dX8_dirtyAt_113 hl (by decide) rfl (fun ls hl => ?_)
                  refine lv_iload hx hb dX8_dirtyAt_115 (lv_at hl 2 rfl) ?_
                  refine lv_iload hx hb dX8_dirtyAt_117 (lv_at hl 3 rfl) ?_
                  refine lv_icmp_ne (tgt := 130) hx hb dX8_dirtyAt_119 (by decide) (fun c_81 => ?_) (fun c_81 => ?_)
                  · refine lv_dload hx hb dX8_dirtyAt_130 (lv_at hl 4 rfl) ?_
                    refine lv_dload hx hb dX8_dirtyAt_132 (lv_at hl 0 rfl) ?_
                    refine lv_dload_n hx hb dX8_dirtyAt_134 rfl (lv_at hl 1 rfl) ?_
                    refine lv_ddiv_any hd0 lw_bits hx hb dX8_dirtyAt_135 (fun y_82 d_83 _ hd0 => ?_)
                    have hts := dr_words hts0 (d_83)
                    have hK := gKd hK0 (d_83)
                    have hown : (s.setDrawn (d_83)).vm.findClass RX8 = some m.cls := hown0
                    refine lv_dadd_any hd0 lw_bits hx hb dX8_dirtyAt_136 (fun y_84 d_85 _ hd0 => ?_)
                    have hts := dr_words hts0 (d_85)
                    have hK := gKd hK0 (d_85)
                    have hown : (s.setDrawn (d_85)).vm.findClass RX8 = some m.cls := hown0
                    refine lv_dstore (lv' := [(5, .double y_84), (9, .double y_80), (3, .double y_62), (8, .int i8), (7, .int x_9), (0, .ref (ad o)), (1, .double p0)]) hx hb dX8_dirtyAt_137 hl (by decide) rfl (fun ls hl => ?_)
                    obtain ⟨x_86, ex_86⟩ : ∃ zz : Int32, zz = i8 + 1 := ⟨_, rfl⟩
                    refine lv_iinc (v := x_86) (lv' := [(8, .int x_86), (5, .double y_84), (9, .double y_80), (3, .double y_62), (7, .int x_9), (0, .ref (ad o)), (1, .double p0)]) hx hb dX8_dirtyAt_139 hl (k := 3) rfl (by rw [ex_86]; rfl) (by decide) rfl (fun ls hl => ?_)
                    refine lv_goto (tgt := 38) hx hb dX8_dirtyAt_142 (by decide) ?_
                    exact ih38 x_86 y_62 y_84 _ _ _ _ (cnt_m (Int32.not_lt.mp c_10) (Int32.not_le.mp c_12) hm38 ex_86)  hd0 hP hD hS (lv_sub hl [0, 4, 1, 3, 5, 6] rfl)
                  · refine lv_dload hx hb dX8_dirtyAt_122 (lv_at hl 0 rfl) ?_
                    refine lv_ldc2d (v := 4636737291354636288) hx hb hown (hts (.constantDouble RX8 102 (4636737291354636288)) (by decide +kernel)) dX8_dirtyAt_124 ?_
                    refine lv_dadd_any hd0 lw_bits hx hb dX8_dirtyAt_127 (fun y_87 d_88 _ hd0 => ?_)
                    have hts := dr_words hts0 (d_88)
                    have hK := gKd hK0 (d_88)
                    have hown : (s.setDrawn (d_88)).vm.findClass RX8 = some m.cls := hown0
                    refine lv_dstore (lv' := [(9, .double y_87), (3, .double y_62), (8, .int i8), (7, .int x_9), (5, .double sm), (0, .ref (ad o)), (1, .double p0)]) hx hb dX8_dirtyAt_128 hl (by decide) rfl (fun ls hl => ?_)
                    refine lv_dload hx hb dX8_dirtyAt_130 (lv_at hl 4 rfl) ?_
                    refine lv_dload hx hb dX8_dirtyAt_132 (lv_at hl 0 rfl) ?_
                    refine lv_dload_n hx hb dX8_dirtyAt_134 rfl (lv_at hl 1 rfl) ?_
                    refine lv_ddiv_any hd0 lw_bits hx hb dX8_dirtyAt_135 (fun y_89 d_90 _ hd0 => ?_)
                    have hts := dr_words hts0 (d_90)
                    have hK := gKd hK0 (d_90)
                    have hown : (s.setDrawn (d_90)).vm.findClass RX8 = some m.cls := hown0
                    refine lv_dadd_any hd0 lw_bits hx hb dX8_dirtyAt_136 (fun y_91 d_92 _ hd0 => ?_)
                    have hts := dr_words hts0 (d_92)
                    have hK := gKd hK0 (d_92)
                    have hown : (s.setDrawn (d_92)).vm.findClass RX8 = some m.cls := hown0
                    refine lv_dstore (lv' := [(5, .double y_91), (9, .double y_87), (3, .double y_62), (8, .int i8), (7, .int x_9), (0, .ref (ad o)), (1, .double p0)]) hx hb dX8_dirtyAt_137 hl (by decide) rfl (fun ls hl => ?_)
                    obtain ⟨x_93, ex_93⟩ : ∃ zz : Int32, zz = i8 + 1 := ⟨_, rfl⟩
                    refine lv_iinc (v := x_93) (lv' := [(8, .int x_93), (5, .double y_91), (9, .double y_87), (3, .double y_62), (7, .int x_9), (0, .ref (ad o)), (1, .double p0)]) hx hb dX8_dirtyAt_139 hl (k := 3) rfl (by rw [ex_93]; rfl) (by decide) rfl (fun ls hl => ?_)
                    refine lv_goto (tgt := 38) hx hb dX8_dirtyAt_142 (by decide) ?_
                    exact ih38 x_93 y_62 y_91 _ _ _ _ (cnt_m (Int32.not_lt.mp c_10) (Int32.not_le.mp c_12) hm38 ex_93)  hd0 hP hD hS (lv_sub hl [0, 4, 1, 3, 5, 6] rfl)
                · refine lv_dconst0 hx hb dX8_dirtyAt_99 ?_
                  refine lv_goto (tgt := 113) hx hb dX8_dirtyAt_100 (by decide) ?_
                  refine lv_dstore (lv' := [(9, .double 0), (3, .double y_62), (8, .int i8), (7, .int x_9), (5, .double sm), (0, .ref (ad o)), (1, .double p0)]) hx hb dX8_dirtyAt_113 hl (by decide) rfl (fun ls hl => ?_)
                  refine lv_iload hx hb dX8_dirtyAt_115 (lv_at hl 2 rfl) ?_
                  refine lv_iload hx hb dX8_dirtyAt_117 (lv_at hl 3 rfl) ?_
                  refine lv_icmp_ne (tgt := 130) hx hb dX8_dirtyAt_119 (by decide) (fun c_94 => ?_) (fun c_94 => ?_)
                  · refine lv_dload hx hb dX8_dirtyAt_130 (lv_at hl 4 rfl) ?_
                    refine lv_dload hx hb dX8_dirtyAt_132 (lv_at hl 0 rfl) ?_
                    refine lv_dload_n hx hb dX8_dirtyAt_134 rfl (lv_at hl 1 rfl) ?_
                    refine lv_ddiv_any hd0 lw_bits hx hb dX8_dirtyAt_135 (fun y_95 d_96 _ hd0 => ?_)
                    have hts := dr_words hts0 (d_96)
                    have hK := gKd hK0 (d_96)
                    have hown : (s.setDrawn (d_96)).vm.findClass RX8 = some m.cls := hown0
                    refine lv_dadd_any hd0 lw_bits hx hb dX8_dirtyAt_136 (fun y_97 d_98 _ hd0 => ?_)
                    have hts := dr_words hts0 (d_98)
                    have hK := gKd hK0 (d_98)
                    have hown : (s.setDrawn (d_98)).vm.findClass RX8 = some m.cls := hown0
                    refine lv_dstore (lv' := [(5, .double y_97), (9, .double 0), (3, .double y_62), (8, .int i8), (7, .int x_9), (0, .ref (ad o)), (1, .double p0)]) hx hb dX8_dirtyAt_137 hl (by decide) rfl (fun ls hl => ?_)
                    obtain ⟨x_99, ex_99⟩ : ∃ zz : Int32, zz = i8 + 1 := ⟨_, rfl⟩
                    refine lv_iinc (v := x_99) (lv' := [(8, .int x_99), (5, .double y_97), (9, .double 0), (3, .double y_62), (7, .int x_9), (0, .ref (ad o)), (1, .double p0)]) hx hb dX8_dirtyAt_139 hl (k := 3) rfl (by rw [ex_99]; rfl) (by decide) rfl (fun ls hl => ?_)
                    refine lv_goto (tgt := 38) hx hb dX8_dirtyAt_142 (by decide) ?_
                    exact ih38 x_99 y_62 y_97 _ _ _ _ (cnt_m (Int32.not_lt.mp c_10) (Int32.not_le.mp c_12) hm38 ex_99)  hd0 hP hD hS (lv_sub hl [0, 4, 1, 3, 5, 6] rfl)
                  · refine lv_dload hx hb dX8_dirtyAt_122 (lv_at hl 0 rfl) ?_
                    refine lv_ldc2d (v := 4636737291354636288) hx hb hown (hts (.constantDouble RX8 102 (4636737291354636288)) (by decide +kernel)) dX8_dirtyAt_124 ?_
                    refine lv_dadd_any hd0 lw_bits hx hb dX8_dirtyAt_127 (fun y_100 d_101 _ hd0 => ?_)
                    have hts := dr_words hts0 (d_101)
                    have hK := gKd hK0 (d_101)
                    have hown : (s.setDrawn (d_101)).vm.findClass RX8 = some m.cls := hown0
                    refine lv_dstore (lv' := [(9, .double y_100), (3, .double y_62), (8, .int i8), (7, .int x_9), (5, .double sm), (0, .ref (ad o)), (1, .double p0)]) hx hb dX8_dirtyAt_128 hl (by decide) rfl (fun ls hl => ?_)
                    refine lv_dload hx hb dX8_dirtyAt_130 (lv_at hl 4 rfl) ?_
                    refine lv_dload hx hb dX8_dirtyAt_132 (lv_at hl 0 rfl) ?_
                    refine lv_dload_n hx hb dX8_dirtyAt_134 rfl (lv_at hl 1 rfl) ?_
                    refine lv_ddiv_any hd0 lw_bits hx hb dX8_dirtyAt_135 (fun y_102 d_103 _ hd0 => ?_)
                    have hts := dr_words hts0 (d_103)
                    have hK := gKd hK0 (d_103)
                    have hown : (s.setDrawn (d_103)).vm.findClass RX8 = some m.cls := hown0
                    refine lv_dadd_any hd0 lw_bits hx hb dX8_dirtyAt_136 (fun y_104 d_105 _ hd0 => ?_)
                    have hts := dr_words hts0 (d_105)
                    have hK := gKd hK0 (d_105)
                    have hown : (s.setDrawn (d_105)).vm.findClass RX8 = some m.cls := hown0
                    refine lv_dstore (lv' := [(5, .double y_104), (9, .double y_100), (3, .double y_62), (8, .int i8), (7, .int x_9), (0, .ref (ad o)), (1, .double p0)]) hx hb dX8_dirtyAt_137 hl (by decide) rfl (fun ls hl => ?_)
                    obtain ⟨x_106, ex_106⟩ : ∃ zz : Int32, zz = i8 + 1 := ⟨_, rfl⟩
                    refine lv_iinc (v := x_106) (lv' := [(8, .int x_106), (5, .double y_104), (9, .double y_100), (3, .double y_62), (7, .int x_9), (0, .ref (ad o)), (1, .double p0)]) hx hb dX8_dirtyAt_139 hl (k := 3) rfl (by rw [ex_106]; rfl) (by decide) rfl (fun ls hl => ?_)
                    refine lv_goto (tgt := 38) hx hb dX8_dirtyAt_142 (by decide) ?_
                    exact ih38 x_106 y_62 y_104 _ _ _ _ (cnt_m (Int32.not_lt.mp c_10) (Int32.not_le.mp c_12) hm38 ex_106)  hd0 hP hD hS (lv_sub hl [0, 4, 1, 3, 5, 6] rfl)
set_option maxHeartbeats 8000000 in
set_option maxRecDepth 100000 in
theorem n_X8_cleanAt (l : Launch) (dC : Nat → ClassId) (dI : Nat → Nat → Nat) (ad : Nat → Nat) (cA : Nat → ClassId) (adK adV : Nat → Nat) (sz : Nat) (σ : gs) (hI : InvX σ) (o : Nat) (ho : kX o = 7) (p0 : UInt64) : MetD lw_cs l yX8_cleanAt wsX8_cleanAt ({ frames := 1, cells := 0, slots := 0, locals := 30 }) (va_Pc [.ref (ad o), .double p0] (gPre adK adV (dC, dI) (wX ad cA σ) (tX cA) sz)) (va_Qd (fun (r : UInt64) (τ : gs) => InvX τ ∧ σ = τ ∧ (True)) (fun τ t => gPost (dC, dI) (va_A (wX ad cA σ) sz) (wX ad cA τ) t) (va_A (wX ad cA σ) sz)) 0 0 (va_A (wX ad cA σ) sz) := by
  refine MetD.ofW (cc := cX8_cleanAt) (maxL := 3) (ret := (some .double)) (by decide) rfl ?_
  intro p e s m args below meth c s₁ B hml hv hd0
  obtain ⟨rfl, hsz, hP, hK, hD0, hT⟩ := hv
  have hx := B.exec
  have hb := B.bytes
  have hr := B.returns
  have hts0 := atoms_spec (ws := wsX8_cleanAt) B.pre
  have hK0 := hK
  have hown0 : s.vm.findClass RX8 = some m.cls := findClass_of_methodNamed B.named
  have hlocks := B.notSynchronized
  have hinX8 : ∀ w ∈ u_ws RX8 TX8 8, w ∈ wsX8_cleanAt := (fun _ h9 => List.mem_cons_of_mem _ (List.mem_append_left _ (List.mem_append_right _ h9)))
  subst hsz
  have hD := hD0.self (sz := s.heap.size)
  generalize hAe : va_A (wX ad cA σ) s.heap.size = A at hD hT ⊢
  have hA : ∀ q : Nat, s.heap.size ≤ q → A q := fun q h => by rw [← hAe]; exact Or.inr h
  have hS : va_S A s.heap s.heap [] := va_S.rf
  have hl := lv_entry ([.ref (ad o), .double p0]) (n := 3) (Nat.le_of_ble_eq_true rfl)
  rw [lg_entry_eq]
  generalize (lg_sl ([.ref (ad o), .double p0]) ++ List.replicate (3 - (lg_sl ([.ref (ad o), .double p0])).length) Slot.unset).toArray = ls at hl ⊢
  have hl : lv_has ls 3 [(0, .ref (ad o)), (1, .double p0)] := hl
  have hts := dr_words hts0 (s.drawn)
  have hK := gKd hK0 (s.drawn)
  have hown : (s.setDrawn (s.drawn)).vm.findClass RX8 = some m.cls := hown0
  refine lv_aload_n hx hb dX8_cleanAt_0 rfl (lv_at hl 0 rfl) ?_
  refine lv_dload_n hx hb dX8_cleanAt_1 rfl (lv_at hl 1 rfl) ?_
  have hF := gFree hD hS hA
  refine va_calldD hd0 (va_runV_D (As := [.double p0]) (rest := []) ⟨hx, hb, hml, hown, hts⟩ (n_X8_dirtyAt l dC dI ad cA adK adV s.heap.size σ hI o ho p0) (cwV 1 hts gX8_cleanAt_X8_dirtyAt rfl rfl rfl (by decide +kernel) ⟨Nat.le_of_ble_eq_true rfl, Nat.le_of_ble_eq_true rfl⟩) ⟨gBlind, va_recv hK hP (ci := 7) (q0 := o) rfl (at_7 ho), gStart (As := [.ref (ad o), .double p0]) hP hD hK0 hT hS hF (s.drawn)⟩ rfl rfl hl.1 rfl (lv_room (Nat.le_of_ble_eq_true rfl)) dX8_cleanAt_2 ⟨Nat.le_of_ble_eq_true rfl, Nat.le_of_ble_eq_true rfl⟩) hS (fun q _ h => hF q h) hF (fun r_1 σ1 t H locs ht hvm hw hB hz1 hk1 hS d_2 hd0 => ?_)
  have hts := dr_words hts0 (d_2)
  have hK := gKd hK0 (d_2)
  have hown : (s.setDrawn (d_2)).vm.findClass RX8 = some m.cls := hown0
  obtain ⟨hP, hD⟩ := gBack hF ht hB
  obtain ⟨hIσ1, hro, hp_3⟩ := hw
  subst hro
  refine lv_aload_n hx hb dX8_cleanAt_5 rfl (lv_at hl 0 rfl) ?_
  refine va_get (D := (dC, dI)) (ci := 7) (v := .double ((σ o).2.2.1 6)) (C := RX8) (T := TX8) (N := 8) hx hb hts hinX8 hown hK hP o (at_7 ho) rfl 6 (by decide) (hts (.fieldLink RX8 34 "BondCalendars$Settle" "accruedValue" "D") (by decide +kernel)) (fun _ h9 => h9) rfl dX8_cleanAt_6 ?_
  refine lv_dsub_any hd0 lw_bits hx hb dX8_cleanAt_9 (fun y_4 d_5 _ hd0 => ?_)
  have hts := dr_words hts0 (d_5)
  have hK := gKd hK0 (d_5)
  have hown : (s.setDrawn (d_5)).vm.findClass RX8 = some m.cls := hown0
  refine W.endD hd0 ?_
  exact W.dret (v := y_4) hx hb hr (fun t ht hW => ⟨⟨y_4, σ, rfl, ⟨hI, rfl, trivial⟩, ⟨by rw [ht]; exact hP, hD⟩⟩, hS.F ht⟩) hS.2.2 dX8_cleanAt_10
set_option maxHeartbeats 8000000 in
set_option maxRecDepth 100000 in
theorem n_X2_open (l : Launch) (dC : Nat → ClassId) (dI : Nat → Nat → Nat) (ad : Nat → Nat) (cA : Nat → ClassId) (adK adV : Nat → Nat) (sz : Nat) (σ : gs) (hI : InvX σ) (a0 : Nat) (ha0 : kX a0 = 7) (p1 : Int32) : MetD lw_cs l yX2_open wsX2_open ({ frames := 1, cells := 0, slots := 0, locals := 30 }) (va_Pc [.ref (ad 8), .ref (ad a0), .int p1] (gPre adK adV (dC, dI) (wX ad cA σ) (tX cA) sz)) (va_Qi (fun (r : Int32) (τ : gs) => InvX τ ∧ gFr [2] σ τ ∧ (r = 0 ∨ r = 1)) (fun τ t => gPost (dC, dI) (va_A (wX ad cA σ) sz) (wX ad cA τ) t) (va_A (wX ad cA σ) sz)) 0 0 (va_A (wX ad cA σ) sz) := by
  refine MetD.ofW (cc := cX2_open) (maxL := 3) (ret := (some .boolean)) (by decide) rfl ?_
  intro p e s m args below meth c s₁ B hml hv hd0
  obtain ⟨rfl, hsz, hP, hK, hD0, hT⟩ := hv
  have hx := B.exec
  have hb := B.bytes
  have hr := B.returns
  have hts0 := atoms_spec (ws := wsX2_open) B.pre
  have hK0 := hK
  have hown0 : s.vm.findClass RX2 = some m.cls := findClass_of_methodNamed B.named
  have hlocks := B.notSynchronized
  have hinX2 : ∀ w ∈ u_ws RX2 TX2 6, w ∈ wsX2_open := (fun _ h9 => List.mem_cons_of_mem _ (List.mem_append_left _ (List.mem_append_left _ (List.mem_append_right _ h9))))
  have hinX8 : ∀ w ∈ u_ws RX8 TX8 8, w ∈ wsX2_open := (fun _ h9 => List.mem_cons_of_mem _ (List.mem_append_left _ (List.mem_append_right _ h9)))
  subst hsz
  have hD := hD0.self (sz := s.heap.size)
  generalize hAe : va_A (wX ad cA σ) s.heap.size = A at hD hT ⊢
  have hA : ∀ q : Nat, s.heap.size ≤ q → A q := fun q h => by rw [← hAe]; exact Or.inr h
  have hS : va_S A s.heap s.heap [] := va_S.rf
  have hl := lv_entry ([.ref (ad 8), .ref (ad a0), .int p1]) (n := 3) (Nat.le_of_ble_eq_true rfl)
  rw [lg_entry_eq]
  generalize (lg_sl ([.ref (ad 8), .ref (ad a0), .int p1]) ++ List.replicate (3 - (lg_sl ([.ref (ad 8), .ref (ad a0), .int p1])).length) Slot.unset).toArray = ls at hl ⊢
  have hl : lv_has ls 3 [(0, .ref (ad 8)), (1, .ref (ad a0)), (2, .int p1)] := hl
  have hts := dr_words hts0 (s.drawn)
  have hK := gKd hK0 (s.drawn)
  have hown : (s.setDrawn (s.drawn)).vm.findClass RX2 = some m.cls := hown0
  refine lv_aload_n hx hb dX2_open_0 rfl (lv_at hl 0 rfl) ?_
  refine lv_aload_n hx hb dX2_open_1 rfl (lv_at hl 1 rfl) ?_
  refine va_put (D := (dC, dI)) (ci := 2) (v := .ref (ad a0)) (C := RX2) (T := TX2) (N := 6) hx hb hts hinX2 tyX2 tyX2_ok nmX2 hown hK hP hD hS 8 (at_2 rfl) rfl 0 (by decide) (hts (.fieldLink RX2 7 "BondCalendars$Bracket" "at" "LBondCalendars$Settle;") (by decide +kernel)) (fun _ h9 => h9) rfl (ty := (.object "BondCalendars$Settle")) (by decide +kernel) rfl rfl (Nat.le_of_ble_eq_true rfl) dX2_open_2 (fun H locs hP hD hS => ?_)
  obtain ⟨σ1, eσ1, hP, hD⟩ := gPut (se_2_0 rfl) hP hD
  have hIσ1 : InvX σ1 := by rw [eσ1]; exact inv_Q hI (okq_2_0 rfl ha0)
  have frσ1 : gFr [2] σ σ1 := by rw [eσ1]; exact gFr.pQ (gFr.rfl (L := [2]) (σ := σ)) rfl (by decide)
  refine lv_aload_n hx hb dX2_open_5 rfl (lv_at hl 0 rfl) ?_
  refine lv_iload_n hx hb dX2_open_6 rfl (lv_at hl 2 rfl) ?_
  refine lv_i2d hx hb dX2_open_7 ?_
  refine lv_topd (fun y_1 _ => ?_)
  refine lv_ldc2d (v := 4636737291354636288) hx hb hown (hts (.constantDouble RX2 29 (4636737291354636288)) (by decide +kernel)) dX2_open_8 ?_
  refine lv_ddiv_any hd0 lw_bits hx hb dX2_open_11 (fun y_2 d_3 _ hd0 => ?_)
  have hts := dr_words hts0 (d_3)
  have hK := gKd hK0 (d_3)
  have hown : (s.setDrawn (d_3)).vm.findClass RX2 = some m.cls := hown0
  refine lv_aload_n hx hb dX2_open_12 rfl (lv_at hl 1 rfl) ?_
  refine va_get (D := (dC, dI)) (ci := 7) (v := .double ((σ a0).2.2.1 6)) (C := RX8) (T := TX8) (N := 8) hx hb hts hinX8 hown hK hP a0 (at_7 ha0) rfl 6 (by decide) (hts (.fieldLink RX2 31 "BondCalendars$Settle" "accruedValue" "D") (by decide +kernel)) (fun _ h9 => h9) (congrArg (fun z => some (Value.double z)) (show (σ1 a0).2.2.1 6 = ((σ a0).2.2.1 6) from by rw [eσ1, gQ_ne _ _ _ (kne ha0 rfl (by decide))])) dX2_open_13 ?_
  refine lv_dadd_any hd0 lw_bits hx hb dX2_open_16 (fun y_4 d_5 _ hd0 => ?_)
  have hts := dr_words hts0 (d_5)
  have hK := gKd hK0 (d_5)
  have hown : (s.setDrawn (d_5)).vm.findClass RX2 = some m.cls := hown0
  refine va_put (D := (dC, dI)) (ci := 2) (v := .double y_4) (C := RX2) (T := TX2) (N := 6) hx hb hts hinX2 tyX2 tyX2_ok nmX2 hown hK hP hD hS 8 (at_2 rfl) rfl 1 (by decide) (hts (.fieldLink RX2 13 "BondCalendars$Bracket" "target" "D") (by decide +kernel)) (fun _ h9 => h9) rfl (ty := .double) (by decide +kernel) rfl rfl (Nat.le_of_ble_eq_true rfl) dX2_open_17 (fun H locs hP hD hS => ?_)
  obtain ⟨σ2, eσ2, hP, hD⟩ := gPut (se_2_1 rfl) hP hD
  have hIσ2 : InvX σ2 := by rw [eσ2]; exact inv_D hIσ1
  have frσ2 : gFr [2] σ σ2 := by rw [eσ2]; exact gFr.pD frσ1 rfl (by decide)
  refine lv_aload_n hx hb dX2_open_20 rfl (lv_at hl 0 rfl) ?_
  refine lv_ldc2d (v := 13819745816549104026) hx hb hown (hts (.constantDouble RX2 36 (13819745816549104026)) (by decide +kernel)) dX2_open_21 ?_
  refine va_put (D := (dC, dI)) (ci := 2) (v := .double 13819745816549104026) (C := RX2) (T := TX2) (N := 6) hx hb hts hinX2 tyX2 tyX2_ok nmX2 hown hK hP hD hS 8 (at_2 rfl) rfl 2 (by decide) (hts (.fieldLink RX2 17 "BondCalendars$Bracket" "low" "D") (by decide +kernel)) (fun _ h9 => h9) rfl (ty := .double) (by decide +kernel) rfl rfl (Nat.le_of_ble_eq_true rfl) dX2_open_24 (fun H locs hP hD hS => ?_)
  obtain ⟨σ3, eσ3, hP, hD⟩ := gPut (se_2_2 rfl) hP hD
  have hIσ3 : InvX σ3 := by rw [eσ3]; exact inv_D hIσ2
  have frσ3 : gFr [2] σ σ3 := by rw [eσ3]; exact gFr.pD frσ2 rfl (by decide)
  refine lv_aload_n hx hb dX2_open_27 rfl (lv_at hl 0 rfl) ?_
  refine lv_dconst1 hx hb dX2_open_28 ?_
  refine va_put (D := (dC, dI)) (ci := 2) (v := .double 4607182418800017408) (C := RX2) (T := TX2) (N := 6) hx hb hts hinX2 tyX2 tyX2_ok nmX2 hown hK hP hD hS 8 (at_2 rfl) rfl 3 (by decide) (hts (.fieldLink RX2 20 "BondCalendars$Bracket" "high" "D") (by decide +kernel)) (fun _ h9 => h9) rfl (ty := .double) (by decide +kernel) rfl rfl (Nat.le_of_ble_eq_true rfl) dX2_open_29 (fun H locs hP hD hS => ?_)
  obtain ⟨σ4, eσ4, hP, hD⟩ := gPut (se_2_3 rfl) hP hD
  have hIσ4 : InvX σ4 := by rw [eσ4]; exact inv_D hIσ3
  have frσ4 : gFr [2] σ σ4 := by rw [eσ4]; exact gFr.pD frσ3 rfl (by decide)
  refine lv_aload_n hx hb dX2_open_32 rfl (lv_at hl 0 rfl) ?_
  refine lv_aload_n hx hb dX2_open_33 rfl (lv_at hl 1 rfl) ?_
  refine lv_aload_n hx hb dX2_open_34 rfl (lv_at hl 0 rfl) ?_
  refine va_get (D := (dC, dI)) (ci := 2) (v := .double ((σ4 8).2.2.1 2)) (C := RX2) (T := TX2) (N := 6) hx hb hts hinX2 hown hK hP 8 (at_2 rfl) rfl 2 (by decide) (hts (.fieldLink RX2 17 "BondCalendars$Bracket" "low" "D") (by decide +kernel)) (fun _ h9 => h9) rfl dX2_open_35 ?_
  have hF := gFree hD hS hA
  refine va_calldD hd0 (va_runV_D (As := [.double ((σ4 8).2.2.1 2)]) (rest := [.ref (ad 8)]) ⟨hx, hb, hml, hown, hts⟩ (n_X8_dirtyAt l dC dI ad cA adK adV H.size σ4 hIσ4 a0 ha0 ((σ4 8).2.2.1 2)) (cwV 1 hts gX2_open_X8_dirtyAt rfl rfl rfl (by decide +kernel) ⟨Nat.le_of_ble_eq_true rfl, Nat.le_of_ble_eq_true rfl⟩) ⟨gBlind, va_recv hK hP (ci := 7) (q0 := a0) rfl (at_7 ha0), gStart (As := [.ref (ad a0), .double ((σ4 8).2.2.1 2)]) hP hD hK0 hT hS hF (d_5)⟩ rfl rfl hl.1 rfl (lv_room (Nat.le_of_ble_eq_true rfl)) dX2_open_38 ⟨Nat.le_of_ble_eq_true rfl, Nat.le_of_ble_eq_true rfl⟩) hS (fun q _ h => hF q h) hF (fun r_6 σ5 t H locs ht hvm hw hB hz1 hk1 hS d_7 hd0 => ?_)
  have hts := dr_words hts0 (d_7)
  have hK := gKd hK0 (d_7)
  have hown : (s.setDrawn (d_7)).vm.findClass RX2 = some m.cls := hown0
  obtain ⟨hP, hD⟩ := gBack hF ht hB
  obtain ⟨hIσ5, hro, hp_8⟩ := hw
  subst hro
  refine va_put (D := (dC, dI)) (ci := 2) (v := .double r_6) (C := RX2) (T := TX2) (N := 6) hx hb hts hinX2 tyX2 tyX2_ok nmX2 hown hK hP hD hS 8 (at_2 rfl) rfl 4 (by decide) (hts (.fieldLink RX2 23 "BondCalendars$Bracket" "dirtyAtLow" "D") (by decide +kernel)) (fun _ h9 => h9) rfl (ty := .double) (by decide +kernel) rfl rfl (Nat.le_of_ble_eq_true rfl) dX2_open_41 (fun H locs hP hD hS => ?_)
  obtain ⟨σ6, eσ6, hP, hD⟩ := gPut (se_2_4 rfl) hP hD
  have hIσ6 : InvX σ6 := by rw [eσ6]; exact inv_D hIσ4
  have frσ6 : gFr [2] σ σ6 := by rw [eσ6]; exact gFr.pD frσ4 rfl (by decide)
  refine lv_aload_n hx hb dX2_open_44 rfl (lv_at hl 0 rfl) ?_
  refine lv_aload_n hx hb dX2_open_45 rfl (lv_at hl 1 rfl) ?_
  refine lv_aload_n hx hb dX2_open_46 rfl (lv_at hl 0 rfl) ?_
  refine va_get (D := (dC, dI)) (ci := 2) (v := .double ((σ6 8).2.2.1 3)) (C := RX2) (T := TX2) (N := 6) hx hb hts hinX2 hown hK hP 8 (at_2 rfl) rfl 3 (by decide) (hts (.fieldLink RX2 20 "BondCalendars$Bracket" "high" "D") (by decide +kernel)) (fun _ h9 => h9) rfl dX2_open_47 ?_
  have hF := gFree hD hS hA
  refine va_calldD hd0 (va_runV_D (As := [.double ((σ6 8).2.2.1 3)]) (rest := [.ref (ad 8)]) ⟨hx, hb, hml, hown, hts⟩ (n_X8_dirtyAt l dC dI ad cA adK adV H.size σ6 hIσ6 a0 ha0 ((σ6 8).2.2.1 3)) (cwV 1 hts gX2_open_X8_dirtyAt rfl rfl rfl (by decide +kernel) ⟨Nat.le_of_ble_eq_true rfl, Nat.le_of_ble_eq_true rfl⟩) ⟨gBlind, va_recv hK hP (ci := 7) (q0 := a0) rfl (at_7 ha0), gStart (As := [.ref (ad a0), .double ((σ6 8).2.2.1 3)]) hP hD hK0 hT hS hF (d_7)⟩ rfl rfl hl.1 rfl (lv_room (Nat.le_of_ble_eq_true rfl)) dX2_open_50 ⟨Nat.le_of_ble_eq_true rfl, Nat.le_of_ble_eq_true rfl⟩) hS (fun q _ h => hF q h) hF (fun r_9 σ7 t H locs ht hvm hw hB hz1 hk1 hS d_10 hd0 => ?_)
  have hts := dr_words hts0 (d_10)
  have hK := gKd hK0 (d_10)
  have hown : (s.setDrawn (d_10)).vm.findClass RX2 = some m.cls := hown0
  obtain ⟨hP, hD⟩ := gBack hF ht hB
  obtain ⟨hIσ7, hro, hp_11⟩ := hw
  subst hro
  refine va_put (D := (dC, dI)) (ci := 2) (v := .double r_9) (C := RX2) (T := TX2) (N := 6) hx hb hts hinX2 tyX2 tyX2_ok nmX2 hown hK hP hD hS 8 (at_2 rfl) rfl 5 (by decide) (hts (.fieldLink RX2 26 "BondCalendars$Bracket" "dirtyAtHigh" "D") (by decide +kernel)) (fun _ h9 => h9) rfl (ty := .double) (by decide +kernel) rfl rfl (Nat.le_of_ble_eq_true rfl) dX2_open_53 (fun H locs hP hD hS => ?_)
  obtain ⟨σ8, eσ8, hP, hD⟩ := gPut (se_2_5 rfl) hP hD
  have hIσ8 : InvX σ8 := by rw [eσ8]; exact inv_D hIσ6
  have frσ8 : gFr [2] σ σ8 := by rw [eσ8]; exact gFr.pD frσ6 rfl (by decide)
  refine lv_aload_n hx hb dX2_open_56 rfl (lv_at hl 0 rfl) ?_
  refine va_get (D := (dC, dI)) (ci := 2) (v := .double ((σ8 8).2.2.1 4)) (C := RX2) (T := TX2) (N := 6) hx hb hts hinX2 hown hK hP 8 (at_2 rfl) rfl 4 (by decide) (hts (.fieldLink RX2 23 "BondCalendars$Bracket" "dirtyAtLow" "D") (by decide +kernel)) (fun _ h9 => h9) rfl dX2_open_57 ?_
  refine lv_aload_n hx hb dX2_open_60 rfl (lv_at hl 0 rfl) ?_
  refine va_get (D := (dC, dI)) (ci := 2) (v := .double ((σ8 8).2.2.1 1)) (C := RX2) (T := TX2) (N := 6) hx hb hts hinX2 hown hK hP 8 (at_2 rfl) rfl 1 (by decide) (hts (.fieldLink RX2 13 "BondCalendars$Bracket" "target" "D") (by decide +kernel)) (fun _ h9 => h9) rfl dX2_open_61 ?_
  refine lv_dcmp hx hb dX2_open_64 ?_
  refine lv_topi (fun x_12 _ => ?_)
  refine lv_if_lt (tgt := 84) hx hb dX2_open_65 (by decide) (fun c_13 => ?_) (fun c_13 => ?_)
  · refine lv_iconst (v := 0) hx hb dX2_open_84 (by decide) ?_
    refine W.endD hd0 ?_
    exact W.zret (v := 0) hx hb hr (by decide) (fun t ht hW => ⟨⟨0, σ8, rfl, ⟨hIσ8, frσ8, Or.inl rfl⟩, ⟨by rw [ht]; exact hP, hD⟩⟩, hS.F ht⟩) hS.2.2 dX2_open_85
  · refine lv_aload_n hx hb dX2_open_68 rfl (lv_at hl 0 rfl) ?_
    refine va_get (D := (dC, dI)) (ci := 2) (v := .double ((σ8 8).2.2.1 5)) (C := RX2) (T := TX2) (N := 6) hx hb hts hinX2 hown hK hP 8 (at_2 rfl) rfl 5 (by decide) (hts (.fieldLink RX2 26 "BondCalendars$Bracket" "dirtyAtHigh" "D") (by decide +kernel)) (fun _ h9 => h9) rfl dX2_open_69 ?_
    refine lv_aload_n hx hb dX2_open_72 rfl (lv_at hl 0 rfl) ?_
    refine va_get (D := (dC, dI)) (ci := 2) (v := .double ((σ8 8).2.2.1 1)) (C := RX2) (T := TX2) (N := 6) hx hb hts hinX2 hown hK hP 8 (at_2 rfl) rfl 1 (by decide) (hts (.fieldLink RX2 13 "BondCalendars$Bracket" "target" "D") (by decide +kernel)) (fun _ h9 => h9) rfl dX2_open_73 ?_
    refine lv_dcmp hx hb dX2_open_76 ?_
    refine lv_topi (fun x_14 _ => ?_)
    refine lv_if_gt (tgt := 84) hx hb dX2_open_77 (by decide) (fun c_15 => ?_) (fun c_15 => ?_)
    · refine lv_iconst (v := 0) hx hb dX2_open_84 (by decide) ?_
      refine W.endD hd0 ?_
      exact W.zret (v := 0) hx hb hr (by decide) (fun t ht hW => ⟨⟨0, σ8, rfl, ⟨hIσ8, frσ8, Or.inl rfl⟩, ⟨by rw [ht]; exact hP, hD⟩⟩, hS.F ht⟩) hS.2.2 dX2_open_85
    · refine lv_iconst (v := 1) hx hb dX2_open_80 (by decide) ?_
      refine lv_goto (tgt := 85) hx hb dX2_open_81 (by decide) ?_
      refine W.endD hd0 ?_
      exact W.zret (v := 1) hx hb hr (by decide) (fun t ht hW => ⟨⟨1, σ8, rfl, ⟨hIσ8, frσ8, Or.inr rfl⟩, ⟨by rw [ht]; exact hP, hD⟩⟩, hS.F ht⟩) hS.2.2 dX2_open_85
set_option maxHeartbeats 8000000 in
set_option maxRecDepth 100000 in
theorem n_X2_narrow (l : Launch) (dC : Nat → ClassId) (dI : Nat → Nat → Nat) (ad : Nat → Nat) (cA : Nat → ClassId) (adK adV : Nat → Nat) (sz : Nat) (σ : gs) (hI : InvX σ) (p0 : Int32) : MetD lw_cs l yX2_narrow wsX2_narrow ({ frames := 1, cells := 0, slots := 0, locals := 30 }) (va_Pc [.ref (ad 8), .int p0] (gPre adK adV (dC, dI) (wX ad cA σ) (tX cA) sz)) (va_Qv (fun (τ : gs) => InvX τ ∧ gFr [2] σ τ ∧ (True)) (fun τ t => gPost (dC, dI) (va_A (wX ad cA σ) sz) (wX ad cA τ) t) (va_A (wX ad cA σ) sz)) 0 0 (va_A (wX ad cA σ) sz) := by
  refine MetD.ofW (cc := cX2_narrow) (maxL := 6) (ret := none) (by decide) rfl ?_
  intro p e s m args below meth c s₁ B hml hv hd0
  obtain ⟨rfl, hsz, hP, hK, hD0, hT⟩ := hv
  have hx := B.exec
  have hb := B.bytes
  have hr := B.returns
  have hts0 := atoms_spec (ws := wsX2_narrow) B.pre
  have hK0 := hK
  have hown0 : s.vm.findClass RX2 = some m.cls := findClass_of_methodNamed B.named
  have hlocks := B.notSynchronized
  have hinX2 : ∀ w ∈ u_ws RX2 TX2 6, w ∈ wsX2_narrow := (fun _ h9 => List.mem_cons_of_mem _ (List.mem_append_left _ (List.mem_append_left _ (List.mem_append_right _ h9))))
  subst hsz
  have hD := hD0.self (sz := s.heap.size)
  generalize hAe : va_A (wX ad cA σ) s.heap.size = A at hD hT ⊢
  have hA : ∀ q : Nat, s.heap.size ≤ q → A q := fun q h => by rw [← hAe]; exact Or.inr h
  have hS : va_S A s.heap s.heap [] := va_S.rf
  have hl := lv_entry ([.ref (ad 8), .int p0]) (n := 6) (Nat.le_of_ble_eq_true rfl)
  rw [lg_entry_eq]
  generalize (lg_sl ([.ref (ad 8), .int p0]) ++ List.replicate (6 - (lg_sl ([.ref (ad 8), .int p0])).length) Slot.unset).toArray = ls at hl ⊢
  have hl : lv_has ls 6 [(0, .ref (ad 8)), (1, .int p0)] := hl
  have hts := dr_words hts0 (s.drawn)
  have hK := gKd hK0 (s.drawn)
  have hown : (s.setDrawn (s.drawn)).vm.findClass RX2 = some m.cls := hown0
  refine lv_aload_n hx hb dX2_narrow_0 rfl (lv_at hl 0 rfl) ?_
  rcases rq_2_0 (c := 8) hI rfl with q_3 | ⟨b_1, hb_2, q_3⟩
  · refine va_get (D := (dC, dI)) (ci := 2) (v := .null) (C := RX2) (T := TX2) (N := 6) hx hb hts hinX2 hown hK hP 8 (at_2 rfl) rfl 0 (by decide) (hts (.fieldLink RX2 7 "BondCalendars$Bracket" "at" "LBondCalendars$Settle;") (by decide +kernel)) (fun _ h9 => h9) (by show some (va_re ad ((σ 8).2.2.2 0)) = _; rw [q_3]; rfl) dX2_narrow_1 ?_
    refine lv_ifnonnullN hx hb dX2_narrow_4 ?_
    refine W.endD hd0 ?_
    exact W.vret hx hb hr (fun t ht hW => ⟨⟨σ, rfl, ⟨hI, (gFr.rfl (L := [2]) (σ := σ)), trivial⟩, ⟨by rw [ht]; exact hP, hD⟩⟩, hS.F ht⟩) hS.2.2 dX2_narrow_7
  · refine va_get (D := (dC, dI)) (ci := 2) (v := .ref (ad b_1)) (C := RX2) (T := TX2) (N := 6) hx hb hts hinX2 hown hK hP 8 (at_2 rfl) rfl 0 (by decide) (hts (.fieldLink RX2 7 "BondCalendars$Bracket" "at" "LBondCalendars$Settle;") (by decide +kernel)) (fun _ h9 => h9) (by show some (va_re ad ((σ 8).2.2.2 0)) = _; rw [q_3]; rfl) dX2_narrow_1 ?_
    refine lv_ifnonnull (tgt := 8) hx hb dX2_narrow_4 (by decide) ?_
    refine lv_aload_n hx hb dX2_narrow_8 rfl (lv_at hl 0 rfl) ?_
    refine va_get (D := (dC, dI)) (ci := 2) (v := .double ((σ 8).2.2.1 2)) (C := RX2) (T := TX2) (N := 6) hx hb hts hinX2 hown hK hP 8 (at_2 rfl) rfl 2 (by decide) (hts (.fieldLink RX2 17 "BondCalendars$Bracket" "low" "D") (by decide +kernel)) (fun _ h9 => h9) rfl dX2_narrow_9 ?_
    refine lv_aload_n hx hb dX2_narrow_12 rfl (lv_at hl 0 rfl) ?_
    refine va_get (D := (dC, dI)) (ci := 2) (v := .double ((σ 8).2.2.1 3)) (C := RX2) (T := TX2) (N := 6) hx hb hts hinX2 hown hK hP 8 (at_2 rfl) rfl 3 (by decide) (hts (.fieldLink RX2 20 "BondCalendars$Bracket" "high" "D") (by decide +kernel)) (fun _ h9 => h9) rfl dX2_narrow_13 ?_
    refine lv_dadd_any hd0 lw_bits hx hb dX2_narrow_16 (fun y_4 d_5 _ hd0 => ?_)
    have hts := dr_words hts0 (d_5)
    have hK := gKd hK0 (d_5)
    have hown : (s.setDrawn (d_5)).vm.findClass RX2 = some m.cls := hown0
    refine lv_ldc2d (v := 4611686018427387904) hx hb hown (hts (.constantDouble RX2 46 (4611686018427387904)) (by decide +kernel)) dX2_narrow_17 ?_
    refine lv_ddiv_any hd0 lw_bits hx hb dX2_narrow_20 (fun y_6 d_7 _ hd0 => ?_)
    have hts := dr_words hts0 (d_7)
    have hK := gKd hK0 (d_7)
    have hown : (s.setDrawn (d_7)).vm.findClass RX2 = some m.cls := hown0
    refine lv_dstore_n (lv' := [(2, .double y_6), (0, .ref (ad 8)), (1, .int p0)]) hx hb dX2_narrow_21 rfl hl (by decide) rfl (fun ls hl => ?_)
    refine lv_iload_n hx hb dX2_narrow_22 rfl (lv_at hl 2 rfl) ?_
    refine lv_iconst (v := 2) hx hb dX2_narrow_23 (by decide) ?_
    refine lv_irem hx hb dX2_narrow_24 (by decide) ?_
    refine lv_topi (fun x_8 ex_8 => ?_)
    refine lv_if_eq (tgt := 99) hx hb dX2_narrow_25 (by decide) (fun c_9 => ?_) (fun c_9 => ?_)
    · refine lv_aload_n hx hb dX2_narrow_99 rfl (lv_at hl 1 rfl) ?_
      refine va_get (D := (dC, dI)) (ci := 2) (v := .ref (ad b_1)) (C := RX2) (T := TX2) (N := 6) hx hb hts hinX2 hown hK hP 8 (at_2 rfl) rfl 0 (by decide) (hts (.fieldLink RX2 7 "BondCalendars$Bracket" "at" "LBondCalendars$Settle;") (by decide +kernel)) (fun _ h9 => h9) (by show some (va_re ad ((σ 8).2.2.2 0)) = _; rw [q_3]; rfl) dX2_narrow_100 ?_
      refine lv_dload_n hx hb dX2_narrow_103 rfl (lv_at hl 0 rfl) ?_
      have hF := gFree hD hS hA
      refine va_calldD hd0 (va_runV_D (As := [.double y_6]) (rest := []) ⟨hx, hb, hml, hown, hts⟩ (n_X8_dirtyAt l dC dI ad cA adK adV s.heap.size σ hI b_1 hb_2 y_6) (cwV 1 hts gX2_narrow_X8_dirtyAt rfl rfl rfl (by decide +kernel) ⟨Nat.le_of_ble_eq_true rfl, Nat.le_of_ble_eq_true rfl⟩) ⟨gBlind, va_recv hK hP (ci := 7) (q0 := b_1) rfl (at_7 hb_2), gStart (As := [.ref (ad b_1), .double y_6]) hP hD hK0 hT hS hF (d_7)⟩ rfl rfl hl.1 rfl (lv_room (Nat.le_of_ble_eq_true rfl)) dX2_narrow_104 ⟨Nat.le_of_ble_eq_true rfl, Nat.le_of_ble_eq_true rfl⟩) hS (fun q _ h => hF q h) hF (fun r_10 σ1 t H locs ht hvm hw hB hz1 hk1 hS d_11 hd0 => ?_)
      have hts := dr_words hts0 (d_11)
      have hK := gKd hK0 (d_11)
      have hown : (s.setDrawn (d_11)).vm.findClass RX2 = some m.cls := hown0
      obtain ⟨hP, hD⟩ := gBack hF ht hB
      obtain ⟨hIσ1, hro, hp_12⟩ := hw
      subst hro
      refine lv_dstore (lv' := [(4, .double r_10), (2, .double y_6), (0, .ref (ad 8)), (1, .int p0)]) hx hb dX2_narrow_107 hl (by decide) rfl (fun ls hl => ?_)
      refine lv_dload hx hb dX2_narrow_109 (lv_at hl 0 rfl) ?_
      refine lv_aload_n hx hb dX2_narrow_111 rfl (lv_at hl 2 rfl) ?_
      refine va_get (D := (dC, dI)) (ci := 2) (v := .double ((σ 8).2.2.1 1)) (C := RX2) (T := TX2) (N := 6) hx hb hts hinX2 hown hK hP 8 (at_2 rfl) rfl 1 (by decide) (hts (.fieldLink RX2 13 "BondCalendars$Bracket" "target" "D") (by decide +kernel)) (fun _ h9 => h9) rfl dX2_narrow_112 ?_
      refine lv_dcmp hx hb dX2_narrow_115 ?_
      refine lv_topi (fun x_13 _ => ?_)
      refine lv_if_lt (tgt := 133) hx hb dX2_narrow_116 (by decide) (fun c_14 => ?_) (fun c_14 => ?_)
      · refine lv_aload_n hx hb dX2_narrow_133 rfl (lv_at hl 2 rfl) ?_
        refine lv_dload_n hx hb dX2_narrow_134 rfl (lv_at hl 1 rfl) ?_
        refine va_put (D := (dC, dI)) (ci := 2) (v := .double y_6) (C := RX2) (T := TX2) (N := 6) hx hb hts hinX2 tyX2 tyX2_ok nmX2 hown hK hP hD hS 8 (at_2 rfl) rfl 3 (by decide) (hts (.fieldLink RX2 20 "BondCalendars$Bracket" "high" "D") (by decide +kernel)) (fun _ h9 => h9) rfl (ty := .double) (by decide +kernel) rfl rfl (Nat.le_of_ble_eq_true rfl) dX2_narrow_135 (fun H locs hP hD hS => ?_)
        obtain ⟨σ2, eσ2, hP, hD⟩ := gPut (se_2_3 rfl) hP hD
        have hIσ2 : InvX σ2 := by rw [eσ2]; exact inv_D hI
        have frσ2 : gFr [2] σ σ2 := by rw [eσ2]; exact gFr.pD (gFr.rfl (L := [2]) (σ := σ)) rfl (by decide)
        refine lv_aload_n hx hb dX2_narrow_138 rfl (lv_at hl 2 rfl) ?_
        refine lv_dload hx hb dX2_narrow_139 (lv_at hl 0 rfl) ?_
        refine va_put (D := (dC, dI)) (ci := 2) (v := .double r_10) (C := RX2) (T := TX2) (N := 6) hx hb hts hinX2 tyX2 tyX2_ok nmX2 hown hK hP hD hS 8 (at_2 rfl) rfl 5 (by decide) (hts (.fieldLink RX2 26 "BondCalendars$Bracket" "dirtyAtHigh" "D") (by decide +kernel)) (fun _ h9 => h9) rfl (ty := .double) (by decide +kernel) rfl rfl (Nat.le_of_ble_eq_true rfl) dX2_narrow_141 (fun H locs hP hD hS => ?_)
        obtain ⟨σ3, eσ3, hP, hD⟩ := gPut (se_2_5 rfl) hP hD
        have hIσ3 : InvX σ3 := by rw [eσ3]; exact inv_D hIσ2
        have frσ3 : gFr [2] σ σ3 := by rw [eσ3]; exact gFr.pD frσ2 rfl (by decide)
        refine W.endD hd0 ?_
        exact W.vret hx hb hr (fun t ht hW => ⟨⟨σ3, rfl, ⟨hIσ3, frσ3, trivial⟩, ⟨by rw [ht]; exact hP, hD⟩⟩, hS.F ht⟩) hS.2.2 dX2_narrow_144
      · refine lv_aload_n hx hb dX2_narrow_119 rfl (lv_at hl 2 rfl) ?_
        refine lv_dload_n hx hb dX2_narrow_120 rfl (lv_at hl 1 rfl) ?_
        refine va_put (D := (dC, dI)) (ci := 2) (v := .double y_6) (C := RX2) (T := TX2) (N := 6) hx hb hts hinX2 tyX2 tyX2_ok nmX2 hown hK hP hD hS 8 (at_2 rfl) rfl 2 (by decide) (hts (.fieldLink RX2 17 "BondCalendars$Bracket" "low" "D") (by decide +kernel)) (fun _ h9 => h9) rfl (ty := .double) (by decide +kernel) rfl rfl (Nat.le_of_ble_eq_true rfl) dX2_narrow_121 (fun H locs hP hD hS => ?_)
        obtain ⟨σ4, eσ4, hP, hD⟩ := gPut (se_2_2 rfl) hP hD
        have hIσ4 : InvX σ4 := by rw [eσ4]; exact inv_D hI
        have frσ4 : gFr [2] σ σ4 := by rw [eσ4]; exact gFr.pD (gFr.rfl (L := [2]) (σ := σ)) rfl (by decide)
        refine lv_aload_n hx hb dX2_narrow_124 rfl (lv_at hl 2 rfl) ?_
        refine lv_dload hx hb dX2_narrow_125 (lv_at hl 0 rfl) ?_
        refine va_put (D := (dC, dI)) (ci := 2) (v := .double r_10) (C := RX2) (T := TX2) (N := 6) hx hb hts hinX2 tyX2 tyX2_ok nmX2 hown hK hP hD hS 8 (at_2 rfl) rfl 4 (by decide) (hts (.fieldLink RX2 23 "BondCalendars$Bracket" "dirtyAtLow" "D") (by decide +kernel)) (fun _ h9 => h9) rfl (ty := .double) (by decide +kernel) rfl rfl (Nat.le_of_ble_eq_true rfl) dX2_narrow_127 (fun H locs hP hD hS => ?_)
        obtain ⟨σ5, eσ5, hP, hD⟩ := gPut (se_2_4 rfl) hP hD
        have hIσ5 : InvX σ5 := by rw [eσ5]; exact inv_D hIσ4
        have frσ5 : gFr [2] σ σ5 := by rw [eσ5]; exact gFr.pD frσ4 rfl (by decide)
        refine lv_goto (tgt := 144) hx hb dX2_narrow_130 (by decide) ?_
        refine W.endD hd0 ?_
        exact W.vret hx hb hr (fun t ht hW => ⟨⟨σ5, rfl, ⟨hIσ5, frσ5, trivial⟩, ⟨by rw [ht]; exact hP, hD⟩⟩, hS.F ht⟩) hS.2.2 dX2_narrow_144
    · refine lv_aload_n hx hb dX2_narrow_28 rfl (lv_at hl 1 rfl) ?_
      refine va_get (D := (dC, dI)) (ci := 2) (v := .double ((σ 8).2.2.1 4)) (C := RX2) (T := TX2) (N := 6) hx hb hts hinX2 hown hK hP 8 (at_2 rfl) rfl 4 (by decide) (hts (.fieldLink RX2 23 "BondCalendars$Bracket" "dirtyAtLow" "D") (by decide +kernel)) (fun _ h9 => h9) rfl dX2_narrow_29 ?_
      refine lv_aload_n hx hb dX2_narrow_32 rfl (lv_at hl 1 rfl) ?_
      refine va_get (D := (dC, dI)) (ci := 2) (v := .double ((σ 8).2.2.1 5)) (C := RX2) (T := TX2) (N := 6) hx hb hts hinX2 hown hK hP 8 (at_2 rfl) rfl 5 (by decide) (hts (.fieldLink RX2 26 "BondCalendars$Bracket" "dirtyAtHigh" "D") (by decide +kernel)) (fun _ h9 => h9) rfl dX2_narrow_33 ?_
      refine lv_dcmp hx hb dX2_narrow_36 ?_
      refine lv_topi (fun x_15 _ => ?_)
      refine lv_if_le (tgt := 99) hx hb dX2_narrow_37 (by decide) (fun c_16 => ?_) (fun c_16 => ?_)
      · refine lv_aload_n hx hb dX2_narrow_99 rfl (lv_at hl 1 rfl) ?_
        refine va_get (D := (dC, dI)) (ci := 2) (v := .ref (ad b_1)) (C := RX2) (T := TX2) (N := 6) hx hb hts hinX2 hown hK hP 8 (at_2 rfl) rfl 0 (by decide) (hts (.fieldLink RX2 7 "BondCalendars$Bracket" "at" "LBondCalendars$Settle;") (by decide +kernel)) (fun _ h9 => h9) (by show some (va_re ad ((σ 8).2.2.2 0)) = _; rw [q_3]; rfl) dX2_narrow_100 ?_
        refine lv_dload_n hx hb dX2_narrow_103 rfl (lv_at hl 0 rfl) ?_
        have hF := gFree hD hS hA
        refine va_calldD hd0 (va_runV_D (As := [.double y_6]) (rest := []) ⟨hx, hb, hml, hown, hts⟩ (n_X8_dirtyAt l dC dI ad cA adK adV s.heap.size σ hI b_1 hb_2 y_6) (cwV 1 hts gX2_narrow_X8_dirtyAt rfl rfl rfl (by decide +kernel) ⟨Nat.le_of_ble_eq_true rfl, Nat.le_of_ble_eq_true rfl⟩) ⟨gBlind, va_recv hK hP (ci := 7) (q0 := b_1) rfl (at_7 hb_2), gStart (As := [.ref (ad b_1), .double y_6]) hP hD hK0 hT hS hF (d_7)⟩ rfl rfl hl.1 rfl (lv_room (Nat.le_of_ble_eq_true rfl)) dX2_narrow_104 ⟨Nat.le_of_ble_eq_true rfl, Nat.le_of_ble_eq_true rfl⟩) hS (fun q _ h => hF q h) hF (fun r_17 σ6 t H locs ht hvm hw hB hz1 hk1 hS d_18 hd0 => ?_)
        have hts := dr_words hts0 (d_18)
        have hK := gKd hK0 (d_18)
        have hown : (s.setDrawn (d_18)).vm.findClass RX2 = some m.cls := hown0
        obtain ⟨hP, hD⟩ := gBack hF ht hB
        obtain ⟨hIσ6, hro, hp_19⟩ := hw
        subst hro
        refine lv_dstore (lv' := [(4, .double r_17), (2, .double y_6), (0, .ref (ad 8)), (1, .int p0)]) hx hb dX2_narrow_107 hl (by decide) rfl (fun ls hl => ?_)
        refine lv_dload hx hb dX2_narrow_109 (lv_at hl 0 rfl) ?_
        refine lv_aload_n hx hb dX2_narrow_111 rfl (lv_at hl 2 rfl) ?_
        refine va_get (D := (dC, dI)) (ci := 2) (v := .double ((σ 8).2.2.1 1)) (C := RX2) (T := TX2) (N := 6) hx hb hts hinX2 hown hK hP 8 (at_2 rfl) rfl 1 (by decide) (hts (.fieldLink RX2 13 "BondCalendars$Bracket" "target" "D") (by decide +kernel)) (fun _ h9 => h9) rfl dX2_narrow_112 ?_
        refine lv_dcmp hx hb dX2_narrow_115 ?_
        refine lv_topi (fun x_20 _ => ?_)
        refine lv_if_lt (tgt := 133) hx hb dX2_narrow_116 (by decide) (fun c_21 => ?_) (fun c_21 => ?_)
        · refine lv_aload_n hx hb dX2_narrow_133 rfl (lv_at hl 2 rfl) ?_
          refine lv_dload_n hx hb dX2_narrow_134 rfl (lv_at hl 1 rfl) ?_
          refine va_put (D := (dC, dI)) (ci := 2) (v := .double y_6) (C := RX2) (T := TX2) (N := 6) hx hb hts hinX2 tyX2 tyX2_ok nmX2 hown hK hP hD hS 8 (at_2 rfl) rfl 3 (by decide) (hts (.fieldLink RX2 20 "BondCalendars$Bracket" "high" "D") (by decide +kernel)) (fun _ h9 => h9) rfl (ty := .double) (by decide +kernel) rfl rfl (Nat.le_of_ble_eq_true rfl) dX2_narrow_135 (fun H locs hP hD hS => ?_)
          obtain ⟨σ7, eσ7, hP, hD⟩ := gPut (se_2_3 rfl) hP hD
          have hIσ7 : InvX σ7 := by rw [eσ7]; exact inv_D hI
          have frσ7 : gFr [2] σ σ7 := by rw [eσ7]; exact gFr.pD (gFr.rfl (L := [2]) (σ := σ)) rfl (by decide)
          refine lv_aload_n hx hb dX2_narrow_138 rfl (lv_at hl 2 rfl) ?_
          refine lv_dload hx hb dX2_narrow_139 (lv_at hl 0 rfl) ?_
          refine va_put (D := (dC, dI)) (ci := 2) (v := .double r_17) (C := RX2) (T := TX2) (N := 6) hx hb hts hinX2 tyX2 tyX2_ok nmX2 hown hK hP hD hS 8 (at_2 rfl) rfl 5 (by decide) (hts (.fieldLink RX2 26 "BondCalendars$Bracket" "dirtyAtHigh" "D") (by decide +kernel)) (fun _ h9 => h9) rfl (ty := .double) (by decide +kernel) rfl rfl (Nat.le_of_ble_eq_true rfl) dX2_narrow_141 (fun H locs hP hD hS => ?_)
          obtain ⟨σ8, eσ8, hP, hD⟩ := gPut (se_2_5 rfl) hP hD
          have hIσ8 : InvX σ8 := by rw [eσ8]; exact inv_D hIσ7
          have frσ8 : gFr [2] σ σ8 := by rw [eσ8]; exact gFr.pD frσ7 rfl (by decide)
          refine W.endD hd0 ?_
          exact W.vret hx hb hr (fun t ht hW => ⟨⟨σ8, rfl, ⟨hIσ8, frσ8, trivial⟩, ⟨by rw [ht]; exact hP, hD⟩⟩, hS.F ht⟩) hS.2.2 dX2_narrow_144
        · refine lv_aload_n hx hb dX2_narrow_119 rfl (lv_at hl 2 rfl) ?_
          refine lv_dload_n hx hb dX2_narrow_120 rfl (lv_at hl 1 rfl) ?_
          refine va_put (D := (dC, dI)) (ci := 2) (v := .double y_6) (C := RX2) (T := TX2) (N := 6) hx hb hts hinX2 tyX2 tyX2_ok nmX2 hown hK hP hD hS 8 (at_2 rfl) rfl 2 (by decide) (hts (.fieldLink RX2 17 "BondCalendars$Bracket" "low" "D") (by decide +kernel)) (fun _ h9 => h9) rfl (ty := .double) (by decide +kernel) rfl rfl (Nat.le_of_ble_eq_true rfl) dX2_narrow_121 (fun H locs hP hD hS => ?_)
          obtain ⟨σ9, eσ9, hP, hD⟩ := gPut (se_2_2 rfl) hP hD
          have hIσ9 : InvX σ9 := by rw [eσ9]; exact inv_D hI
          have frσ9 : gFr [2] σ σ9 := by rw [eσ9]; exact gFr.pD (gFr.rfl (L := [2]) (σ := σ)) rfl (by decide)
          refine lv_aload_n hx hb dX2_narrow_124 rfl (lv_at hl 2 rfl) ?_
          refine lv_dload hx hb dX2_narrow_125 (lv_at hl 0 rfl) ?_
          refine va_put (D := (dC, dI)) (ci := 2) (v := .double r_17) (C := RX2) (T := TX2) (N := 6) hx hb hts hinX2 tyX2 tyX2_ok nmX2 hown hK hP hD hS 8 (at_2 rfl) rfl 4 (by decide) (hts (.fieldLink RX2 23 "BondCalendars$Bracket" "dirtyAtLow" "D") (by decide +kernel)) (fun _ h9 => h9) rfl (ty := .double) (by decide +kernel) rfl rfl (Nat.le_of_ble_eq_true rfl) dX2_narrow_127 (fun H locs hP hD hS => ?_)
          obtain ⟨σ10, eσ10, hP, hD⟩ := gPut (se_2_4 rfl) hP hD
          have hIσ10 : InvX σ10 := by rw [eσ10]; exact inv_D hIσ9
          have frσ10 : gFr [2] σ σ10 := by rw [eσ10]; exact gFr.pD frσ9 rfl (by decide)
          refine lv_goto (tgt := 144) hx hb dX2_narrow_130 (by decide) ?_
          refine W.endD hd0 ?_
          exact W.vret hx hb hr (fun t ht hW => ⟨⟨σ10, rfl, ⟨hIσ10, frσ10, trivial⟩, ⟨by rw [ht]; exact hP, hD⟩⟩, hS.F ht⟩) hS.2.2 dX2_narrow_144
      · refine lv_aload_n hx hb dX2_narrow_40 rfl (lv_at hl 1 rfl) ?_
        refine va_get (D := (dC, dI)) (ci := 2) (v := .double ((σ 8).2.2.1 2)) (C := RX2) (T := TX2) (N := 6) hx hb hts hinX2 hown hK hP 8 (at_2 rfl) rfl 2 (by decide) (hts (.fieldLink RX2 17 "BondCalendars$Bracket" "low" "D") (by decide +kernel)) (fun _ h9 => h9) rfl dX2_narrow_41 ?_
        refine lv_aload_n hx hb dX2_narrow_44 rfl (lv_at hl 1 rfl) ?_
        refine va_get (D := (dC, dI)) (ci := 2) (v := .double ((σ 8).2.2.1 3)) (C := RX2) (T := TX2) (N := 6) hx hb hts hinX2 hown hK hP 8 (at_2 rfl) rfl 3 (by decide) (hts (.fieldLink RX2 20 "BondCalendars$Bracket" "high" "D") (by decide +kernel)) (fun _ h9 => h9) rfl dX2_narrow_45 ?_
        refine lv_aload_n hx hb dX2_narrow_48 rfl (lv_at hl 1 rfl) ?_
        refine va_get (D := (dC, dI)) (ci := 2) (v := .double ((σ 8).2.2.1 2)) (C := RX2) (T := TX2) (N := 6) hx hb hts hinX2 hown hK hP 8 (at_2 rfl) rfl 2 (by decide) (hts (.fieldLink RX2 17 "BondCalendars$Bracket" "low" "D") (by decide +kernel)) (fun _ h9 => h9) rfl dX2_narrow_49 ?_
        refine lv_dsub_any hd0 lw_bits hx hb dX2_narrow_52 (fun y_22 d_23 _ hd0 => ?_)
        have hts := dr_words hts0 (d_23)
        have hK := gKd hK0 (d_23)
        have hown : (s.setDrawn (d_23)).vm.findClass RX2 = some m.cls := hown0
        refine lv_aload_n hx hb dX2_narrow_53 rfl (lv_at hl 1 rfl) ?_
        refine va_get (D := (dC, dI)) (ci := 2) (v := .double ((σ 8).2.2.1 4)) (C := RX2) (T := TX2) (N := 6) hx hb hts hinX2 hown hK hP 8 (at_2 rfl) rfl 4 (by decide) (hts (.fieldLink RX2 23 "BondCalendars$Bracket" "dirtyAtLow" "D") (by decide +kernel)) (fun _ h9 => h9) rfl dX2_narrow_54 ?_
        refine lv_aload_n hx hb dX2_narrow_57 rfl (lv_at hl 1 rfl) ?_
        refine va_get (D := (dC, dI)) (ci := 2) (v := .double ((σ 8).2.2.1 1)) (C := RX2) (T := TX2) (N := 6) hx hb hts hinX2 hown hK hP 8 (at_2 rfl) rfl 1 (by decide) (hts (.fieldLink RX2 13 "BondCalendars$Bracket" "target" "D") (by decide +kernel)) (fun _ h9 => h9) rfl dX2_narrow_58 ?_
        refine lv_dsub_any hd0 lw_bits hx hb dX2_narrow_61 (fun y_24 d_25 _ hd0 => ?_)
        have hts := dr_words hts0 (d_25)
        have hK := gKd hK0 (d_25)
        have hown : (s.setDrawn (d_25)).vm.findClass RX2 = some m.cls := hown0
        refine lv_aload_n hx hb dX2_narrow_62 rfl (lv_at hl 1 rfl) ?_
        refine va_get (D := (dC, dI)) (ci := 2) (v := .double ((σ 8).2.2.1 4)) (C := RX2) (T := TX2) (N := 6) hx hb hts hinX2 hown hK hP 8 (at_2 rfl) rfl 4 (by decide) (hts (.fieldLink RX2 23 "BondCalendars$Bracket" "dirtyAtLow" "D") (by decide +kernel)) (fun _ h9 => h9) rfl dX2_narrow_63 ?_
        refine lv_aload_n hx hb dX2_narrow_66 rfl (lv_at hl 1 rfl) ?_
        refine va_get (D := (dC, dI)) (ci := 2) (v := .double ((σ 8).2.2.1 5)) (C := RX2) (T := TX2) (N := 6) hx hb hts hinX2 hown hK hP 8 (at_2 rfl) rfl 5 (by decide) (hts (.fieldLink RX2 26 "BondCalendars$Bracket" "dirtyAtHigh" "D") (by decide +kernel)) (fun _ h9 => h9) rfl dX2_narrow_67 ?_
        refine lv_dsub_any hd0 lw_bits hx hb dX2_narrow_70 (fun y_26 d_27 _ hd0 => ?_)
        have hts := dr_words hts0 (d_27)
        have hK := gKd hK0 (d_27)
        have hown : (s.setDrawn (d_27)).vm.findClass RX2 = some m.cls := hown0
        refine lv_ddiv_any hd0 lw_bits hx hb dX2_narrow_71 (fun y_28 d_29 _ hd0 => ?_)
        have hts := dr_words hts0 (d_29)
        have hK := gKd hK0 (d_29)
        have hown : (s.setDrawn (d_29)).vm.findClass RX2 = some m.cls := hown0
        refine lv_dmul_any hd0 lw_bits hx hb dX2_narrow_72 (fun y_30 d_31 _ hd0 => ?_)
        have hts := dr_words hts0 (d_31)
        have hK := gKd hK0 (d_31)
        have hown : (s.setDrawn (d_31)).vm.findClass RX2 = some m.cls := hown0
        refine lv_dadd_any hd0 lw_bits hx hb dX2_narrow_73 (fun y_32 d_33 _ hd0 => ?_)
        have hts := dr_words hts0 (d_33)
        have hK := gKd hK0 (d_33)
        have hown : (s.setDrawn (d_33)).vm.findClass RX2 = some m.cls := hown0
        refine lv_dstore (lv' := [(4, .double y_32), (2, .double y_6), (0, .ref (ad 8)), (1, .int p0)]) hx hb dX2_narrow_74 hl (by decide) rfl (fun ls hl => ?_)
        refine lv_dload hx hb dX2_narrow_76 (lv_at hl 0 rfl) ?_
        refine lv_aload_n hx hb dX2_narrow_78 rfl (lv_at hl 2 rfl) ?_
        refine va_get (D := (dC, dI)) (ci := 2) (v := .double ((σ 8).2.2.1 2)) (C := RX2) (T := TX2) (N := 6) hx hb hts hinX2 hown hK hP 8 (at_2 rfl) rfl 2 (by decide) (hts (.fieldLink RX2 17 "BondCalendars$Bracket" "low" "D") (by decide +kernel)) (fun _ h9 => h9) rfl dX2_narrow_79 ?_
        refine lv_dcmp hx hb dX2_narrow_82 ?_
        refine lv_topi (fun x_34 _ => ?_)
        refine lv_if_le (tgt := 99) hx hb dX2_narrow_83 (by decide) (fun c_35 => ?_) (fun c_35 => ?_)
        · refine lv_aload_n hx hb dX2_narrow_99 rfl (lv_at hl 2 rfl) ?_
          refine va_get (D := (dC, dI)) (ci := 2) (v := .ref (ad b_1)) (C := RX2) (T := TX2) (N := 6) hx hb hts hinX2 hown hK hP 8 (at_2 rfl) rfl 0 (by decide) (hts (.fieldLink RX2 7 "BondCalendars$Bracket" "at" "LBondCalendars$Settle;") (by decide +kernel)) (fun _ h9 => h9) (by show some (va_re ad ((σ 8).2.2.2 0)) = _; rw [q_3]; rfl) dX2_narrow_100 ?_
          refine lv_dload_n hx hb dX2_narrow_103 rfl (lv_at hl 1 rfl) ?_
          have hF := gFree hD hS hA
          refine va_calldD hd0 (va_runV_D (As := [.double y_6]) (rest := []) ⟨hx, hb, hml, hown, hts⟩ (n_X8_dirtyAt l dC dI ad cA adK adV s.heap.size σ hI b_1 hb_2 y_6) (cwV 1 hts gX2_narrow_X8_dirtyAt rfl rfl rfl (by decide +kernel) ⟨Nat.le_of_ble_eq_true rfl, Nat.le_of_ble_eq_true rfl⟩) ⟨gBlind, va_recv hK hP (ci := 7) (q0 := b_1) rfl (at_7 hb_2), gStart (As := [.ref (ad b_1), .double y_6]) hP hD hK0 hT hS hF (d_33)⟩ rfl rfl hl.1 rfl (lv_room (Nat.le_of_ble_eq_true rfl)) dX2_narrow_104 ⟨Nat.le_of_ble_eq_true rfl, Nat.le_of_ble_eq_true rfl⟩) hS (fun q _ h => hF q h) hF (fun r_36 σ11 t H locs ht hvm hw hB hz1 hk1 hS d_37 hd0 => ?_)
          have hts := dr_words hts0 (d_37)
          have hK := gKd hK0 (d_37)
          have hown : (s.setDrawn (d_37)).vm.findClass RX2 = some m.cls := hown0
          obtain ⟨hP, hD⟩ := gBack hF ht hB
          obtain ⟨hIσ11, hro, hp_38⟩ := hw
          subst hro
          refine lv_dstore (lv' := [(4, .double r_36), (2, .double y_6), (0, .ref (ad 8)), (1, .int p0)]) hx hb dX2_narrow_107 hl (by decide) rfl (fun ls hl => ?_)
          refine lv_dload hx hb dX2_narrow_109 (lv_at hl 0 rfl) ?_
          refine lv_aload_n hx hb dX2_narrow_111 rfl (lv_at hl 2 rfl) ?_
          refine va_get (D := (dC, dI)) (ci := 2) (v := .double ((σ 8).2.2.1 1)) (C := RX2) (T := TX2) (N := 6) hx hb hts hinX2 hown hK hP 8 (at_2 rfl) rfl 1 (by decide) (hts (.fieldLink RX2 13 "BondCalendars$Bracket" "target" "D") (by decide +kernel)) (fun _ h9 => h9) rfl dX2_narrow_112 ?_
          refine lv_dcmp hx hb dX2_narrow_115 ?_
          refine lv_topi (fun x_39 _ => ?_)
          refine lv_if_lt (tgt := 133) hx hb dX2_narrow_116 (by decide) (fun c_40 => ?_) (fun c_40 => ?_)
          · refine lv_aload_n hx hb dX2_narrow_133 rfl (lv_at hl 2 rfl) ?_
            refine lv_dload_n hx hb dX2_narrow_134 rfl (lv_at hl 1 rfl) ?_
            refine va_put (D := (dC, dI)) (ci := 2) (v := .double y_6) (C := RX2) (T := TX2) (N := 6) hx hb hts hinX2 tyX2 tyX2_ok nmX2 hown hK hP hD hS 8 (at_2 rfl) rfl 3 (by decide) (hts (.fieldLink RX2 20 "BondCalendars$Bracket" "high" "D") (by decide +kernel)) (fun _ h9 => h9) rfl (ty := .double) (by decide +kernel) rfl rfl (Nat.le_of_ble_eq_true rfl) dX2_narrow_135 (fun H locs hP hD hS => ?_)
            obtain ⟨σ12, eσ12, hP, hD⟩ := gPut (se_2_3 rfl) hP hD
            have hIσ12 : InvX σ12 := by rw [eσ12]; exact inv_D hI
            have frσ12 : gFr [2] σ σ12 := by rw [eσ12]; exact gFr.pD (gFr.rfl (L := [2]) (σ := σ)) rfl (by decide)
            refine lv_aload_n hx hb dX2_narrow_138 rfl (lv_at hl 2 rfl) ?_
            refine lv_dload hx hb dX2_narrow_139 (lv_at hl 0 rfl) ?_
            refine va_put (D := (dC, dI)) (ci := 2) (v := .double r_36) (C := RX2) (T := TX2) (N := 6) hx hb hts hinX2 tyX2 tyX2_ok nmX2 hown hK hP hD hS 8 (at_2 rfl) rfl 5 (by decide) (hts (.fieldLink RX2 26 "BondCalendars$Bracket" "dirtyAtHigh" "D") (by decide +kernel)) (fun _ h9 => h9) rfl (ty := .double) (by decide +kernel) rfl rfl (Nat.le_of_ble_eq_true rfl) dX2_narrow_141 (fun H locs hP hD hS => ?_)
            obtain ⟨σ13, eσ13, hP, hD⟩ := gPut (se_2_5 rfl) hP hD
            have hIσ13 : InvX σ13 := by rw [eσ13]; exact inv_D hIσ12
            have frσ13 : gFr [2] σ σ13 := by rw [eσ13]; exact gFr.pD frσ12 rfl (by decide)
            refine W.endD hd0 ?_
            exact W.vret hx hb hr (fun t ht hW => ⟨⟨σ13, rfl, ⟨hIσ13, frσ13, trivial⟩, ⟨by rw [ht]; exact hP, hD⟩⟩, hS.F ht⟩) hS.2.2 dX2_narrow_144
          · refine lv_aload_n hx hb dX2_narrow_119 rfl (lv_at hl 2 rfl) ?_
            refine lv_dload_n hx hb dX2_narrow_120 rfl (lv_at hl 1 rfl) ?_
            refine va_put (D := (dC, dI)) (ci := 2) (v := .double y_6) (C := RX2) (T := TX2) (N := 6) hx hb hts hinX2 tyX2 tyX2_ok nmX2 hown hK hP hD hS 8 (at_2 rfl) rfl 2 (by decide) (hts (.fieldLink RX2 17 "BondCalendars$Bracket" "low" "D") (by decide +kernel)) (fun _ h9 => h9) rfl (ty := .double) (by decide +kernel) rfl rfl (Nat.le_of_ble_eq_true rfl) dX2_narrow_121 (fun H locs hP hD hS => ?_)
            obtain ⟨σ14, eσ14, hP, hD⟩ := gPut (se_2_2 rfl) hP hD
            have hIσ14 : InvX σ14 := by rw [eσ14]; exact inv_D hI
            have frσ14 : gFr [2] σ σ14 := by rw [eσ14]; exact gFr.pD (gFr.rfl (L := [2]) (σ := σ)) rfl (by decide)
            refine lv_aload_n hx hb dX2_narrow_124 rfl (lv_at hl 2 rfl) ?_
            refine lv_dload hx hb dX2_narrow_125 (lv_at hl 0 rfl) ?_
            refine va_put (D := (dC, dI)) (ci := 2) (v := .double r_36) (C := RX2) (T := TX2) (N := 6) hx hb hts hinX2 tyX2 tyX2_ok nmX2 hown hK hP hD hS 8 (at_2 rfl) rfl 4 (by decide) (hts (.fieldLink RX2 23 "BondCalendars$Bracket" "dirtyAtLow" "D") (by decide +kernel)) (fun _ h9 => h9) rfl (ty := .double) (by decide +kernel) rfl rfl (Nat.le_of_ble_eq_true rfl) dX2_narrow_127 (fun H locs hP hD hS => ?_)
            obtain ⟨σ15, eσ15, hP, hD⟩ := gPut (se_2_4 rfl) hP hD
            have hIσ15 : InvX σ15 := by rw [eσ15]; exact inv_D hIσ14
            have frσ15 : gFr [2] σ σ15 := by rw [eσ15]; exact gFr.pD frσ14 rfl (by decide)
            refine lv_goto (tgt := 144) hx hb dX2_narrow_130 (by decide) ?_
            refine W.endD hd0 ?_
            exact W.vret hx hb hr (fun t ht hW => ⟨⟨σ15, rfl, ⟨hIσ15, frσ15, trivial⟩, ⟨by rw [ht]; exact hP, hD⟩⟩, hS.F ht⟩) hS.2.2 dX2_narrow_144
        · refine lv_dload hx hb dX2_narrow_86 (lv_at hl 0 rfl) ?_
          refine lv_aload_n hx hb dX2_narrow_88 rfl (lv_at hl 2 rfl) ?_
          refine va_get (D := (dC, dI)) (ci := 2) (v := .double ((σ 8).2.2.1 3)) (C := RX2) (T := TX2) (N := 6) hx hb hts hinX2 hown hK hP 8 (at_2 rfl) rfl 3 (by decide) (hts (.fieldLink RX2 20 "BondCalendars$Bracket" "high" "D") (by decide +kernel)) (fun _ h9 => h9) rfl dX2_narrow_89 ?_
          refine lv_dcmp hx hb dX2_narrow_92 ?_
          refine lv_topi (fun x_41 _ => ?_)
          refine lv_if_ge (tgt := 99) hx hb dX2_narrow_93 (by decide) (fun c_42 => ?_) (fun c_42 => ?_)
          · refine lv_aload_n hx hb dX2_narrow_99 rfl (lv_at hl 2 rfl) ?_
            refine va_get (D := (dC, dI)) (ci := 2) (v := .ref (ad b_1)) (C := RX2) (T := TX2) (N := 6) hx hb hts hinX2 hown hK hP 8 (at_2 rfl) rfl 0 (by decide) (hts (.fieldLink RX2 7 "BondCalendars$Bracket" "at" "LBondCalendars$Settle;") (by decide +kernel)) (fun _ h9 => h9) (by show some (va_re ad ((σ 8).2.2.2 0)) = _; rw [q_3]; rfl) dX2_narrow_100 ?_
            refine lv_dload_n hx hb dX2_narrow_103 rfl (lv_at hl 1 rfl) ?_
            have hF := gFree hD hS hA
            refine va_calldD hd0 (va_runV_D (As := [.double y_6]) (rest := []) ⟨hx, hb, hml, hown, hts⟩ (n_X8_dirtyAt l dC dI ad cA adK adV s.heap.size σ hI b_1 hb_2 y_6) (cwV 1 hts gX2_narrow_X8_dirtyAt rfl rfl rfl (by decide +kernel) ⟨Nat.le_of_ble_eq_true rfl, Nat.le_of_ble_eq_true rfl⟩) ⟨gBlind, va_recv hK hP (ci := 7) (q0 := b_1) rfl (at_7 hb_2), gStart (As := [.ref (ad b_1), .double y_6]) hP hD hK0 hT hS hF (d_33)⟩ rfl rfl hl.1 rfl (lv_room (Nat.le_of_ble_eq_true rfl)) dX2_narrow_104 ⟨Nat.le_of_ble_eq_true rfl, Nat.le_of_ble_eq_true rfl⟩) hS (fun q _ h => hF q h) hF (fun r_43 σ16 t H locs ht hvm hw hB hz1 hk1 hS d_44 hd0 => ?_)
            have hts := dr_words hts0 (d_44)
            have hK := gKd hK0 (d_44)
            have hown : (s.setDrawn (d_44)).vm.findClass RX2 = some m.cls := hown0
            obtain ⟨hP, hD⟩ := gBack hF ht hB
            obtain ⟨hIσ16, hro, hp_45⟩ := hw
            subst hro
            refine lv_dstore (lv' := [(4, .double r_43), (2, .double y_6), (0, .ref (ad 8)), (1, .int p0)]) hx hb dX2_narrow_107 hl (by decide) rfl (fun ls hl => ?_)
            refine lv_dload hx hb dX2_narrow_109 (lv_at hl 0 rfl) ?_
            refine lv_aload_n hx hb dX2_narrow_111 rfl (lv_at hl 2 rfl) ?_
            refine va_get (D := (dC, dI)) (ci := 2) (v := .double ((σ 8).2.2.1 1)) (C := RX2) (T := TX2) (N := 6) hx hb hts hinX2 hown hK hP 8 (at_2 rfl) rfl 1 (by decide) (hts (.fieldLink RX2 13 "BondCalendars$Bracket" "target" "D") (by decide +kernel)) (fun _ h9 => h9) rfl dX2_narrow_112 ?_
            refine lv_dcmp hx hb dX2_narrow_115 ?_
            refine lv_topi (fun x_46 _ => ?_)
            refine lv_if_lt (tgt := 133) hx hb dX2_narrow_116 (by decide) (fun c_47 => ?_) (fun c_47 => ?_)
            · refine lv_aload_n hx hb dX2_narrow_133 rfl (lv_at hl 2 rfl) ?_
              refine lv_dload_n hx hb dX2_narrow_134 rfl (lv_at hl 1 rfl) ?_
              refine va_put (D := (dC, dI)) (ci := 2) (v := .double y_6) (C := RX2) (T := TX2) (N := 6) hx hb hts hinX2 tyX2 tyX2_ok nmX2 hown hK hP hD hS 8 (at_2 rfl) rfl 3 (by decide) (hts (.fieldLink RX2 20 "BondCalendars$Bracket" "high" "D") (by decide +kernel)) (fun _ h9 => h9) rfl (ty := .double) (by decide +kernel) rfl rfl (Nat.le_of_ble_eq_true rfl) dX2_narrow_135 (fun H locs hP hD hS => ?_)
              obtain ⟨σ17, eσ17, hP, hD⟩ := gPut (se_2_3 rfl) hP hD
              have hIσ17 : InvX σ17 := by rw [eσ17]; exact inv_D hI
              have frσ17 : gFr [2] σ σ17 := by rw [eσ17]; exact gFr.pD (gFr.rfl (L := [2]) (σ := σ)) rfl (by decide)
              refine lv_aload_n hx hb dX2_narrow_138 rfl (lv_at hl 2 rfl) ?_
              refine lv_dload hx hb dX2_narrow_139 (lv_at hl 0 rfl) ?_
              refine va_put (D := (dC, dI)) (ci := 2) (v := .double r_43) (C := RX2) (T := TX2) (N := 6) hx hb hts hinX2 tyX2 tyX2_ok nmX2 hown hK hP hD hS 8 (at_2 rfl) rfl 5 (by decide) (hts (.fieldLink RX2 26 "BondCalendars$Bracket" "dirtyAtHigh" "D") (by decide +kernel)) (fun _ h9 => h9) rfl (ty := .double) (by decide +kernel) rfl rfl (Nat.le_of_ble_eq_true rfl) dX2_narrow_141 (fun H locs hP hD hS => ?_)
              obtain ⟨σ18, eσ18, hP, hD⟩ := gPut (se_2_5 rfl) hP hD
              have hIσ18 : InvX σ18 := by rw [eσ18]; exact inv_D hIσ17
              have frσ18 : gFr [2] σ σ18 := by rw [eσ18]; exact gFr.pD frσ17 rfl (by decide)
              refine W.endD hd0 ?_
              exact W.vret hx hb hr (fun t ht hW => ⟨⟨σ18, rfl, ⟨hIσ18, frσ18, trivial⟩, ⟨by rw [ht]; exact hP, hD⟩⟩, hS.F ht⟩) hS.2.2 dX2_narrow_144
            · refine lv_aload_n hx hb dX2_narrow_119 rfl (lv_at hl 2 rfl) ?_
              refine lv_dload_n hx hb dX2_narrow_120 rfl (lv_at hl 1 rfl) ?_
              refine va_put (D := (dC, dI)) (ci := 2) (v := .double y_6) (C := RX2) (T := TX2) (N := 6) hx hb hts hinX2 tyX2 tyX2_ok nmX2 hown hK hP hD hS 8 (at_2 rfl) rfl 2 (by decide) (hts (.fieldLink RX2 17 "BondCalendars$Bracket" "low" "D") (by decide +kernel)) (fun _ h9 => h9) rfl (ty := .double) (by decide +kernel) rfl rfl (Nat.le_of_ble_eq_true rfl) dX2_narrow_121 (fun H locs hP hD hS => ?_)
              obtain ⟨σ19, eσ19, hP, hD⟩ := gPut (se_2_2 rfl) hP hD
              have hIσ19 : InvX σ19 := by rw [eσ19]; exact inv_D hI
              have frσ19 : gFr [2] σ σ19 := by rw [eσ19]; exact gFr.pD (gFr.rfl (L := [2]) (σ := σ)) rfl (by decide)
              refine lv_aload_n hx hb dX2_narrow_124 rfl (lv_at hl 2 rfl) ?_
              refine lv_dload hx hb dX2_narrow_125 (lv_at hl 0 rfl) ?_
              refine va_put (D := (dC, dI)) (ci := 2) (v := .double r_43) (C := RX2) (T := TX2) (N := 6) hx hb hts hinX2 tyX2 tyX2_ok nmX2 hown hK hP hD hS 8 (at_2 rfl) rfl 4 (by decide) (hts (.fieldLink RX2 23 "BondCalendars$Bracket" "dirtyAtLow" "D") (by decide +kernel)) (fun _ h9 => h9) rfl (ty := .double) (by decide +kernel) rfl rfl (Nat.le_of_ble_eq_true rfl) dX2_narrow_127 (fun H locs hP hD hS => ?_)
              obtain ⟨σ20, eσ20, hP, hD⟩ := gPut (se_2_4 rfl) hP hD
              have hIσ20 : InvX σ20 := by rw [eσ20]; exact inv_D hIσ19
              have frσ20 : gFr [2] σ σ20 := by rw [eσ20]; exact gFr.pD frσ19 rfl (by decide)
              refine lv_goto (tgt := 144) hx hb dX2_narrow_130 (by decide) ?_
              refine W.endD hd0 ?_
              exact W.vret hx hb hr (fun t ht hW => ⟨⟨σ20, rfl, ⟨hIσ20, frσ20, trivial⟩, ⟨by rw [ht]; exact hP, hD⟩⟩, hS.F ht⟩) hS.2.2 dX2_narrow_144
          · refine lv_dload hx hb dX2_narrow_96 (lv_at hl 0 rfl) ?_
            refine lv_dstore_n (lv' := [(2, .double y_32), (4, .double y_32), (0, .ref (ad 8)), (1, .int p0)]) hx hb dX2_narrow_98 rfl hl (by decide) rfl (fun ls hl => ?_)
            refine lv_aload_n hx hb dX2_narrow_99 rfl (lv_at hl 2 rfl) ?_
            refine va_get (D := (dC, dI)) (ci := 2) (v := .ref (ad b_1)) (C := RX2) (T := TX2) (N := 6) hx hb hts hinX2 hown hK hP 8 (at_2 rfl) rfl 0 (by decide) (hts (.fieldLink RX2 7 "BondCalendars$Bracket" "at" "LBondCalendars$Settle;") (by decide +kernel)) (fun _ h9 => h9) (by show some (va_re ad ((σ 8).2.2.2 0)) = _; rw [q_3]; rfl) dX2_narrow_100 ?_
            refine lv_dload_n hx hb dX2_narrow_103 rfl (lv_at hl 0 rfl) ?_
            have hF := gFree hD hS hA
            refine va_calldD hd0 (va_runV_D (As := [.double y_32]) (rest := []) ⟨hx, hb, hml, hown, hts⟩ (n_X8_dirtyAt l dC dI ad cA adK adV s.heap.size σ hI b_1 hb_2 y_32) (cwV 1 hts gX2_narrow_X8_dirtyAt rfl rfl rfl (by decide +kernel) ⟨Nat.le_of_ble_eq_true rfl, Nat.le_of_ble_eq_true rfl⟩) ⟨gBlind, va_recv hK hP (ci := 7) (q0 := b_1) rfl (at_7 hb_2), gStart (As := [.ref (ad b_1), .double y_32]) hP hD hK0 hT hS hF (d_33)⟩ rfl rfl hl.1 rfl (lv_room (Nat.le_of_ble_eq_true rfl)) dX2_narrow_104 ⟨Nat.le_of_ble_eq_true rfl, Nat.le_of_ble_eq_true rfl⟩) hS (fun q _ h => hF q h) hF (fun r_48 σ21 t H locs ht hvm hw hB hz1 hk1 hS d_49 hd0 => ?_)
            have hts := dr_words hts0 (d_49)
            have hK := gKd hK0 (d_49)
            have hown : (s.setDrawn (d_49)).vm.findClass RX2 = some m.cls := hown0
            obtain ⟨hP, hD⟩ := gBack hF ht hB
            obtain ⟨hIσ21, hro, hp_50⟩ := hw
            subst hro
            refine lv_dstore (lv' := [(4, .double r_48), (2, .double y_32), (0, .ref (ad 8)), (1, .int p0)]) hx hb dX2_narrow_107 hl (by decide) rfl (fun ls hl => ?_)
            refine lv_dload hx hb dX2_narrow_109 (lv_at hl 0 rfl) ?_
            refine lv_aload_n hx hb dX2_narrow_111 rfl (lv_at hl 2 rfl) ?_
            refine va_get (D := (dC, dI)) (ci := 2) (v := .double ((σ 8).2.2.1 1)) (C := RX2) (T := TX2) (N := 6) hx hb hts hinX2 hown hK hP 8 (at_2 rfl) rfl 1 (by decide) (hts (.fieldLink RX2 13 "BondCalendars$Bracket" "target" "D") (by decide +kernel)) (fun _ h9 => h9) rfl dX2_narrow_112 ?_
            refine lv_dcmp hx hb dX2_narrow_115 ?_
            refine lv_topi (fun x_51 _ => ?_)
            refine lv_if_lt (tgt := 133) hx hb dX2_narrow_116 (by decide) (fun c_52 => ?_) (fun c_52 => ?_)
            · refine lv_aload_n hx hb dX2_narrow_133 rfl (lv_at hl 2 rfl) ?_
              refine lv_dload_n hx hb dX2_narrow_134 rfl (lv_at hl 1 rfl) ?_
              refine va_put (D := (dC, dI)) (ci := 2) (v := .double y_32) (C := RX2) (T := TX2) (N := 6) hx hb hts hinX2 tyX2 tyX2_ok nmX2 hown hK hP hD hS 8 (at_2 rfl) rfl 3 (by decide) (hts (.fieldLink RX2 20 "BondCalendars$Bracket" "high" "D") (by decide +kernel)) (fun _ h9 => h9) rfl (ty := .double) (by decide +kernel) rfl rfl (Nat.le_of_ble_eq_true rfl) dX2_narrow_135 (fun H locs hP hD hS => ?_)
              obtain ⟨σ22, eσ22, hP, hD⟩ := gPut (se_2_3 rfl) hP hD
              have hIσ22 : InvX σ22 := by rw [eσ22]; exact inv_D hI
              have frσ22 : gFr [2] σ σ22 := by rw [eσ22]; exact gFr.pD (gFr.rfl (L := [2]) (σ := σ)) rfl (by decide)
              refine lv_aload_n hx hb dX2_narrow_138 rfl (lv_at hl 2 rfl) ?_
              refine lv_dload hx hb dX2_narrow_139 (lv_at hl 0 rfl) ?_
              refine va_put (D := (dC, dI)) (ci := 2) (v := .double r_48) (C := RX2) (T := TX2) (N := 6) hx hb hts hinX2 tyX2 tyX2_ok nmX2 hown hK hP hD hS 8 (at_2 rfl) rfl 5 (by decide) (hts (.fieldLink RX2 26 "BondCalendars$Bracket" "dirtyAtHigh" "D") (by decide +kernel)) (fun _ h9 => h9) rfl (ty := .double) (by decide +kernel) rfl rfl (Nat.le_of_ble_eq_true rfl) dX2_narrow_141 (fun H locs hP hD hS => ?_)
              obtain ⟨σ23, eσ23, hP, hD⟩ := gPut (se_2_5 rfl) hP hD
              have hIσ23 : InvX σ23 := by rw [eσ23]; exact inv_D hIσ22
              have frσ23 : gFr [2] σ σ23 := by rw [eσ23]; exact gFr.pD frσ22 rfl (by decide)
              refine W.endD hd0 ?_
              exact W.vret hx hb hr (fun t ht hW => ⟨⟨σ23, rfl, ⟨hIσ23, frσ23, trivial⟩, ⟨by rw [ht]; exact hP, hD⟩⟩, hS.F ht⟩) hS.2.2 dX2_narrow_144
            · refine lv_aload_n hx hb dX2_narrow_119 rfl (lv_at hl 2 rfl) ?_
              refine lv_dload_n hx hb dX2_narrow_120 rfl (lv_at hl 1 rfl) ?_
              refine va_put (D := (dC, dI)) (ci := 2) (v := .double y_32) (C := RX2) (T := TX2) (N := 6) hx hb hts hinX2 tyX2 tyX2_ok nmX2 hown hK hP hD hS 8 (at_2 rfl) rfl 2 (by decide) (hts (.fieldLink RX2 17 "BondCalendars$Bracket" "low" "D") (by decide +kernel)) (fun _ h9 => h9) rfl (ty := .double) (by decide +kernel) rfl rfl (Nat.le_of_ble_eq_true rfl) dX2_narrow_121 (fun H locs hP hD hS => ?_)
              obtain ⟨σ24, eσ24, hP, hD⟩ := gPut (se_2_2 rfl) hP hD
              have hIσ24 : InvX σ24 := by rw [eσ24]; exact inv_D hI
              have frσ24 : gFr [2] σ σ24 := by rw [eσ24]; exact gFr.pD (gFr.rfl (L := [2]) (σ := σ)) rfl (by decide)
              refine lv_aload_n hx hb dX2_narrow_124 rfl (lv_at hl 2 rfl) ?_
              refine lv_dload hx hb dX2_narrow_125 (lv_at hl 0 rfl) ?_
              refine va_put (D := (dC, dI)) (ci := 2) (v := .double r_48) (C := RX2) (T := TX2) (N := 6) hx hb hts hinX2 tyX2 tyX2_ok nmX2 hown hK hP hD hS 8 (at_2 rfl) rfl 4 (by decide) (hts (.fieldLink RX2 23 "BondCalendars$Bracket" "dirtyAtLow" "D") (by decide +kernel)) (fun _ h9 => h9) rfl (ty := .double) (by decide +kernel) rfl rfl (Nat.le_of_ble_eq_true rfl) dX2_narrow_127 (fun H locs hP hD hS => ?_)
              obtain ⟨σ25, eσ25, hP, hD⟩ := gPut (se_2_4 rfl) hP hD
              have hIσ25 : InvX σ25 := by rw [eσ25]; exact inv_D hIσ24
              have frσ25 : gFr [2] σ σ25 := by rw [eσ25]; exact gFr.pD frσ24 rfl (by decide)
              refine lv_goto (tgt := 144) hx hb dX2_narrow_130 (by decide) ?_
              refine W.endD hd0 ?_
              exact W.vret hx hb hr (fun t ht hW => ⟨⟨σ25, rfl, ⟨hIσ25, frσ25, trivial⟩, ⟨by rw [ht]; exact hP, hD⟩⟩, hS.F ht⟩) hS.2.2 dX2_narrow_144
set_option maxHeartbeats 8000000 in
set_option maxRecDepth 100000 in
theorem n_X2_narrowTimes (l : Launch) (dC : Nat → ClassId) (dI : Nat → Nat → Nat) (ad : Nat → Nat) (cA : Nat → ClassId) (adK adV : Nat → Nat) (sz : Nat) (σ : gs) (hI : InvX σ) (p0 : Int32) : MetD lw_cs l yX2_narrowTimes wsX2_narrowTimes ({ frames := 2, cells := 0, slots := 0, locals := 55 }) (va_Pc [.ref (ad 8), .int p0] (gPre adK adV (dC, dI) (wX ad cA σ) (tX cA) sz)) (va_Qv (fun (τ : gs) => InvX τ ∧ gFr [2] σ τ ∧ (True)) (fun τ t => gPost (dC, dI) (va_A (wX ad cA σ) sz) (wX ad cA τ) t) (va_A (wX ad cA σ) sz)) 0 0 (va_A (wX ad cA σ) sz) := by
  refine MetD.ofW (cc := cX2_narrowTimes) (maxL := 3) (ret := none) (by decide) rfl ?_
  intro p e s m args below meth c s₁ B hml hv hd0
  obtain ⟨rfl, hsz, hP, hK, hD0, hT⟩ := hv
  have hx := B.exec
  have hb := B.bytes
  have hr := B.returns
  have hts0 := atoms_spec (ws := wsX2_narrowTimes) B.pre
  have hK0 := hK
  have hown0 : s.vm.findClass RX2 = some m.cls := findClass_of_methodNamed B.named
  have hlocks := B.notSynchronized
  subst hsz
  have hD := hD0.self (sz := s.heap.size)
  generalize hAe : va_A (wX ad cA σ) s.heap.size = A at hD hT ⊢
  have hA : ∀ q : Nat, s.heap.size ≤ q → A q := fun q h => by rw [← hAe]; exact Or.inr h
  have hS : va_S A s.heap s.heap [] := va_S.rf
  have hl := lv_entry ([.ref (ad 8), .int p0]) (n := 3) (Nat.le_of_ble_eq_true rfl)
  rw [lg_entry_eq]
  generalize (lg_sl ([.ref (ad 8), .int p0]) ++ List.replicate (3 - (lg_sl ([.ref (ad 8), .int p0])).length) Slot.unset).toArray = ls at hl ⊢
  have hl : lv_has ls 3 [(0, .ref (ad 8)), (1, .int p0)] := hl
  have hts := dr_words hts0 (s.drawn)
  have hK := gKd hK0 (s.drawn)
  have hown : (s.setDrawn (s.drawn)).vm.findClass RX2 = some m.cls := hown0
  refine lv_iconst (v := 0) hx hb dX2_narrowTimes_0 (by decide) ?_
  refine lv_istore_n (lv' := [(2, .int 0), (0, .ref (ad 8)), (1, .int p0)]) hx hb dX2_narrowTimes_1 rfl hl (by decide) rfl (fun ls hl => ?_)
  refine (fun (h : ∀ (n : Nat) (i2 : Int32) (σ2x : gs) (d2 : Drawn) (H : Heap) (locs : List Loc) (ls : Array Slot), ((p0 : Int32).toInt - i2.toInt).toNat < n → 0 ≤ i2 → InvX σ2x → gFr [2] σ σ2x → s.drawn.sameBut d2 lw_cs → va_P (dC, dI) vwCl (wX ad cA σ2x) H → va_D A (wX ad cA σ2x) → va_S A s.heap H locs → lv_has ls 3 [(2, .int i2), (0, .ref (ad 8)), (1, .int p0)] → W p l e _ (s.setDrawn d2) m _ below meth c H locs _ _ _ (F0 m 2 ls [])) => h _ 0 σ _ _ _ _ (Nat.lt_succ_self _) (by decide) hI (gFr.rfl (L := [2]) (σ := σ)) hd0 hP hD hS (lv_sub hl [0, 1, 2] rfl)) ?_
  intro n2
  induction n2 with
  | zero => intro i2 σ2x d2 H locs ls hm; exact absurd hm (Nat.not_lt_zero _)
  | succ n2 ih2 =>
    intro i2 σ2x d2 H locs ls hm2 iv2_0 hIσ2x frσ2x hd0 hP hD hS hl
    have hts := dr_words hts0 (d2)
    have hK := gKd hK0 (d2)
    have hown : (s.setDrawn (d2)).vm.findClass RX2 = some m.cls := hown0
    refine lv_iload_n hx hb dX2_narrowTimes_2 rfl (lv_at hl 0 rfl) ?_
    refine lv_iload_n hx hb dX2_narrowTimes_3 rfl (lv_at hl 2 rfl) ?_
    refine lv_icmp_ge (tgt := 18) hx hb dX2_narrowTimes_4 (by decide) (fun c_1 => ?_) (fun c_1 => ?_)
    · refine W.endD hd0 ?_
      exact W.vret hx hb hr (fun t ht hW => ⟨⟨σ2x, rfl, ⟨hIσ2x, frσ2x, trivial⟩, ⟨by rw [ht]; exact hP, hD⟩⟩, hS.F ht⟩) hS.2.2 dX2_narrowTimes_18
    · refine lv_aload_n hx hb dX2_narrowTimes_7 rfl (lv_at hl 1 rfl) ?_
      refine lv_iload_n hx hb dX2_narrowTimes_8 rfl (lv_at hl 0 rfl) ?_
      have hF := gFree hD hS hA
      refine va_callvD hd0 (va_runV_D (As := [.int i2]) (rest := []) ⟨hx, hb, hml, hown, hts⟩ (n_X2_narrow l dC dI ad cA adK adV H.size σ2x hIσ2x i2) (cwV 1 hts gX2_narrowTimes_X2_narrow rfl rfl rfl (by decide +kernel) ⟨Nat.le_of_ble_eq_true rfl, Nat.le_of_ble_eq_true rfl⟩) ⟨gBlind, va_recv hK hP (ci := 2) (q0 := 8) rfl (at_2 rfl), gStart (As := [.ref (ad 8), .int i2]) hP hD hK0 hT hS hF (d2)⟩ rfl rfl hl.1 rfl (lv_room (Nat.le_of_ble_eq_true rfl)) dX2_narrowTimes_9 ⟨Nat.le_of_ble_eq_true rfl, Nat.le_of_ble_eq_true rfl⟩) hS (fun q _ h => hF q h) hF (fun σ1 t H locs ht hvm hw hB hz1 hk1 hS d_3 hd0 => ?_)
      have hts := dr_words hts0 (d_3)
      have hK := gKd hK0 (d_3)
      have hown : (s.setDrawn (d_3)).vm.findClass RX2 = some m.cls := hown0
      obtain ⟨hP, hD⟩ := gBack hF ht hB
      obtain ⟨hIσ1, fcσ1, hp_4⟩ := hw
      obtain ⟨x_5, ex_5⟩ : ∃ zz : Int32, zz = i2 + 1 := ⟨_, rfl⟩
      refine lv_iinc (v := x_5) (lv' := [(2, .int x_5), (0, .ref (ad 8)), (1, .int p0)]) hx hb dX2_narrowTimes_12 hl (k := 0) rfl (by rw [ex_5]; rfl) (by decide) rfl (fun ls hl => ?_)
      refine lv_goto (tgt := 2) hx hb dX2_narrowTimes_15 (by decide) ?_
      exact ih2 x_5 σ1 _ _ _ _ (cnt_m iv2_0 (Int32.not_le.mp c_1) hm2 ex_5) (cnt_0 iv2_0 (Int32.not_le.mp c_1) ex_5) hIσ1 (gFr.tr frσ2x fcσ1 (by decide)) hd0 hP hD hS (lv_sub hl [0, 1, 2] rfl)
