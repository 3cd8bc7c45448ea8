set_option maxHeartbeats 8000000 in
set_option maxRecDepth 100000 in
theorem n_X11_desk (l : Launch) (dC : Nat → ClassId) (dI : Nat → Nat → Nat) (ad : Nat → Nat) (cA : Nat → ClassId) (adK adV : Nat → Nat) (sz : Nat) (σ : gs) (hI : InvX σ) (p0 : Int32) : MetD lw_cs l yX11_desk wsX11_desk ({ frames := 10, cells := 0, slots := 0, locals := 222 }) (va_Pc [.ref (ad 0), .int p0] (gPre adK adV (dC, dI) (wX ad cA σ) (tX cA) sz)) (va_Qi (fun (r : Int32) (τ : gs) => InvX τ ∧ gFr [0, 1, 3, 4, 5, 6, 7, 9, 10, 22, 24, 25, 27, 28, 30] σ τ ∧ (True)) (fun τ t => gPost (dC, dI) (va_A (wX ad cA σ) sz) (wX ad cA τ) t) (va_A (wX ad cA σ) sz)) 0 0 (va_A (wX ad cA σ) sz) := by
  refine MetD.ofW (cc := cX11_desk) (maxL := 3) (ret := (some .int)) (by decide) rfl ?_
  intro p e s m args below meth c s₁ B hml hv hd0
  obtain ⟨rfl, hsz, hP, hK, hD0, hT⟩ := hv
  have hx := B.exec
  have hb := B.bytes
  have hr := B.returns
  have hts0 := atoms_spec (ws := wsX11_desk) B.pre
  have hK0 := hK
  have hown0 : s.vm.findClass RX11 = some m.cls := findClass_of_methodNamed B.named
  have hlocks := B.notSynchronized
  have hinX11 : ∀ w ∈ u_ws RX11 TX11 15, w ∈ wsX11_desk := (fun _ h9 => List.mem_cons_of_mem _ (List.mem_append_left _ (List.mem_append_left _ (List.mem_append_left _ (List.mem_append_left _ (List.mem_append_left _ (List.mem_append_left _ (List.mem_append_left _ (List.mem_append_left _ (List.mem_append_right _ h9))))))))))
  have hinX7 : ∀ w ∈ u_ws RX7 TX7 5, w ∈ wsX11_desk := (fun _ h9 => List.mem_cons_of_mem _ (List.mem_append_left _ (List.mem_append_left _ (List.mem_append_left _ (List.mem_append_left _ (List.mem_append_left _ (List.mem_append_left _ (List.mem_append_left _ (List.mem_append_right _ h9)))))))))
  have hinX10 : ∀ w ∈ u_ws RX10 TX10 7, w ∈ wsX11_desk := (fun _ h9 => List.mem_cons_of_mem _ (List.mem_append_left _ (List.mem_append_left _ (List.mem_append_left _ (List.mem_append_left _ (List.mem_append_left _ (List.mem_append_left _ (List.mem_append_right _ h9))))))))
  have hinX4 : ∀ w ∈ u_ws RX4 TX4 12, w ∈ wsX11_desk := (fun _ h9 => List.mem_cons_of_mem _ (List.mem_append_left _ (List.mem_append_left _ (List.mem_append_left _ (List.mem_append_left _ (List.mem_append_left _ (List.mem_append_right _ h9)))))))
  subst hsz
  have hD := hD0.self (sz := s.heap.size)
  generalize hAe : va_A (wX ad cA σ) s.heap.size = A at hD hT ⊢
  have hA : ∀ q : Nat, s.heap.size ≤ q → A q := fun q h => by rw [← hAe]; exact Or.inr h
  have hS : va_S A s.heap s.heap [] := va_S.rf
  have hl := lv_entry ([.ref (ad 0), .int p0]) (n := 3) (Nat.le_of_ble_eq_true rfl)
  rw [lg_entry_eq]
  generalize (lg_sl ([.ref (ad 0), .int p0]) ++ List.replicate (3 - (lg_sl ([.ref (ad 0), .int p0])).length) Slot.unset).toArray = ls at hl ⊢
  have hl : lv_has ls 3 [(0, .ref (ad 0)), (1, .int p0)] := hl
  have hts := dr_words hts0 (s.drawn)
  have hK := gKd hK0 (s.drawn)
  have hown : (s.setDrawn (s.drawn)).vm.findClass RX11 = some m.cls := hown0
  refine lv_iload_n hx hb dX11_desk_0 rfl (lv_at hl 1 rfl) ?_
  refine lv_if_lt (tgt := 18) hx hb dX11_desk_1 (by decide) (fun c_1 => ?_) (fun c_1 => ?_)
  · refine lv_aload_n hx hb dX11_desk_18 rfl (lv_at hl 0 rfl) ?_
    refine lv_iconst (v := 2) hx hb dX11_desk_19 (by decide) ?_
    have hF := gFree hD hS hA
    refine va_calliD hd0 (va_runV_D (As := [.int 2]) (rest := []) ⟨hx, hb, hml, hown, hts⟩ (n_X11_refuse l dC dI ad cA adK adV s.heap.size σ hI 2) (cwV 1 hts gX11_desk_X11_refuse rfl rfl rfl (by decide +kernel) ⟨Nat.le_of_ble_eq_true rfl, Nat.le_of_ble_eq_true rfl⟩) ⟨gBlind, va_recv hK hP (ci := 10) (q0 := 0) rfl (at_10 rfl), gStart (As := [.ref (ad 0), .int 2]) hP hD hK0 hT hS hF (s.drawn)⟩ rfl rfl hl.1 rfl (lv_room (Nat.le_of_ble_eq_true rfl)) dX11_desk_20 ⟨Nat.le_of_ble_eq_true rfl, Nat.le_of_ble_eq_true rfl⟩) hS (fun q _ h => hF q h) hF (fun r_2 σ1 t H locs ht hvm hw hB hz1 hk1 hS d_3 hd0 => ?_)
    have hts := dr_words hts0 (d_3)
    have hK := gKd hK0 (d_3)
    have hown : (s.setDrawn (d_3)).vm.findClass RX11 = some m.cls := hown0
    obtain ⟨hP, hD⟩ := gBack hF ht hB
    obtain ⟨hIσ1, fcσ1, hp_4⟩ := hw
    refine W.endD hd0 ?_
    exact W.iret (v := r_2) hx hb hr (fun t ht hW => ⟨⟨r_2, σ1, rfl, ⟨hIσ1, (gFr.tr (gFr.rfl (L := [0, 1, 3, 4, 5, 6, 7, 9, 10, 22, 24, 25, 27, 28, 30]) (σ := σ)) fcσ1 (by decide)), trivial⟩, ⟨by rw [ht]; exact hP, hD⟩⟩, hS.F ht⟩) hS.2.2 dX11_desk_23
  · refine lv_iload_n hx hb dX11_desk_4 rfl (lv_at hl 1 rfl) ?_
    refine lv_aload_n hx hb dX11_desk_5 rfl (lv_at hl 0 rfl) ?_
    refine va_get (D := (dC, dI)) (ci := 10) (v := .ref (ad 1)) (C := RX11) (T := TX11) (N := 15) hx hb hts hinX11 hown hK hP 0 (at_10 rfl) rfl 0 (by decide) (hts (.fieldLink RX11 10 "BondCalendars" "reader" "LBondCalendars$Reader;") (by decide +kernel)) (fun _ h9 => h9) rfl dX11_desk_6 ?_
    refine va_get (D := (dC, dI)) (ci := 6) (v := .ref (ad 2)) (C := RX7) (T := TX7) (N := 5) hx hb hts hinX7 hown hK hP 1 (at_6 rfl) rfl 0 (by decide) (hts (.fieldLink RX11 84 "BondCalendars$Reader" "tape" "LBondCalendars$Tape;") (by decide +kernel)) (fun _ h9 => h9) rfl dX11_desk_9 ?_
    have bd_5 := rd_9_1 (c := 2) hI rfl
    refine va_get (D := (dC, dI)) (ci := 9) (v := .int ((σ 2).1 1)) (C := RX10) (T := TX10) (N := 7) hx hb hts hinX10 hown hK hP 2 (at_9 rfl) rfl 1 (by decide) (hts (.fieldLink RX11 88 "BondCalendars$Tape" "length" "I") (by decide +kernel)) (fun _ h9 => h9) rfl dX11_desk_12 ?_
    refine lv_icmp_le (tgt := 24) hx hb dX11_desk_15 (by decide) (fun c_6 => ?_) (fun c_6 => ?_)
    · refine lv_aload_n hx hb dX11_desk_24 rfl (lv_at hl 0 rfl) ?_
      refine va_get (D := (dC, dI)) (ci := 10) (v := .ref (ad 1)) (C := RX11) (T := TX11) (N := 15) hx hb hts hinX11 hown hK hP 0 (at_10 rfl) rfl 0 (by decide) (hts (.fieldLink RX11 10 "BondCalendars" "reader" "LBondCalendars$Reader;") (by decide +kernel)) (fun _ h9 => h9) rfl dX11_desk_25 ?_
      refine lv_iload_n hx hb dX11_desk_28 rfl (lv_at hl 1 rfl) ?_
      refine lv_aload_n hx hb dX11_desk_29 rfl (lv_at hl 0 rfl) ?_
      obtain ⟨b_7, hb_8, q_9⟩ := rq_10_9 (c := 0) hI rfl
      refine va_get (D := (dC, dI)) (ci := 10) (v := .ref (ad b_7)) (C := RX11) (T := TX11) (N := 15) hx hb hts hinX11 hown hK hP 0 (at_10 rfl) rfl 9 (by decide) (hts (.fieldLink RX11 64 "BondCalendars" "draft" "LBondCalendars$Desk;") (by decide +kernel)) (fun _ h9 => h9) (by show some (va_re ad ((σ 0).2.2.2 9)) = _; rw [q_9]; rfl) dX11_desk_30 ?_
      have hF := gFree hD hS hA
      refine va_callvD hd0 (va_runV_D (As := [.int p0, .ref (ad b_7)]) (rest := []) ⟨hx, hb, hml, hown, hts⟩ (n_X7_read l dC dI ad cA adK adV s.heap.size σ hI p0 b_7 hb_8) (cwV 2 hts gX11_desk_X7_read rfl rfl rfl (by decide +kernel) ⟨Nat.le_of_ble_eq_true rfl, Nat.le_of_ble_eq_true rfl⟩) ⟨gBlind, va_recv hK hP (ci := 6) (q0 := 1) rfl (at_6 rfl), gStart (As := [.ref (ad 1), .int p0, .ref (ad b_7)]) hP hD hK0 hT hS hF (s.drawn)⟩ rfl rfl hl.1 rfl (lv_room (Nat.le_of_ble_eq_true rfl)) dX11_desk_33 ⟨Nat.le_of_ble_eq_true rfl, Nat.le_of_ble_eq_true rfl⟩) hS (fun q _ h => hF q h) hF (fun σ2 t H locs ht hvm hw hB hz1 hk1 hS d_11 hd0 => ?_)
      have hts := dr_words hts0 (d_11)
      have hK := gKd hK0 (d_11)
      have hown : (s.setDrawn (d_11)).vm.findClass RX11 = some m.cls := hown0
      obtain ⟨hP, hD⟩ := gBack hF ht hB
      obtain ⟨hIσ2, fcσ2, hp_12⟩ := hw
      refine lv_aload_n hx hb dX11_desk_36 rfl (lv_at hl 0 rfl) ?_
      refine va_get (D := (dC, dI)) (ci := 10) (v := .ref (ad 1)) (C := RX11) (T := TX11) (N := 15) hx hb hts hinX11 hown hK hP 0 (at_10 rfl) rfl 0 (by decide) (hts (.fieldLink RX11 10 "BondCalendars" "reader" "LBondCalendars$Reader;") (by decide +kernel)) (fun _ h9 => h9) rfl dX11_desk_37 ?_
      refine va_get (D := (dC, dI)) (ci := 6) (v := .ref (ad 2)) (C := RX7) (T := TX7) (N := 5) hx hb hts hinX7 hown hK hP 1 (at_6 rfl) rfl 0 (by decide) (hts (.fieldLink RX11 84 "BondCalendars$Reader" "tape" "LBondCalendars$Tape;") (by decide +kernel)) (fun _ h9 => h9) rfl dX11_desk_40 ?_
      refine lv_iconst (v := 0) hx hb dX11_desk_43 (by decide) ?_
      refine va_put (D := (dC, dI)) (ci := 9) (v := .int 0) (C := RX10) (T := TX10) (N := 7) hx hb hts hinX10 tyX10 tyX10_ok nmX10 hown hK hP hD hS 2 (at_9 rfl) rfl 1 (by decide) (hts (.fieldLink RX11 88 "BondCalendars$Tape" "length" "I") (by decide +kernel)) (fun _ h9 => h9) rfl (ty := .int) (by decide +kernel) rfl rfl (Nat.le_of_ble_eq_true rfl) dX11_desk_44 (fun H locs hP hD hS => ?_)
      obtain ⟨σ3, eσ3, hP, hD⟩ := gPut (se_9_1 rfl) hP hD
      have hIσ3 : InvX σ3 := by rw [eσ3]; exact inv_I hIσ2 (ok_9_1 rfl _ ⟨(show (0 : Int32) ≤ 0 by decide), (show (0 : Int32) ≤ 900 by decide)⟩)
      have frσ3 : gFr [0, 1, 3, 4, 5, 6, 7, 9, 10, 22, 24, 25, 27, 28, 30] σ σ3 := by rw [eσ3]; exact gFr.pI (gFr.tr (gFr.rfl (L := [0, 1, 3, 4, 5, 6, 7, 9, 10, 22, 24, 25, 27, 28, 30]) (σ := σ)) fcσ2 (by decide)) rfl (by decide)
      refine lv_aload_n hx hb dX11_desk_47 rfl (lv_at hl 0 rfl) ?_
      refine lv_aload_n hx hb dX11_desk_48 rfl (lv_at hl 0 rfl) ?_
      refine va_get (D := (dC, dI)) (ci := 10) (v := .ref (ad 1)) (C := RX11) (T := TX11) (N := 15) hx hb hts hinX11 hown hK hP 0 (at_10 rfl) rfl 0 (by decide) (hts (.fieldLink RX11 10 "BondCalendars" "reader" "LBondCalendars$Reader;") (by decide +kernel)) (fun _ h9 => h9) rfl dX11_desk_49 ?_
      refine va_get (D := (dC, dI)) (ci := 6) (v := .int ((σ2 1).1 1)) (C := RX7) (T := TX7) (N := 5) hx hb hts hinX7 hown hK hP 1 (at_6 rfl) rfl 1 (by decide) (hts (.fieldLink RX11 105 "BondCalendars$Reader" "faultNumber" "I") (by decide +kernel)) (fun _ h9 => h9) (congrArg (fun z => some (Value.int z)) (show (σ3 1).1 1 = ((σ2 1).1 1) from by rw [eσ3, gI_ne _ _ _ (by decide)])) dX11_desk_52 ?_
      refine va_put (D := (dC, dI)) (ci := 10) (v := .int ((σ2 1).1 1)) (C := RX11) (T := TX11) (N := 15) hx hb hts hinX11 tyX11 tyX11_ok nmX11 hown hK hP hD hS 0 (at_10 rfl) rfl 13 (by decide) (hts (.fieldLink RX11 78 "BondCalendars" "latestFault" "I") (by decide +kernel)) (fun _ h9 => h9) rfl (ty := .int) (by decide +kernel) rfl rfl (Nat.le_of_ble_eq_true rfl) dX11_desk_55 (fun H locs hP hD hS => ?_)
      obtain ⟨σ4, eσ4, hP, hD⟩ := gPut (se_10_13 rfl) hP hD
      have hIσ4 : InvX σ4 := by rw [eσ4]; exact inv_I hIσ3 (ok_10_13 rfl _)
      have frσ4 : gFr [0, 1, 3, 4, 5, 6, 7, 9, 10, 22, 24, 25, 27, 28, 30] σ σ4 := by rw [eσ4]; exact gFr.pI frσ3 rfl (by decide)
      refine lv_aload_n hx hb dX11_desk_58 rfl (lv_at hl 0 rfl) ?_
      refine lv_aload_n hx hb dX11_desk_59 rfl (lv_at hl 0 rfl) ?_
      refine va_get (D := (dC, dI)) (ci := 10) (v := .ref (ad 1)) (C := RX11) (T := TX11) (N := 15) hx hb hts hinX11 hown hK hP 0 (at_10 rfl) rfl 0 (by decide) (hts (.fieldLink RX11 10 "BondCalendars" "reader" "LBondCalendars$Reader;") (by decide +kernel)) (fun _ h9 => h9) rfl dX11_desk_60 ?_
      refine va_get (D := (dC, dI)) (ci := 6) (v := .int ((σ2 1).1 2)) (C := RX7) (T := TX7) (N := 5) hx hb hts hinX7 hown hK hP 1 (at_6 rfl) rfl 2 (by decide) (hts (.fieldLink RX11 108 "BondCalendars$Reader" "faultPlace" "I") (by decide +kernel)) (fun _ h9 => h9) (congrArg (fun z => some (Value.int z)) (show (σ4 1).1 2 = ((σ2 1).1 2) from by rw [eσ4, gI_ne _ _ _ (by decide), eσ3, gI_ne _ _ _ (by decide)])) dX11_desk_63 ?_
      refine va_put (D := (dC, dI)) (ci := 10) (v := .int ((σ2 1).1 2)) (C := RX11) (T := TX11) (N := 15) hx hb hts hinX11 tyX11 tyX11_ok nmX11 hown hK hP hD hS 0 (at_10 rfl) rfl 14 (by decide) (hts (.fieldLink RX11 81 "BondCalendars" "latestPlace" "I") (by decide +kernel)) (fun _ h9 => h9) rfl (ty := .int) (by decide +kernel) rfl rfl (Nat.le_of_ble_eq_true rfl) dX11_desk_66 (fun H locs hP hD hS => ?_)
      obtain ⟨σ5, eσ5, hP, hD⟩ := gPut (se_10_14 rfl) hP hD
      have hIσ5 : InvX σ5 := by rw [eσ5]; exact inv_I hIσ4 (ok_10_14 rfl _)
      have frσ5 : gFr [0, 1, 3, 4, 5, 6, 7, 9, 10, 22, 24, 25, 27, 28, 30] σ σ5 := by rw [eσ5]; exact gFr.pI frσ4 rfl (by decide)
      refine lv_aload_n hx hb dX11_desk_69 rfl (lv_at hl 0 rfl) ?_
      refine va_get (D := (dC, dI)) (ci := 10) (v := .int ((σ2 1).1 1)) (C := RX11) (T := TX11) (N := 15) hx hb hts hinX11 hown hK hP 0 (at_10 rfl) rfl 13 (by decide) (hts (.fieldLink RX11 78 "BondCalendars" "latestFault" "I") (by decide +kernel)) (fun _ h9 => h9) (congrArg (fun z => some (Value.int z)) (show (σ5 0).1 13 = ((σ2 1).1 1) from by rw [eσ5, gI_oth _ _ _ (by decide), eσ4, gI_self])) dX11_desk_70 ?_
      refine lv_if_eq (tgt := 82) hx hb dX11_desk_73 (by decide) (fun c_13 => ?_) (fun c_13 => ?_)
      · refine lv_aload_n hx hb dX11_desk_82 rfl (lv_at hl 0 rfl) ?_
        refine va_get (D := (dC, dI)) (ci := 10) (v := .ref (ad b_7)) (C := RX11) (T := TX11) (N := 15) hx hb hts hinX11 hown hK hP 0 (at_10 rfl) rfl 9 (by decide) (hts (.fieldLink RX11 64 "BondCalendars" "draft" "LBondCalendars$Desk;") (by decide +kernel)) (fun _ h9 => h9) (by show some (va_re ad ((σ5 0).2.2.2 9)) = _; rw [eσ5, gI_q, eσ4, gI_q, eσ3, gI_ne _ _ _ (by decide), fcσ2 0 (by decide), q_9]; rfl) dX11_desk_83 ?_
        have hF := gFree hD hS hA
        refine va_callvD hd0 (va_runV_D (As := []) (rest := []) ⟨hx, hb, hml, hown, hts⟩ (n_X4_layOut l dC dI ad cA adK adV H.size σ5 hIσ5 b_7 hb_8) (cwV 0 hts gX11_desk_X4_layOut rfl rfl rfl (by decide +kernel) ⟨Nat.le_of_ble_eq_true rfl, Nat.le_of_ble_eq_true rfl⟩) ⟨gBlind, va_recv hK hP (ci := 3) (q0 := b_7) rfl (at_3 hb_8), gStart (As := [.ref (ad b_7)]) hP hD hK0 hT hS hF (d_11)⟩ rfl rfl hl.1 rfl (lv_room (Nat.le_of_ble_eq_true rfl)) dX11_desk_86 ⟨Nat.le_of_ble_eq_true rfl, Nat.le_of_ble_eq_true rfl⟩) hS (fun q _ h => hF q h) hF (fun σ6 t H locs ht hvm hw hB hz1 hk1 hS d_15 hd0 => ?_)
        have hts := dr_words hts0 (d_15)
        have hK := gKd hK0 (d_15)
        have hown : (s.setDrawn (d_15)).vm.findClass RX11 = some m.cls := hown0
        obtain ⟨hP, hD⟩ := gBack hF ht hB
        obtain ⟨hIσ6, fcσ6, hp_16⟩ := hw
        refine lv_aload_n hx hb dX11_desk_89 rfl (lv_at hl 0 rfl) ?_
        obtain ⟨b_17, hb_18, q_19⟩ := rq_10_8 (c := 0) hI rfl
        refine va_get (D := (dC, dI)) (ci := 10) (v := .ref (ad b_17)) (C := RX11) (T := TX11) (N := 15) hx hb hts hinX11 hown hK hP 0 (at_10 rfl) rfl 8 (by decide) (hts (.fieldLink RX11 60 "BondCalendars" "live" "LBondCalendars$Desk;") (by decide +kernel)) (fun _ h9 => h9) (by show some (va_re ad ((σ6 0).2.2.2 8)) = _; rw [fcσ6 0 (by decide), eσ5, gI_q, eσ4, gI_q, eσ3, gI_ne _ _ _ (by decide), fcσ2 0 (by decide), q_19]; rfl) dX11_desk_90 ?_
        refine lv_astore_n (lv' := [(2, .ref (ad b_17)), (0, .ref (ad 0)), (1, .int p0)]) hx hb dX11_desk_93 rfl hl (by decide) rfl (fun ls hl => ?_)
        refine lv_aload_n hx hb dX11_desk_94 rfl (lv_at hl 1 rfl) ?_
        refine lv_aload_n hx hb dX11_desk_95 rfl (lv_at hl 1 rfl) ?_
        refine va_get (D := (dC, dI)) (ci := 10) (v := .ref (ad b_7)) (C := RX11) (T := TX11) (N := 15) hx hb hts hinX11 hown hK hP 0 (at_10 rfl) rfl 9 (by decide) (hts (.fieldLink RX11 64 "BondCalendars" "draft" "LBondCalendars$Desk;") (by decide +kernel)) (fun _ h9 => h9) (by show some (va_re ad ((σ6 0).2.2.2 9)) = _; rw [fcσ6 0 (by decide), eσ5, gI_q, eσ4, gI_q, eσ3, gI_ne _ _ _ (by decide), fcσ2 0 (by decide), q_9]; rfl) dX11_desk_96 ?_
        refine va_put (D := (dC, dI)) (ci := 10) (v := .ref (ad b_7)) (C := RX11) (T := TX11) (N := 15) hx hb hts hinX11 tyX11 tyX11_ok nmX11 hown hK hP hD hS 0 (at_10 rfl) rfl 8 (by decide) (hts (.fieldLink RX11 60 "BondCalendars" "live" "LBondCalendars$Desk;") (by decide +kernel)) (fun _ h9 => h9) rfl (ty := (.object "BondCalendars$Desk")) (by decide +kernel) rfl rfl (Nat.le_of_ble_eq_true rfl) dX11_desk_99 (fun H locs hP hD hS => ?_)
        obtain ⟨σ7, eσ7, hP, hD⟩ := gPut (se_10_8 rfl) hP hD
        have hIσ7 : InvX σ7 := by rw [eσ7]; exact inv_Q hIσ6 (okq_10_8 rfl hb_8)
        have frσ7 : gFr [0, 1, 3, 4, 5, 6, 7, 9, 10, 22, 24, 25, 27, 28, 30] σ σ7 := by rw [eσ7]; exact gFr.pQ (gFr.tr frσ5 fcσ6 (by decide)) rfl (by decide)
        refine lv_aload_n hx hb dX11_desk_102 rfl (lv_at hl 1 rfl) ?_
        refine lv_aload_n hx hb dX11_desk_103 rfl (lv_at hl 0 rfl) ?_
        refine va_put (D := (dC, dI)) (ci := 10) (v := .ref (ad b_17)) (C := RX11) (T := TX11) (N := 15) hx hb hts hinX11 tyX11 tyX11_ok nmX11 hown hK hP hD hS 0 (at_10 rfl) rfl 9 (by decide) (hts (.fieldLink RX11 64 "BondCalendars" "draft" "LBondCalendars$Desk;") (by decide +kernel)) (fun _ h9 => h9) rfl (ty := (.object "BondCalendars$Desk")) (by decide +kernel) rfl rfl (Nat.le_of_ble_eq_true rfl) dX11_desk_104 (fun H locs hP hD hS => ?_)
        obtain ⟨σ8, eσ8, hP, hD⟩ := gPut (se_10_9 rfl) hP hD
        have hIσ8 : InvX σ8 := by rw [eσ8]; exact inv_Q hIσ7 (okq_10_9 rfl hb_18)
        have frσ8 : gFr [0, 1, 3, 4, 5, 6, 7, 9, 10, 22, 24, 25, 27, 28, 30] σ σ8 := by rw [eσ8]; exact gFr.pQ frσ7 rfl (by decide)
        refine lv_aload_n hx hb dX11_desk_107 rfl (lv_at hl 1 rfl) ?_
        refine lv_iconst (v := 1) hx hb dX11_desk_108 (by decide) ?_
        refine va_put (D := (dC, dI)) (ci := 10) (v := .int 1) (C := RX11) (T := TX11) (N := 15) hx hb hts hinX11 tyX11 tyX11_ok nmX11 hown hK hP hD hS 0 (at_10 rfl) rfl 10 (by decide) (hts (.fieldLink RX11 67 "BondCalendars" "hasDesk" "Z") (by decide +kernel)) (fun _ h9 => h9) rfl (ty := .boolean) (by decide +kernel) (by decide +kernel) (by decide +kernel) (Nat.le_of_ble_eq_true rfl) dX11_desk_109 (fun H locs hP hD hS => ?_)
        obtain ⟨σ9, eσ9, hP, hD⟩ := gPut (se_10_10 rfl) hP hD
        have hIσ9 : InvX σ9 := by rw [eσ9]; exact inv_I hIσ8 (ok_10_10 rfl _)
        have frσ9 : gFr [0, 1, 3, 4, 5, 6, 7, 9, 10, 22, 24, 25, 27, 28, 30] σ σ9 := by rw [eσ9]; exact gFr.pI frσ8 rfl (by decide)
        refine lv_aload_n hx hb dX11_desk_112 rfl (lv_at hl 1 rfl) ?_
        refine lv_iconst (v := 0) hx hb dX11_desk_113 (by decide) ?_
        refine va_put (D := (dC, dI)) (ci := 10) (v := .int 0) (C := RX11) (T := TX11) (N := 15) hx hb hts hinX11 tyX11 tyX11_ok nmX11 hown hK hP hD hS 0 (at_10 rfl) rfl 11 (by decide) (hts (.fieldLink RX11 71 "BondCalendars" "hasKept" "Z") (by decide +kernel)) (fun _ h9 => h9) rfl (ty := .boolean) (by decide +kernel) (by decide +kernel) (by decide +kernel) (Nat.le_of_ble_eq_true rfl) dX11_desk_114 (fun H locs hP hD hS => ?_)
        obtain ⟨σ10, eσ10, hP, hD⟩ := gPut (se_10_11 rfl) hP hD
        have hIσ10 : InvX σ10 := by rw [eσ10]; exact inv_I hIσ9 (ok_10_11 rfl _)
        have frσ10 : gFr [0, 1, 3, 4, 5, 6, 7, 9, 10, 22, 24, 25, 27, 28, 30] σ σ10 := by rw [eσ10]; exact gFr.pI frσ9 rfl (by decide)
        refine lv_aload_n hx hb dX11_desk_117 rfl (lv_at hl 1 rfl) ?_
        refine va_get (D := (dC, dI)) (ci := 10) (v := .ref (ad 12)) (C := RX11) (T := TX11) (N := 15) hx hb hts hinX11 hown hK hP 0 (at_10 rfl) rfl 5 (by decide) (hts (.fieldLink RX11 47 "BondCalendars" "book" "LBondCalendars$Book;") (by decide +kernel)) (fun _ h9 => h9) rfl dX11_desk_118 ?_
        refine lv_aload_n hx hb dX11_desk_121 rfl (lv_at hl 1 rfl) ?_
        obtain ⟨b_20, hb_21, q_22⟩ := rq_10_8 (c := 0) hIσ8 rfl
        refine va_get (D := (dC, dI)) (ci := 10) (v := .ref (ad b_20)) (C := RX11) (T := TX11) (N := 15) hx hb hts hinX11 hown hK hP 0 (at_10 rfl) rfl 8 (by decide) (hts (.fieldLink RX11 60 "BondCalendars" "live" "LBondCalendars$Desk;") (by decide +kernel)) (fun _ h9 => h9) (by show some (va_re ad ((σ10 0).2.2.2 8)) = _; rw [eσ10, gI_q, eσ9, gI_q, q_22]; rfl) dX11_desk_122 ?_
        refine va_get (D := (dC, dI)) (ci := 3) (v := .int ((σ2 b_20).1 0)) (C := RX4) (T := TX4) (N := 12) hx hb hts hinX4 hown hK hP b_20 (at_3 hb_21) rfl 0 (by decide) (hts (.fieldLink RX11 114 "BondCalendars$Desk" "startDay" "I") (by decide +kernel)) (fun _ h9 => h9) (congrArg (fun z => some (Value.int z)) (show (σ10 b_20).1 0 = ((σ2 b_20).1 0) from by rw [eσ10, gI_ne _ _ _ (kne hb_21 rfl (by decide)), eσ9, gI_ne _ _ _ (kne hb_21 rfl (by decide)), eσ8, gQ_ne _ _ _ (kne hb_21 rfl (by decide)), eσ7, gQ_ne _ _ _ (kne hb_21 rfl (by decide)), fcσ6 b_20 (by rw [hb_21]; decide), eσ5, gI_ne _ _ _ (kne hb_21 rfl (by decide)), eσ4, gI_ne _ _ _ (kne hb_21 rfl (by decide)), eσ3, gI_ne _ _ _ (kne hb_21 rfl (by decide))])) dX11_desk_125 ?_
        refine lv_aload_n hx hb dX11_desk_128 rfl (lv_at hl 1 rfl) ?_
        refine va_get (D := (dC, dI)) (ci := 10) (v := .ref (ad b_20)) (C := RX11) (T := TX11) (N := 15) hx hb hts hinX11 hown hK hP 0 (at_10 rfl) rfl 8 (by decide) (hts (.fieldLink RX11 60 "BondCalendars" "live" "LBondCalendars$Desk;") (by decide +kernel)) (fun _ h9 => h9) (by show some (va_re ad ((σ10 0).2.2.2 8)) = _; rw [eσ10, gI_q, eσ9, gI_q, q_22]; rfl) dX11_desk_129 ?_
        refine va_get (D := (dC, dI)) (ci := 3) (v := .int ((σ2 b_20).1 1)) (C := RX4) (T := TX4) (N := 12) hx hb hts hinX4 hown hK hP b_20 (at_3 hb_21) rfl 1 (by decide) (hts (.fieldLink RX11 117 "BondCalendars$Desk" "startCash" "I") (by decide +kernel)) (fun _ h9 => h9) (congrArg (fun z => some (Value.int z)) (show (σ10 b_20).1 1 = ((σ2 b_20).1 1) from by rw [eσ10, gI_ne _ _ _ (kne hb_21 rfl (by decide)), eσ9, gI_ne _ _ _ (kne hb_21 rfl (by decide)), eσ8, gQ_ne _ _ _ (kne hb_21 rfl (by decide)), eσ7, gQ_ne _ _ _ (kne hb_21 rfl (by decide)), fcσ6 b_20 (by rw [hb_21]; decide), eσ5, gI_ne _ _ _ (kne hb_21 rfl (by decide)), eσ4, gI_ne _ _ _ (kne hb_21 rfl (by decide)), eσ3, gI_ne _ _ _ (kne hb_21 rfl (by decide))])) dX11_desk_132 ?_
        have hF := gFree hD hS hA
        refine va_callvD hd0 (va_runV_D (As := [.int ((σ2 b_20).1 0), .int ((σ2 b_20).1 1)]) (rest := []) ⟨hx, hb, hml, hown, hts⟩ (n_X1_open l dC dI ad cA adK adV H.size σ10 hIσ10 12 rfl ((σ2 b_20).1 0) ((σ2 b_20).1 1)) (cwV 2 hts gX11_desk_X1_open rfl rfl rfl (by decide +kernel) ⟨Nat.le_of_ble_eq_true rfl, Nat.le_of_ble_eq_true rfl⟩) ⟨gBlind, va_recv hK hP (ci := 1) (q0 := 12) rfl (at_1 rfl), gStart (As := [.ref (ad 12), .int ((σ2 b_20).1 0), .int ((σ2 b_20).1 1)]) hP hD hK0 hT hS hF (d_15)⟩ rfl rfl hl.1 rfl (lv_room (Nat.le_of_ble_eq_true rfl)) dX11_desk_135 ⟨Nat.le_of_ble_eq_true rfl, Nat.le_of_ble_eq_true rfl⟩) hS (fun q _ h => hF q h) hF (fun σ11 t H locs ht hvm hw hB hz1 hk1 hS d_24 hd0 => ?_)
        have hts := dr_words hts0 (d_24)
        have hK := gKd hK0 (d_24)
        have hown : (s.setDrawn (d_24)).vm.findClass RX11 = some m.cls := hown0
        obtain ⟨hP, hD⟩ := gBack hF ht hB
        obtain ⟨hIσ11, fcσ11, hp_25⟩ := hw
        refine lv_aload_n hx hb dX11_desk_138 rfl (lv_at hl 1 rfl) ?_
        refine lv_iconst (v := 0) hx hb dX11_desk_139 (by decide) ?_
        refine va_put (D := (dC, dI)) (ci := 10) (v := .int 0) (C := RX11) (T := TX11) (N := 15) hx hb hts hinX11 tyX11 tyX11_ok nmX11 hown hK hP hD hS 0 (at_10 rfl) rfl 12 (by decide) (hts (.fieldLink RX11 74 "BondCalendars" "refusal" "I") (by decide +kernel)) (fun _ h9 => h9) rfl (ty := .int) (by decide +kernel) rfl rfl (Nat.le_of_ble_eq_true rfl) dX11_desk_140 (fun H locs hP hD hS => ?_)
        obtain ⟨σ12, eσ12, hP, hD⟩ := gPut (se_10_12 rfl) hP hD
        have hIσ12 : InvX σ12 := by rw [eσ12]; exact inv_I hIσ11 (ok_10_12 rfl _)
        have frσ12 : gFr [0, 1, 3, 4, 5, 6, 7, 9, 10, 22, 24, 25, 27, 28, 30] σ σ12 := by rw [eσ12]; exact gFr.pI (gFr.tr frσ10 fcσ11 (by decide)) rfl (by decide)
        refine lv_aload_n hx hb dX11_desk_143 rfl (lv_at hl 1 rfl) ?_
        refine va_get (D := (dC, dI)) (ci := 10) (v := .ref (ad b_20)) (C := RX11) (T := TX11) (N := 15) hx hb hts hinX11 hown hK hP 0 (at_10 rfl) rfl 8 (by decide) (hts (.fieldLink RX11 60 "BondCalendars" "live" "LBondCalendars$Desk;") (by decide +kernel)) (fun _ h9 => h9) (by show some (va_re ad ((σ12 0).2.2.2 8)) = _; rw [eσ12, gI_q, fcσ11 0 (by decide), eσ10, gI_q, eσ9, gI_q, q_22]; rfl) dX11_desk_144 ?_
        refine va_get (D := (dC, dI)) (ci := 3) (v := .int ((σ2 b_20).1 4)) (C := RX4) (T := TX4) (N := 12) hx hb hts hinX4 hown hK hP b_20 (at_3 hb_21) rfl 4 (by decide) (hts (.fieldLink RX11 124 "BondCalendars$Desk" "bondCount" "I") (by decide +kernel)) (fun _ h9 => h9) (congrArg (fun z => some (Value.int z)) (show (σ12 b_20).1 4 = ((σ2 b_20).1 4) from by rw [eσ12, gI_ne _ _ _ (kne hb_21 rfl (by decide)), fcσ11 b_20 (by rw [hb_21]; decide), eσ10, gI_ne _ _ _ (kne hb_21 rfl (by decide)), eσ9, gI_ne _ _ _ (kne hb_21 rfl (by decide)), eσ8, gQ_ne _ _ _ (kne hb_21 rfl (by decide)), eσ7, gQ_ne _ _ _ (kne hb_21 rfl (by decide)), fcσ6 b_20 (by rw [hb_21]; decide), eσ5, gI_ne _ _ _ (kne hb_21 rfl (by decide)), eσ4, gI_ne _ _ _ (kne hb_21 rfl (by decide)), eσ3, gI_ne _ _ _ (kne hb_21 rfl (by decide))])) dX11_desk_147 ?_
        refine W.endD hd0 ?_
        exact W.iret (v := ((σ2 b_20).1 4)) hx hb hr (fun t ht hW => ⟨⟨((σ2 b_20).1 4), σ12, rfl, ⟨hIσ12, frσ12, trivial⟩, ⟨by rw [ht]; exact hP, hD⟩⟩, hS.F ht⟩) hS.2.2 dX11_desk_150
      · refine lv_aload_n hx hb dX11_desk_76 rfl (lv_at hl 0 rfl) ?_
        refine lv_iconst (v := 4) hx hb dX11_desk_77 (by decide) ?_
        have hF := gFree hD hS hA
        refine va_calliD hd0 (va_runV_D (As := [.int 4]) (rest := []) ⟨hx, hb, hml, hown, hts⟩ (n_X11_refuse l dC dI ad cA adK adV H.size σ5 hIσ5 4) (cwV 1 hts gX11_desk_X11_refuse rfl rfl rfl (by decide +kernel) ⟨Nat.le_of_ble_eq_true rfl, Nat.le_of_ble_eq_true rfl⟩) ⟨gBlind, va_recv hK hP (ci := 10) (q0 := 0) rfl (at_10 rfl), gStart (As := [.ref (ad 0), .int 4]) hP hD hK0 hT hS hF (d_11)⟩ rfl rfl hl.1 rfl (lv_room (Nat.le_of_ble_eq_true rfl)) dX11_desk_78 ⟨Nat.le_of_ble_eq_true rfl, Nat.le_of_ble_eq_true rfl⟩) hS (fun q _ h => hF q h) hF (fun r_26 σ13 t H locs ht hvm hw hB hz1 hk1 hS d_27 hd0 => ?_)
        have hts := dr_words hts0 (d_27)
        have hK := gKd hK0 (d_27)
        have hown : (s.setDrawn (d_27)).vm.findClass RX11 = some m.cls := hown0
        obtain ⟨hP, hD⟩ := gBack hF ht hB
        obtain ⟨hIσ13, fcσ13, hp_28⟩ := hw
        refine W.endD hd0 ?_
        exact W.iret (v := r_26) hx hb hr (fun t ht hW => ⟨⟨r_26, σ13, rfl, ⟨hIσ13, (gFr.tr frσ5 fcσ13 (by decide)), trivial⟩, ⟨by rw [ht]; exact hP, hD⟩⟩, hS.F ht⟩) hS.2.2 dX11_desk_81
    · refine lv_aload_n hx hb dX11_desk_18 rfl (lv_at hl 0 rfl) ?_
      refine lv_iconst (v := 2) hx hb dX11_desk_19 (by decide) ?_
      have hF := gFree hD hS hA
      refine va_calliD hd0 (va_runV_D (As := [.int 2]) (rest := []) ⟨hx, hb, hml, hown, hts⟩ (n_X11_refuse l dC dI ad cA adK adV s.heap.size σ hI 2) (cwV 1 hts gX11_desk_X11_refuse rfl rfl rfl (by decide +kernel) ⟨Nat.le_of_ble_eq_true rfl, Nat.le_of_ble_eq_true rfl⟩) ⟨gBlind, va_recv hK hP (ci := 10) (q0 := 0) rfl (at_10 rfl), gStart (As := [.ref (ad 0), .int 2]) hP hD hK0 hT hS hF (s.drawn)⟩ rfl rfl hl.1 rfl (lv_room (Nat.le_of_ble_eq_true rfl)) dX11_desk_20 ⟨Nat.le_of_ble_eq_true rfl, Nat.le_of_ble_eq_true rfl⟩) hS (fun q _ h => hF q h) hF (fun r_29 σ14 t H locs ht hvm hw hB hz1 hk1 hS d_30 hd0 => ?_)
      have hts := dr_words hts0 (d_30)
      have hK := gKd hK0 (d_30)
      have hown : (s.setDrawn (d_30)).vm.findClass RX11 = some m.cls := hown0
      obtain ⟨hP, hD⟩ := gBack hF ht hB
      obtain ⟨hIσ14, fcσ14, hp_31⟩ := hw
      refine W.endD hd0 ?_
      exact W.iret (v := r_29) hx hb hr (fun t ht hW => ⟨⟨r_29, σ14, rfl, ⟨hIσ14, (gFr.tr (gFr.rfl (L := [0, 1, 3, 4, 5, 6, 7, 9, 10, 22, 24, 25, 27, 28, 30]) (σ := σ)) fcσ14 (by decide)), trivial⟩, ⟨by rw [ht]; exact hP, hD⟩⟩, hS.F ht⟩) hS.2.2 dX11_desk_23
