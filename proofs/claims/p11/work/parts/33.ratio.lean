set_option maxHeartbeats 8000000 in
set_option maxRecDepth 100000 in
theorem n_X6_set (l : Launch) (dC : Nat → ClassId) (dI : Nat → Nat → Nat) (ad : Nat → Nat) (cA : Nat → ClassId) (adK adV : Nat → Nat) (sz : Nat) (σ : gs) (hI : InvX σ) (o : Nat) (ho : kX o = 5) (p0 : Int64) (p1 : Int64) : MetD lw_cs l yX6_set wsX6_set ({ frames := 1, cells := 0, slots := 0, locals := 30 }) (va_Pc [.ref (ad o), .long p0, .long p1] (gPre adK adV (dC, dI) (wX ad cA σ) (tX cA) sz)) (va_Qv (fun (τ : gs) => InvX τ ∧ gFr [5] σ τ ∧ (True)) (fun τ t => gPost (dC, dI) (va_A (wX ad cA σ) sz) (wX ad cA τ) t) (va_A (wX ad cA σ) sz)) 0 0 (va_A (wX ad cA σ) sz) := by
  refine MetD.ofW (cc := cX6_set) (maxL := 7) (ret := none) (by decide) rfl ?_
  intro p e s m args below meth c s₁ B hml hv hd0
  obtain ⟨rfl, hsz, hP, hK, hD0, hT⟩ := hv
  have hx := B.exec
  have hb := B.bytes
  have hr := B.returns
  have hts0 := atoms_spec (ws := wsX6_set) B.pre
  have hK0 := hK
  have hown0 : s.vm.findClass RX6 = some m.cls := findClass_of_methodNamed B.named
  have hlocks := B.notSynchronized
  have hinX6 : ∀ w ∈ u_ws RX6 TX6 2, w ∈ wsX6_set := (fun _ h9 => List.mem_cons_of_mem _ (List.mem_append_right _ h9))
  subst hsz
  have hD := hD0.self (sz := s.heap.size)
  generalize hAe : va_A (wX ad cA σ) s.heap.size = A at hD hT ⊢
  have hA : ∀ q : Nat, s.heap.size ≤ q → A q := fun q h => by rw [← hAe]; exact Or.inr h
  have hS : va_S A s.heap s.heap [] := va_S.rf
  have hl := lv_entry ([.ref (ad o), .long p0, .long p1]) (n := 7) (Nat.le_of_ble_eq_true rfl)
  rw [lg_entry_eq]
  generalize (lg_sl ([.ref (ad o), .long p0, .long p1]) ++ List.replicate (7 - (lg_sl ([.ref (ad o), .long p0, .long p1])).length) Slot.unset).toArray = ls at hl ⊢
  have hl : lv_has ls 7 [(0, .ref (ad o)), (1, .long p0), (3, .long p1)] := hl
  have hts := dr_words hts0 (s.drawn)
  have hK := gKd hK0 (s.drawn)
  have hown : (s.setDrawn (s.drawn)).vm.findClass RX6 = some m.cls := hown0
  refine lv_lload_n hx hb dX6_set_0 rfl (lv_at hl 1 rfl) ?_
  refine lv_lconst (v := 0) hx hb dX6_set_1 (by decide) ?_
  refine W.lcmp hx hb dX6_set_2 ?_
  refine lv_if_ge (tgt := 11) hx hb dX6_set_3 (by decide) (fun c_1 => ?_) (fun c_1 => ?_)
  · refine lv_lload_n hx hb dX6_set_11 rfl (lv_at hl 1 rfl) ?_
    refine lv_lload_n hx hb dX6_set_12 rfl (lv_at hl 2 rfl) ?_
    have hF := gFree (w := []) (hx_D0 (A := A)) hS hA
    have hKe := hK.sub (tys' := []) [] rfl
    refine va_calll (va_runS (As := [.long p0, .long p1]) (rest := []) ⟨hx, hb, hml, hown, hts⟩ (k_X6_commonDivisor l dC dI s.heap.size p0 p1 ) (va_cwS 2 hts gX6_set_X6_commonDivisor rfl rfl rfl (by decide +kernel) ⟨Nat.le_of_ble_eq_true rfl, Nat.le_of_ble_eq_true rfl⟩) ⟨fun a U g mk q => by obtain ⟨q0, q1, qP, qK, qD⟩ := q; exact ⟨q0, q1, qP, va_K.moved (u := U) (U := U.calling g mk a) (Vm.Alike.refl U.vm) qK, qD⟩, fun U hU hW => ⟨rfl, by rw [hU], hx_P0, va_K.moved hW.alike hKe, hx_D0⟩⟩ rfl rfl hl.1 rfl (lv_room (Nat.le_of_ble_eq_true rfl)) dX6_set_13 ⟨Nat.le_of_ble_eq_true rfl, Nat.le_of_ble_eq_true rfl⟩) hS (fun q _ h => hF q h) hF (fun r_2 u t H locs ht hvm hw hB hz1 hk1 hS => ?_)
    have hP := gKeep hP hk1
    refine lv_lstore (lv' := [(5, .long r_2), (0, .ref (ad o)), (1, .long p0), (3, .long p1)]) hx hb dX6_set_16 hl (by decide) rfl (fun ls hl => ?_)
    refine lv_lload hx hb dX6_set_18 (lv_at hl 0 rfl) ?_
    refine lv_lconst (v := 1) hx hb dX6_set_20 (by decide) ?_
    refine W.lcmp hx hb dX6_set_21 ?_
    refine lv_if_ge (tgt := 36) hx hb dX6_set_22 (by decide) (fun c_3 => ?_) (fun c_3 => ?_)
    · refine lv_aload_n hx hb dX6_set_36 rfl (lv_at hl 1 rfl) ?_
      refine lv_lload_n hx hb dX6_set_37 rfl (lv_at hl 2 rfl) ?_
      refine lv_lload hx hb dX6_set_38 (lv_at hl 0 rfl) ?_
      refine lv_ldiv hx hb dX6_set_40 (ne_1 (Int32.not_lt.mpr c_3)) ?_
      refine lv_topl (fun x_4 ex_4 => ?_)
      refine va_put (D := (dC, dI)) (ci := 5) (v := .long x_4) (C := RX6) (T := TX6) (N := 2) hx hb hts hinX6 tyX6 tyX6_ok nmX6 hown hK hP hD hS o (at_5 ho) rfl 0 (by decide) (hts (.fieldLink RX6 7 "BondCalendars$Ratio" "upper" "J") (by decide +kernel)) (fun _ h9 => h9) rfl (ty := .long) (by decide +kernel) rfl rfl (Nat.le_of_ble_eq_true rfl) dX6_set_41 (fun H locs hP hD hS => ?_)
      obtain ⟨σ1, eσ1, hP, hD⟩ := gPut (se_5_0 ho) hP hD
      have hIσ1 : InvX σ1 := by rw [eσ1]; exact inv_L hI
      have frσ1 : gFr [5] σ σ1 := by rw [eσ1]; exact gFr.pL (gFr.rfl (L := [5]) (σ := σ)) ho (by decide)
      refine lv_aload_n hx hb dX6_set_44 rfl (lv_at hl 1 rfl) ?_
      refine lv_lload_n hx hb dX6_set_45 rfl (lv_at hl 3 rfl) ?_
      refine lv_lload hx hb dX6_set_46 (lv_at hl 0 rfl) ?_
      refine lv_ldiv hx hb dX6_set_48 (ne_1 (Int32.not_lt.mpr c_3)) ?_
      refine lv_topl (fun x_5 ex_5 => ?_)
      refine va_put (D := (dC, dI)) (ci := 5) (v := .long x_5) (C := RX6) (T := TX6) (N := 2) hx hb hts hinX6 tyX6 tyX6_ok nmX6 hown hK hP hD hS o (at_5 ho) rfl 1 (by decide) (hts (.fieldLink RX6 13 "BondCalendars$Ratio" "lower" "J") (by decide +kernel)) (fun _ h9 => h9) rfl (ty := .long) (by decide +kernel) rfl rfl (Nat.le_of_ble_eq_true rfl) dX6_set_49 (fun H locs hP hD hS => ?_)
      obtain ⟨σ2, eσ2, hP, hD⟩ := gPut (se_5_1 ho) hP hD
      have hIσ2 : InvX σ2 := by rw [eσ2]; exact inv_L hIσ1
      have frσ2 : gFr [5] σ σ2 := by rw [eσ2]; exact gFr.pL frσ1 ho (by decide)
      refine W.endD hd0 ?_
      exact W.vret hx hb hr (fun t ht hW => ⟨⟨σ2, rfl, ⟨hIσ2, frσ2, trivial⟩, ⟨by rw [ht]; exact hP, hD⟩⟩, hS.F ht⟩) hS.2.2 dX6_set_52
    · refine lv_aload_n hx hb dX6_set_25 rfl (lv_at hl 1 rfl) ?_
      refine lv_lconst (v := 0) hx hb dX6_set_26 (by decide) ?_
      refine va_put (D := (dC, dI)) (ci := 5) (v := .long 0) (C := RX6) (T := TX6) (N := 2) hx hb hts hinX6 tyX6 tyX6_ok nmX6 hown hK hP hD hS o (at_5 ho) rfl 0 (by decide) (hts (.fieldLink RX6 7 "BondCalendars$Ratio" "upper" "J") (by decide +kernel)) (fun _ h9 => h9) rfl (ty := .long) (by decide +kernel) rfl rfl (Nat.le_of_ble_eq_true rfl) dX6_set_27 (fun H locs hP hD hS => ?_)
      obtain ⟨σ3, eσ3, hP, hD⟩ := gPut (se_5_0 ho) hP hD
      have hIσ3 : InvX σ3 := by rw [eσ3]; exact inv_L hI
      have frσ3 : gFr [5] σ σ3 := by rw [eσ3]; exact gFr.pL (gFr.rfl (L := [5]) (σ := σ)) ho (by decide)
      refine lv_aload_n hx hb dX6_set_30 rfl (lv_at hl 1 rfl) ?_
      refine lv_lconst (v := 1) hx hb dX6_set_31 (by decide) ?_
      refine va_put (D := (dC, dI)) (ci := 5) (v := .long 1) (C := RX6) (T := TX6) (N := 2) hx hb hts hinX6 tyX6 tyX6_ok nmX6 hown hK hP hD hS o (at_5 ho) rfl 1 (by decide) (hts (.fieldLink RX6 13 "BondCalendars$Ratio" "lower" "J") (by decide +kernel)) (fun _ h9 => h9) rfl (ty := .long) (by decide +kernel) rfl rfl (Nat.le_of_ble_eq_true rfl) dX6_set_32 (fun H locs hP hD hS => ?_)
      obtain ⟨σ4, eσ4, hP, hD⟩ := gPut (se_5_1 ho) hP hD
      have hIσ4 : InvX σ4 := by rw [eσ4]; exact inv_L hIσ3
      have frσ4 : gFr [5] σ σ4 := by rw [eσ4]; exact gFr.pL frσ3 ho (by decide)
      refine W.endD hd0 ?_
      exact W.vret hx hb hr (fun t ht hW => ⟨⟨σ4, rfl, ⟨hIσ4, frσ4, trivial⟩, ⟨by rw [ht]; exact hP, hD⟩⟩, hS.F ht⟩) hS.2.2 dX6_set_35
  · refine lv_lload_n hx hb dX6_set_6 rfl (lv_at hl 1 rfl) ?_
    refine lv_lneg hx hb dX6_set_7 ?_
    refine lv_goto (tgt := 12) hx hb dX6_set_8 (by decide) ?_
    refine lv_lload_n hx hb dX6_set_12 rfl (lv_at hl 2 rfl) ?_
    have hF := gFree (w := []) (hx_D0 (A := A)) hS hA
    have hKe := hK.sub (tys' := []) [] rfl
    refine va_calll (va_runS (As := [.long (-p0), .long p1]) (rest := []) ⟨hx, hb, hml, hown, hts⟩ (k_X6_commonDivisor l dC dI s.heap.size (-p0) p1 ) (va_cwS 2 hts gX6_set_X6_commonDivisor rfl rfl rfl (by decide +kernel) ⟨Nat.le_of_ble_eq_true rfl, Nat.le_of_ble_eq_true rfl⟩) ⟨fun a U g mk q => by obtain ⟨q0, q1, qP, qK, qD⟩ := q; exact ⟨q0, q1, qP, va_K.moved (u := U) (U := U.calling g mk a) (Vm.Alike.refl U.vm) qK, qD⟩, fun U hU hW => ⟨rfl, by rw [hU], hx_P0, va_K.moved hW.alike hKe, hx_D0⟩⟩ rfl rfl hl.1 rfl (lv_room (Nat.le_of_ble_eq_true rfl)) dX6_set_13 ⟨Nat.le_of_ble_eq_true rfl, Nat.le_of_ble_eq_true rfl⟩) hS (fun q _ h => hF q h) hF (fun r_6 u t H locs ht hvm hw hB hz1 hk1 hS => ?_)
    have hP := gKeep hP hk1
    refine lv_lstore (lv' := [(5, .long r_6), (0, .ref (ad o)), (1, .long p0), (3, .long p1)]) hx hb dX6_set_16 hl (by decide) rfl (fun ls hl => ?_)
    refine lv_lload hx hb dX6_set_18 (lv_at hl 0 rfl) ?_
    refine lv_lconst (v := 1) hx hb dX6_set_20 (by decide) ?_
    refine W.lcmp hx hb dX6_set_21 ?_
    refine lv_if_ge (tgt := 36) hx hb dX6_set_22 (by decide) (fun c_7 => ?_) (fun c_7 => ?_)
    · refine lv_aload_n hx hb dX6_set_36 rfl (lv_at hl 1 rfl) ?_
      refine lv_lload_n hx hb dX6_set_37 rfl (lv_at hl 2 rfl) ?_
      refine lv_lload hx hb dX6_set_38 (lv_at hl 0 rfl) ?_
      refine lv_ldiv hx hb dX6_set_40 (ne_1 (Int32.not_lt.mpr c_7)) ?_
      refine lv_topl (fun x_8 ex_8 => ?_)
      refine va_put (D := (dC, dI)) (ci := 5) (v := .long x_8) (C := RX6) (T := TX6) (N := 2) hx hb hts hinX6 tyX6 tyX6_ok nmX6 hown hK hP hD hS o (at_5 ho) rfl 0 (by decide) (hts (.fieldLink RX6 7 "BondCalendars$Ratio" "upper" "J") (by decide +kernel)) (fun _ h9 => h9) rfl (ty := .long) (by decide +kernel) rfl rfl (Nat.le_of_ble_eq_true rfl) dX6_set_41 (fun H locs hP hD hS => ?_)
      obtain ⟨σ5, eσ5, hP, hD⟩ := gPut (se_5_0 ho) hP hD
      have hIσ5 : InvX σ5 := by rw [eσ5]; exact inv_L hI
      have frσ5 : gFr [5] σ σ5 := by rw [eσ5]; exact gFr.pL (gFr.rfl (L := [5]) (σ := σ)) ho (by decide)
      refine lv_aload_n hx hb dX6_set_44 rfl (lv_at hl 1 rfl) ?_
      refine lv_lload_n hx hb dX6_set_45 rfl (lv_at hl 3 rfl) ?_
      refine lv_lload hx hb dX6_set_46 (lv_at hl 0 rfl) ?_
      refine lv_ldiv hx hb dX6_set_48 (ne_1 (Int32.not_lt.mpr c_7)) ?_
      refine lv_topl (fun x_9 ex_9 => ?_)
      refine va_put (D := (dC, dI)) (ci := 5) (v := .long x_9) (C := RX6) (T := TX6) (N := 2) hx hb hts hinX6 tyX6 tyX6_ok nmX6 hown hK hP hD hS o (at_5 ho) rfl 1 (by decide) (hts (.fieldLink RX6 13 "BondCalendars$Ratio" "lower" "J") (by decide +kernel)) (fun _ h9 => h9) rfl (ty := .long) (by decide +kernel) rfl rfl (Nat.le_of_ble_eq_true rfl) dX6_set_49 (fun H locs hP hD hS => ?_)
      obtain ⟨σ6, eσ6, hP, hD⟩ := gPut (se_5_1 ho) hP hD
      have hIσ6 : InvX σ6 := by rw [eσ6]; exact inv_L hIσ5
      have frσ6 : gFr [5] σ σ6 := by rw [eσ6]; exact gFr.pL frσ5 ho (by decide)
      refine W.endD hd0 ?_
      exact W.vret hx hb hr (fun t ht hW => ⟨⟨σ6, rfl, ⟨hIσ6, frσ6, trivial⟩, ⟨by rw [ht]; exact hP, hD⟩⟩, hS.F ht⟩) hS.2.2 dX6_set_52
    · refine lv_aload_n hx hb dX6_set_25 rfl (lv_at hl 1 rfl) ?_
      refine lv_lconst (v := 0) hx hb dX6_set_26 (by decide) ?_
      refine va_put (D := (dC, dI)) (ci := 5) (v := .long 0) (C := RX6) (T := TX6) (N := 2) hx hb hts hinX6 tyX6 tyX6_ok nmX6 hown hK hP hD hS o (at_5 ho) rfl 0 (by decide) (hts (.fieldLink RX6 7 "BondCalendars$Ratio" "upper" "J") (by decide +kernel)) (fun _ h9 => h9) rfl (ty := .long) (by decide +kernel) rfl rfl (Nat.le_of_ble_eq_true rfl) dX6_set_27 (fun H locs hP hD hS => ?_)
      obtain ⟨σ7, eσ7, hP, hD⟩ := gPut (se_5_0 ho) hP hD
      have hIσ7 : InvX σ7 := by rw [eσ7]; exact inv_L hI
      have frσ7 : gFr [5] σ σ7 := by rw [eσ7]; exact gFr.pL (gFr.rfl (L := [5]) (σ := σ)) ho (by decide)
      refine lv_aload_n hx hb dX6_set_30 rfl (lv_at hl 1 rfl) ?_
      refine lv_lconst (v := 1) hx hb dX6_set_31 (by decide) ?_
      refine va_put (D := (dC, dI)) (ci := 5) (v := .long 1) (C := RX6) (T := TX6) (N := 2) hx hb hts hinX6 tyX6 tyX6_ok nmX6 hown hK hP hD hS o (at_5 ho) rfl 1 (by decide) (hts (.fieldLink RX6 13 "BondCalendars$Ratio" "lower" "J") (by decide +kernel)) (fun _ h9 => h9) rfl (ty := .long) (by decide +kernel) rfl rfl (Nat.le_of_ble_eq_true rfl) dX6_set_32 (fun H locs hP hD hS => ?_)
      obtain ⟨σ8, eσ8, hP, hD⟩ := gPut (se_5_1 ho) hP hD
      have hIσ8 : InvX σ8 := by rw [eσ8]; exact inv_L hIσ7
      have frσ8 : gFr [5] σ σ8 := by rw [eσ8]; exact gFr.pL frσ7 ho (by decide)
      refine W.endD hd0 ?_
      exact W.vret hx hb hr (fun t ht hW => ⟨⟨σ8, rfl, ⟨hIσ8, frσ8, trivial⟩, ⟨by rw [ht]; exact hP, hD⟩⟩, hS.F ht⟩) hS.2.2 dX6_set_35
set_option maxHeartbeats 8000000 in
set_option maxRecDepth 100000 in
theorem n_X6_add (l : Launch) (dC : Nat → ClassId) (dI : Nat → Nat → Nat) (ad : Nat → Nat) (cA : Nat → ClassId) (adK adV : Nat → Nat) (sz : Nat) (σ : gs) (hI : InvX σ) (o : Nat) (ho : kX o = 5) (p0 : Int64) (p1 : Int64) : MetD lw_cs l yX6_add wsX6_add ({ frames := 2, cells := 0, slots := 0, locals := 56 }) (va_Pc [.ref (ad o), .long p0, .long p1] (gPre adK adV (dC, dI) (wX ad cA σ) (tX cA) sz)) (va_Qv (fun (τ : gs) => InvX τ ∧ gFr [5] σ τ ∧ (True)) (fun τ t => gPost (dC, dI) (va_A (wX ad cA σ) sz) (wX ad cA τ) t) (va_A (wX ad cA σ) sz)) 0 0 (va_A (wX ad cA σ) sz) := by
  refine MetD.ofW (cc := cX6_add) (maxL := 9) (ret := none) (by decide) rfl ?_
  intro p e s m args below meth c s₁ B hml hv hd0
  obtain ⟨rfl, hsz, hP, hK, hD0, hT⟩ := hv
  have hx := B.exec
  have hb := B.bytes
  have hr := B.returns
  have hts0 := atoms_spec (ws := wsX6_add) B.pre
  have hK0 := hK
  have hown0 : s.vm.findClass RX6 = some m.cls := findClass_of_methodNamed B.named
  have hlocks := B.notSynchronized
  have hinX6 : ∀ w ∈ u_ws RX6 TX6 2, w ∈ wsX6_add := (fun _ h9 => List.mem_cons_of_mem _ (List.mem_append_right _ h9))
  subst hsz
  have hD := hD0.self (sz := s.heap.size)
  generalize hAe : va_A (wX ad cA σ) s.heap.size = A at hD hT ⊢
  have hA : ∀ q : Nat, s.heap.size ≤ q → A q := fun q h => by rw [← hAe]; exact Or.inr h
  have hS : va_S A s.heap s.heap [] := va_S.rf
  have hl := lv_entry ([.ref (ad o), .long p0, .long p1]) (n := 9) (Nat.le_of_ble_eq_true rfl)
  rw [lg_entry_eq]
  generalize (lg_sl ([.ref (ad o), .long p0, .long p1]) ++ List.replicate (9 - (lg_sl ([.ref (ad o), .long p0, .long p1])).length) Slot.unset).toArray = ls at hl ⊢
  have hl : lv_has ls 9 [(0, .ref (ad o)), (1, .long p0), (3, .long p1)] := hl
  have hts := dr_words hts0 (s.drawn)
  have hK := gKd hK0 (s.drawn)
  have hown : (s.setDrawn (s.drawn)).vm.findClass RX6 = some m.cls := hown0
  refine lv_aload_n hx hb dX6_add_0 rfl (lv_at hl 0 rfl) ?_
  refine va_get (D := (dC, dI)) (ci := 5) (v := .long ((σ o).2.1 1)) (C := RX6) (T := TX6) (N := 2) hx hb hts hinX6 hown hK hP o (at_5 ho) rfl 1 (by decide) (hts (.fieldLink RX6 13 "BondCalendars$Ratio" "lower" "J") (by decide +kernel)) (fun _ h9 => h9) rfl dX6_add_1 ?_
  refine lv_lload_n hx hb dX6_add_4 rfl (lv_at hl 2 rfl) ?_
  have hF := gFree (w := []) (hx_D0 (A := A)) hS hA
  have hKe := hK.sub (tys' := []) [] rfl
  refine va_calll (va_runS (As := [.long ((σ o).2.1 1), .long p1]) (rest := []) ⟨hx, hb, hml, hown, hts⟩ (k_X6_commonDivisor l dC dI s.heap.size ((σ o).2.1 1) p1 ) (va_cwS 2 hts gX6_add_X6_commonDivisor rfl rfl rfl (by decide +kernel) ⟨Nat.le_of_ble_eq_true rfl, Nat.le_of_ble_eq_true rfl⟩) ⟨fun a U g mk q => by obtain ⟨q0, q1, qP, qK, qD⟩ := q; exact ⟨q0, q1, qP, va_K.moved (u := U) (U := U.calling g mk a) (Vm.Alike.refl U.vm) qK, qD⟩, fun U hU hW => ⟨rfl, by rw [hU], hx_P0, va_K.moved hW.alike hKe, hx_D0⟩⟩ rfl rfl hl.1 rfl (lv_room (Nat.le_of_ble_eq_true rfl)) dX6_add_5 ⟨Nat.le_of_ble_eq_true rfl, Nat.le_of_ble_eq_true rfl⟩) hS (fun q _ h => hF q h) hF (fun r_1 u t H locs ht hvm hw hB hz1 hk1 hS => ?_)
  have hP := gKeep hP hk1
  refine lv_lstore (lv' := [(5, .long r_1), (0, .ref (ad o)), (1, .long p0), (3, .long p1)]) hx hb dX6_add_8 hl (by decide) rfl (fun ls hl => ?_)
  refine lv_lload hx hb dX6_add_10 (lv_at hl 0 rfl) ?_
  refine lv_lconst (v := 1) hx hb dX6_add_12 (by decide) ?_
  refine W.lcmp hx hb dX6_add_13 ?_
  refine lv_if_ge (tgt := 18) hx hb dX6_add_14 (by decide) (fun c_2 => ?_) (fun c_2 => ?_)
  · refine lv_lload_n hx hb dX6_add_18 rfl (lv_at hl 3 rfl) ?_
    refine lv_lload hx hb dX6_add_19 (lv_at hl 0 rfl) ?_
    refine lv_ldiv hx hb dX6_add_21 (ne_1 (Int32.not_lt.mpr c_2)) ?_
    refine lv_topl (fun x_3 ex_3 => ?_)
    refine lv_lstore (lv' := [(7, .long x_3), (5, .long r_1), (0, .ref (ad o)), (1, .long p0), (3, .long p1)]) hx hb dX6_add_22 hl (by decide) rfl (fun ls hl => ?_)
    refine lv_aload_n hx hb dX6_add_24 rfl (lv_at hl 2 rfl) ?_
    refine lv_aload_n hx hb dX6_add_25 rfl (lv_at hl 2 rfl) ?_
    refine va_get (D := (dC, dI)) (ci := 5) (v := .long ((σ o).2.1 0)) (C := RX6) (T := TX6) (N := 2) hx hb hts hinX6 hown hK hP o (at_5 ho) rfl 0 (by decide) (hts (.fieldLink RX6 7 "BondCalendars$Ratio" "upper" "J") (by decide +kernel)) (fun _ h9 => h9) rfl dX6_add_26 ?_
    refine lv_lload hx hb dX6_add_29 (lv_at hl 0 rfl) ?_
    refine lv_lmul hx hb dX6_add_31 ?_
    refine lv_topl (fun x_4 ex_4 => ?_)
    refine lv_lload_n hx hb dX6_add_32 rfl (lv_at hl 3 rfl) ?_
    refine lv_aload_n hx hb dX6_add_33 rfl (lv_at hl 2 rfl) ?_
    refine va_get (D := (dC, dI)) (ci := 5) (v := .long ((σ o).2.1 1)) (C := RX6) (T := TX6) (N := 2) hx hb hts hinX6 hown hK hP o (at_5 ho) rfl 1 (by decide) (hts (.fieldLink RX6 13 "BondCalendars$Ratio" "lower" "J") (by decide +kernel)) (fun _ h9 => h9) rfl dX6_add_34 ?_
    refine lv_lload hx hb dX6_add_37 (lv_at hl 1 rfl) ?_
    refine lv_ldiv hx hb dX6_add_39 (ne_1 (Int32.not_lt.mpr c_2)) ?_
    refine lv_topl (fun x_5 ex_5 => ?_)
    refine lv_lmul hx hb dX6_add_40 ?_
    refine lv_topl (fun x_6 ex_6 => ?_)
    refine lv_ladd hx hb dX6_add_41 ?_
    refine lv_topl (fun x_7 ex_7 => ?_)
    refine lv_aload_n hx hb dX6_add_42 rfl (lv_at hl 2 rfl) ?_
    refine va_get (D := (dC, dI)) (ci := 5) (v := .long ((σ o).2.1 1)) (C := RX6) (T := TX6) (N := 2) hx hb hts hinX6 hown hK hP o (at_5 ho) rfl 1 (by decide) (hts (.fieldLink RX6 13 "BondCalendars$Ratio" "lower" "J") (by decide +kernel)) (fun _ h9 => h9) rfl dX6_add_43 ?_
    refine lv_lload hx hb dX6_add_46 (lv_at hl 0 rfl) ?_
    refine lv_lmul hx hb dX6_add_48 ?_
    refine lv_topl (fun x_8 ex_8 => ?_)
    have hF := gFree hD hS hA
    refine va_callvD hd0 (va_runV_D (As := [.long x_7, .long x_8]) (rest := []) ⟨hx, hb, hml, hown, hts⟩ (n_X6_set l dC dI ad cA adK adV H.size σ hI o ho x_7 x_8) (cwV 2 hts gX6_add_X6_set rfl rfl rfl (by decide +kernel) ⟨Nat.le_of_ble_eq_true rfl, Nat.le_of_ble_eq_true rfl⟩) ⟨gBlind, va_recv hK hP (ci := 5) (q0 := o) rfl (at_5 ho), gStart (As := [.ref (ad o), .long x_7, .long x_8]) hP hD hK0 hT hS hF (s.drawn)⟩ rfl rfl hl.1 rfl (lv_room (Nat.le_of_ble_eq_true rfl)) dX6_add_49 ⟨Nat.le_of_ble_eq_true rfl, Nat.le_of_ble_eq_true rfl⟩) hS (fun q _ h => hF q h) hF (fun σ1 t H locs ht hvm hw hB hz1 hk1 hS d_10 hd0 => ?_)
    have hts := dr_words hts0 (d_10)
    have hK := gKd hK0 (d_10)
    have hown : (s.setDrawn (d_10)).vm.findClass RX6 = some m.cls := hown0
    obtain ⟨hP, hD⟩ := gBack hF ht hB
    obtain ⟨hIσ1, fcσ1, hp_11⟩ := hw
    refine W.endD hd0 ?_
    exact W.vret hx hb hr (fun t ht hW => ⟨⟨σ1, rfl, ⟨hIσ1, (gFr.tr (gFr.rfl (L := [5]) (σ := σ)) fcσ1 (by decide)), trivial⟩, ⟨by rw [ht]; exact hP, hD⟩⟩, hS.F ht⟩) hS.2.2 dX6_add_52
  · refine W.endD hd0 ?_
    exact W.vret hx hb hr (fun t ht hW => ⟨⟨σ, rfl, ⟨hI, (gFr.rfl (L := [5]) (σ := σ)), trivial⟩, ⟨by rw [ht]; exact hP, hD⟩⟩, hS.F ht⟩) hS.2.2 dX6_add_17
set_option maxHeartbeats 8000000 in
set_option maxRecDepth 100000 in
theorem n_X6_multiply (l : Launch) (dC : Nat → ClassId) (dI : Nat → Nat → Nat) (ad : Nat → Nat) (cA : Nat → ClassId) (adK adV : Nat → Nat) (sz : Nat) (σ : gs) (hI : InvX σ) (o : Nat) (ho : kX o = 5) (p0 : Int64) (p1 : Int64) : MetD lw_cs l yX6_multiply wsX6_multiply ({ frames := 2, cells := 0, slots := 0, locals := 56 }) (va_Pc [.ref (ad o), .long p0, .long p1] (gPre adK adV (dC, dI) (wX ad cA σ) (tX cA) sz)) (va_Qv (fun (τ : gs) => InvX τ ∧ gFr [5] σ τ ∧ (True)) (fun τ t => gPost (dC, dI) (va_A (wX ad cA σ) sz) (wX ad cA τ) t) (va_A (wX ad cA σ) sz)) 0 0 (va_A (wX ad cA σ) sz) := by
  refine MetD.ofW (cc := cX6_multiply) (maxL := 5) (ret := none) (by decide) rfl ?_
  intro p e s m args below meth c s₁ B hml hv hd0
  obtain ⟨rfl, hsz, hP, hK, hD0, hT⟩ := hv
  have hx := B.exec
  have hb := B.bytes
  have hr := B.returns
  have hts0 := atoms_spec (ws := wsX6_multiply) B.pre
  have hK0 := hK
  have hown0 : s.vm.findClass RX6 = some m.cls := findClass_of_methodNamed B.named
  have hlocks := B.notSynchronized
  have hinX6 : ∀ w ∈ u_ws RX6 TX6 2, w ∈ wsX6_multiply := (fun _ h9 => List.mem_cons_of_mem _ (List.mem_append_right _ h9))
  subst hsz
  have hD := hD0.self (sz := s.heap.size)
  generalize hAe : va_A (wX ad cA σ) s.heap.size = A at hD hT ⊢
  have hA : ∀ q : Nat, s.heap.size ≤ q → A q := fun q h => by rw [← hAe]; exact Or.inr h
  have hS : va_S A s.heap s.heap [] := va_S.rf
  have hl := lv_entry ([.ref (ad o), .long p0, .long p1]) (n := 5) (Nat.le_of_ble_eq_true rfl)
  rw [lg_entry_eq]
  generalize (lg_sl ([.ref (ad o), .long p0, .long p1]) ++ List.replicate (5 - (lg_sl ([.ref (ad o), .long p0, .long p1])).length) Slot.unset).toArray = ls at hl ⊢
  have hl : lv_has ls 5 [(0, .ref (ad o)), (1, .long p0), (3, .long p1)] := hl
  have hts := dr_words hts0 (s.drawn)
  have hK := gKd hK0 (s.drawn)
  have hown : (s.setDrawn (s.drawn)).vm.findClass RX6 = some m.cls := hown0
  refine lv_aload_n hx hb dX6_multiply_0 rfl (lv_at hl 0 rfl) ?_
  refine lv_aload_n hx hb dX6_multiply_1 rfl (lv_at hl 0 rfl) ?_
  refine va_get (D := (dC, dI)) (ci := 5) (v := .long ((σ o).2.1 0)) (C := RX6) (T := TX6) (N := 2) hx hb hts hinX6 hown hK hP o (at_5 ho) rfl 0 (by decide) (hts (.fieldLink RX6 7 "BondCalendars$Ratio" "upper" "J") (by decide +kernel)) (fun _ h9 => h9) rfl dX6_multiply_2 ?_
  refine lv_lload_n hx hb dX6_multiply_5 rfl (lv_at hl 1 rfl) ?_
  refine lv_lmul hx hb dX6_multiply_6 ?_
  refine lv_topl (fun x_1 ex_1 => ?_)
  refine lv_aload_n hx hb dX6_multiply_7 rfl (lv_at hl 0 rfl) ?_
  refine va_get (D := (dC, dI)) (ci := 5) (v := .long ((σ o).2.1 1)) (C := RX6) (T := TX6) (N := 2) hx hb hts hinX6 hown hK hP o (at_5 ho) rfl 1 (by decide) (hts (.fieldLink RX6 13 "BondCalendars$Ratio" "lower" "J") (by decide +kernel)) (fun _ h9 => h9) rfl dX6_multiply_8 ?_
  refine lv_lload_n hx hb dX6_multiply_11 rfl (lv_at hl 2 rfl) ?_
  refine lv_lmul hx hb dX6_multiply_12 ?_
  refine lv_topl (fun x_2 ex_2 => ?_)
  have hF := gFree hD hS hA
  refine va_callvD hd0 (va_runV_D (As := [.long x_1, .long x_2]) (rest := []) ⟨hx, hb, hml, hown, hts⟩ (n_X6_set l dC dI ad cA adK adV s.heap.size σ hI o ho x_1 x_2) (cwV 2 hts gX6_multiply_X6_set rfl rfl rfl (by decide +kernel) ⟨Nat.le_of_ble_eq_true rfl, Nat.le_of_ble_eq_true rfl⟩) ⟨gBlind, va_recv hK hP (ci := 5) (q0 := o) rfl (at_5 ho), gStart (As := [.ref (ad o), .long x_1, .long x_2]) hP hD hK0 hT hS hF (s.drawn)⟩ rfl rfl hl.1 rfl (lv_room (Nat.le_of_ble_eq_true rfl)) dX6_multiply_13 ⟨Nat.le_of_ble_eq_true rfl, Nat.le_of_ble_eq_true rfl⟩) hS (fun q _ h => hF q h) hF (fun σ1 t H locs ht hvm hw hB hz1 hk1 hS d_4 hd0 => ?_)
  have hts := dr_words hts0 (d_4)
  have hK := gKd hK0 (d_4)
  have hown : (s.setDrawn (d_4)).vm.findClass RX6 = some m.cls := hown0
  obtain ⟨hP, hD⟩ := gBack hF ht hB
  obtain ⟨hIσ1, fcσ1, hp_5⟩ := hw
  refine W.endD hd0 ?_
  exact W.vret hx hb hr (fun t ht hW => ⟨⟨σ1, rfl, ⟨hIσ1, (gFr.tr (gFr.rfl (L := [5]) (σ := σ)) fcσ1 (by decide)), trivial⟩, ⟨by rw [ht]; exact hP, hD⟩⟩, hS.F ht⟩) hS.2.2 dX6_multiply_16
set_option maxHeartbeats 8000000 in
set_option maxRecDepth 100000 in
theorem n_X6_setCounted (l : Launch) (dC : Nat → ClassId) (dI : Nat → Nat → Nat) (ad : Nat → Nat) (cA : Nat → ClassId) (adK adV : Nat → Nat) (sz : Nat) (σ : gs) (hI : InvX σ) (o : Nat) (ho : kX o = 5) (p0 : Int32) (p1 : Int32) (p2 : Int32) : MetD lw_cs l yX6_setCounted wsX6_setCounted ({ frames := 2, cells := 0, slots := 0, locals := 56 }) (va_Pc [.ref (ad o), .int p0, .int p1, .int p2] (gPre adK adV (dC, dI) (wX ad cA σ) (tX cA) sz)) (va_Qv (fun (τ : gs) => InvX τ ∧ gFr [5] σ τ ∧ (True)) (fun τ t => gPost (dC, dI) (va_A (wX ad cA σ) sz) (wX ad cA τ) t) (va_A (wX ad cA σ) sz)) 0 0 (va_A (wX ad cA σ) sz) := by
  refine MetD.ofW (cc := cX6_setCounted) (maxL := 4) (ret := none) (by decide) rfl ?_
  intro p e s m args below meth c s₁ B hml hv hd0
  obtain ⟨rfl, hsz, hP, hK, hD0, hT⟩ := hv
  have hx := B.exec
  have hb := B.bytes
  have hr := B.returns
  have hts0 := atoms_spec (ws := wsX6_setCounted) B.pre
  have hK0 := hK
  have hown0 : s.vm.findClass RX6 = some m.cls := findClass_of_methodNamed B.named
  have hlocks := B.notSynchronized
  subst hsz
  have hD := hD0.self (sz := s.heap.size)
  generalize hAe : va_A (wX ad cA σ) s.heap.size = A at hD hT ⊢
  have hA : ∀ q : Nat, s.heap.size ≤ q → A q := fun q h => by rw [← hAe]; exact Or.inr h
  have hS : va_S A s.heap s.heap [] := va_S.rf
  have hl := lv_entry ([.ref (ad o), .int p0, .int p1, .int p2]) (n := 4) (Nat.le_of_ble_eq_true rfl)
  rw [lg_entry_eq]
  generalize (lg_sl ([.ref (ad o), .int p0, .int p1, .int p2]) ++ List.replicate (4 - (lg_sl ([.ref (ad o), .int p0, .int p1, .int p2])).length) Slot.unset).toArray = ls at hl ⊢
  have hl : lv_has ls 4 [(0, .ref (ad o)), (1, .int p0), (2, .int p1), (3, .int p2)] := hl
  have hts := dr_words hts0 (s.drawn)
  have hK := gKd hK0 (s.drawn)
  have hown : (s.setDrawn (s.drawn)).vm.findClass RX6 = some m.cls := hown0
  refine lv_iload_n hx hb dX6_setCounted_0 rfl (lv_at hl 1 rfl) ?_
  refine lv_iconst (v := 2) hx hb dX6_setCounted_1 (by decide) ?_
  refine lv_icmp_ne (tgt := 19) hx hb dX6_setCounted_2 (by decide) (fun c_1 => ?_) (fun c_1 => ?_)
  · refine lv_iload_n hx hb dX6_setCounted_19 rfl (lv_at hl 1 rfl) ?_
    refine lv_iconst (v := 3) hx hb dX6_setCounted_20 (by decide) ?_
    refine lv_icmp_ne (tgt := 38) hx hb dX6_setCounted_21 (by decide) (fun c_2 => ?_) (fun c_2 => ?_)
    · refine lv_aload_n hx hb dX6_setCounted_38 rfl (lv_at hl 0 rfl) ?_
      refine lv_iload_n hx hb dX6_setCounted_39 rfl (lv_at hl 1 rfl) ?_
      refine lv_iload_n hx hb dX6_setCounted_40 rfl (lv_at hl 2 rfl) ?_
      have hF := gFree (w := []) (hx_D0 (A := A)) hS hA
      have hKe := hK.sub (tys' := []) [] rfl
      refine va_calli (va_runS (As := [.int p1]) (rest := [.int p0, .ref (ad o)]) ⟨hx, hb, hml, hown, hts⟩ (k_X3_numberOf l dC dI s.heap.size p1 ) (va_cwS 1 hts gX6_setCounted_X3_numberOf rfl rfl rfl (by decide +kernel) ⟨Nat.le_of_ble_eq_true rfl, Nat.le_of_ble_eq_true rfl⟩) ⟨fun a U g mk q => by obtain ⟨q0, q1, qP, qK, qD⟩ := q; exact ⟨q0, q1, qP, va_K.moved (u := U) (U := U.calling g mk a) (Vm.Alike.refl U.vm) qK, qD⟩, fun U hU hW => ⟨rfl, by rw [hU], hx_P0, va_K.moved hW.alike hKe, hx_D0⟩⟩ rfl rfl hl.1 rfl (lv_room (Nat.le_of_ble_eq_true rfl)) dX6_setCounted_41 ⟨Nat.le_of_ble_eq_true rfl, Nat.le_of_ble_eq_true rfl⟩) hS (fun q _ h => hF q h) hF (fun r_3 u t H locs ht hvm hw hB hz1 hk1 hS => ?_)
      have hP := gKeep hP hk1
      refine lv_iload_n hx hb dX6_setCounted_44 rfl (lv_at hl 3 rfl) ?_
      have hF := gFree (w := []) (hx_D0 (A := A)) hS hA
      have hKe := hK.sub (tys' := []) [] rfl
      refine va_calli (va_runS (As := [.int p2]) (rest := [.int r_3, .int p0, .ref (ad o)]) ⟨hx, hb, hml, hown, hts⟩ (k_X3_numberOf l dC dI H.size p2 ) (va_cwS 1 hts gX6_setCounted_X3_numberOf rfl rfl rfl (by decide +kernel) ⟨Nat.le_of_ble_eq_true rfl, Nat.le_of_ble_eq_true rfl⟩) ⟨fun a U g mk q => by obtain ⟨q0, q1, qP, qK, qD⟩ := q; exact ⟨q0, q1, qP, va_K.moved (u := U) (U := U.calling g mk a) (Vm.Alike.refl U.vm) qK, qD⟩, fun U hU hW => ⟨rfl, by rw [hU], hx_P0, va_K.moved hW.alike hKe, hx_D0⟩⟩ rfl rfl hl.1 rfl (lv_room (Nat.le_of_ble_eq_true rfl)) dX6_setCounted_45 ⟨Nat.le_of_ble_eq_true rfl, Nat.le_of_ble_eq_true rfl⟩) hS (fun q _ h => hF q h) hF (fun r_4 u t H locs ht hvm hw hB hz1 hk1 hS => ?_)
      have hP := gKeep hP hk1
      have hF := gFree (w := []) (hx_D0 (A := A)) hS hA
      have hKe := hK.sub (tys' := []) [] rfl
      refine va_calli (va_runS (As := [.int p0, .int r_3, .int r_4]) (rest := [.ref (ad o)]) ⟨hx, hb, hml, hown, hts⟩ (k_X6_thirtyDays l dC dI H.size p0 r_3 r_4 ) (va_cwS 3 hts gX6_setCounted_X6_thirtyDays rfl rfl rfl (by decide +kernel) ⟨Nat.le_of_ble_eq_true rfl, Nat.le_of_ble_eq_true rfl⟩) ⟨fun a U g mk q => by obtain ⟨q0, q1, qP, qK, qD⟩ := q; exact ⟨q0, q1, qP, va_K.moved (u := U) (U := U.calling g mk a) (Vm.Alike.refl U.vm) qK, qD⟩, fun U hU hW => ⟨rfl, by rw [hU], hx_P0, va_K.moved hW.alike hKe, hx_D0⟩⟩ rfl rfl hl.1 rfl (lv_room (Nat.le_of_ble_eq_true rfl)) dX6_setCounted_48 ⟨Nat.le_of_ble_eq_true rfl, Nat.le_of_ble_eq_true rfl⟩) hS (fun q _ h => hF q h) hF (fun r_5 u t H locs ht hvm hw hB hz1 hk1 hS => ?_)
      have hP := gKeep hP hk1
      refine lv_i2l hx hb dX6_setCounted_51 rfl ?_
      refine lv_ldc2 (v := 360) hx hb hown (hts (.constantLong RX6 26 (360)) (by decide +kernel)) dX6_setCounted_52 ?_
      have hF := gFree hD hS hA
      refine va_callvD hd0 (va_runV_D (As := [.long (r_5.toInt64), .long 360]) (rest := []) ⟨hx, hb, hml, hown, hts⟩ (n_X6_set l dC dI ad cA adK adV H.size σ hI o ho (r_5.toInt64) 360) (cwV 2 hts gX6_setCounted_X6_set rfl rfl rfl (by decide +kernel) ⟨Nat.le_of_ble_eq_true rfl, Nat.le_of_ble_eq_true rfl⟩) ⟨gBlind, va_recv hK hP (ci := 5) (q0 := o) rfl (at_5 ho), gStart (As := [.ref (ad o), .long (r_5.toInt64), .long 360]) hP hD hK0 hT hS hF (s.drawn)⟩ rfl rfl hl.1 rfl (lv_room (Nat.le_of_ble_eq_true rfl)) dX6_setCounted_55 ⟨Nat.le_of_ble_eq_true rfl, Nat.le_of_ble_eq_true rfl⟩) hS (fun q _ h => hF q h) hF (fun σ1 t H locs ht hvm hw hB hz1 hk1 hS d_7 hd0 => ?_)
      have hts := dr_words hts0 (d_7)
      have hK := gKd hK0 (d_7)
      have hown : (s.setDrawn (d_7)).vm.findClass RX6 = some m.cls := hown0
      obtain ⟨hP, hD⟩ := gBack hF ht hB
      obtain ⟨hIσ1, fcσ1, hp_8⟩ := hw
      refine W.endD hd0 ?_
      exact W.vret hx hb hr (fun t ht hW => ⟨⟨σ1, rfl, ⟨hIσ1, (gFr.tr (gFr.rfl (L := [5]) (σ := σ)) fcσ1 (by decide)), trivial⟩, ⟨by rw [ht]; exact hP, hD⟩⟩, hS.F ht⟩) hS.2.2 dX6_setCounted_58
    · refine lv_aload_n hx hb dX6_setCounted_24 rfl (lv_at hl 0 rfl) ?_
      refine lv_iload_n hx hb dX6_setCounted_25 rfl (lv_at hl 3 rfl) ?_
      refine lv_iload_n hx hb dX6_setCounted_26 rfl (lv_at hl 2 rfl) ?_
      refine lv_isub hx hb dX6_setCounted_27 ?_
      refine lv_topi (fun x_9 ex_9 => ?_)
      refine lv_i2l hx hb dX6_setCounted_28 rfl ?_
      refine lv_ldc2 (v := 365) hx hb hown (hts (.constantLong RX6 28 (365)) (by decide +kernel)) dX6_setCounted_29 ?_
      have hF := gFree hD hS hA
      refine va_callvD hd0 (va_runV_D (As := [.long (x_9.toInt64), .long 365]) (rest := []) ⟨hx, hb, hml, hown, hts⟩ (n_X6_set l dC dI ad cA adK adV s.heap.size σ hI o ho (x_9.toInt64) 365) (cwV 2 hts gX6_setCounted_X6_set rfl rfl rfl (by decide +kernel) ⟨Nat.le_of_ble_eq_true rfl, Nat.le_of_ble_eq_true rfl⟩) ⟨gBlind, va_recv hK hP (ci := 5) (q0 := o) rfl (at_5 ho), gStart (As := [.ref (ad o), .long (x_9.toInt64), .long 365]) hP hD hK0 hT hS hF (s.drawn)⟩ rfl rfl hl.1 rfl (lv_room (Nat.le_of_ble_eq_true rfl)) dX6_setCounted_32 ⟨Nat.le_of_ble_eq_true rfl, Nat.le_of_ble_eq_true rfl⟩) hS (fun q _ h => hF q h) hF (fun σ2 t H locs ht hvm hw hB hz1 hk1 hS d_11 hd0 => ?_)
      have hts := dr_words hts0 (d_11)
      have hK := gKd hK0 (d_11)
      have hown : (s.setDrawn (d_11)).vm.findClass RX6 = some m.cls := hown0
      obtain ⟨hP, hD⟩ := gBack hF ht hB
      obtain ⟨hIσ2, fcσ2, hp_12⟩ := hw
      refine lv_goto (tgt := 58) hx hb dX6_setCounted_35 (by decide) ?_
      refine W.endD hd0 ?_
      exact W.vret hx hb hr (fun t ht hW => ⟨⟨σ2, rfl, ⟨hIσ2, (gFr.tr (gFr.rfl (L := [5]) (σ := σ)) fcσ2 (by decide)), trivial⟩, ⟨by rw [ht]; exact hP, hD⟩⟩, hS.F ht⟩) hS.2.2 dX6_setCounted_58
  · refine lv_aload_n hx hb dX6_setCounted_5 rfl (lv_at hl 0 rfl) ?_
    refine lv_iload_n hx hb dX6_setCounted_6 rfl (lv_at hl 3 rfl) ?_
    refine lv_iload_n hx hb dX6_setCounted_7 rfl (lv_at hl 2 rfl) ?_
    refine lv_isub hx hb dX6_setCounted_8 ?_
    refine lv_topi (fun x_13 ex_13 => ?_)
    refine lv_i2l hx hb dX6_setCounted_9 rfl ?_
    refine lv_ldc2 (v := 360) hx hb hown (hts (.constantLong RX6 26 (360)) (by decide +kernel)) dX6_setCounted_10 ?_
    have hF := gFree hD hS hA
    refine va_callvD hd0 (va_runV_D (As := [.long (x_13.toInt64), .long 360]) (rest := []) ⟨hx, hb, hml, hown, hts⟩ (n_X6_set l dC dI ad cA adK adV s.heap.size σ hI o ho (x_13.toInt64) 360) (cwV 2 hts gX6_setCounted_X6_set rfl rfl rfl (by decide +kernel) ⟨Nat.le_of_ble_eq_true rfl, Nat.le_of_ble_eq_true rfl⟩) ⟨gBlind, va_recv hK hP (ci := 5) (q0 := o) rfl (at_5 ho), gStart (As := [.ref (ad o), .long (x_13.toInt64), .long 360]) hP hD hK0 hT hS hF (s.drawn)⟩ rfl rfl hl.1 rfl (lv_room (Nat.le_of_ble_eq_true rfl)) dX6_setCounted_13 ⟨Nat.le_of_ble_eq_true rfl, Nat.le_of_ble_eq_true rfl⟩) hS (fun q _ h => hF q h) hF (fun σ3 t H locs ht hvm hw hB hz1 hk1 hS d_15 hd0 => ?_)
    have hts := dr_words hts0 (d_15)
    have hK := gKd hK0 (d_15)
    have hown : (s.setDrawn (d_15)).vm.findClass RX6 = some m.cls := hown0
    obtain ⟨hP, hD⟩ := gBack hF ht hB
    obtain ⟨hIσ3, fcσ3, hp_16⟩ := hw
    refine lv_goto (tgt := 58) hx hb dX6_setCounted_16 (by decide) ?_
    refine W.endD hd0 ?_
    exact W.vret hx hb hr (fun t ht hW => ⟨⟨σ3, rfl, ⟨hIσ3, (gFr.tr (gFr.rfl (L := [5]) (σ := σ)) fcσ3 (by decide)), trivial⟩, ⟨by rw [ht]; exact hP, hD⟩⟩, hS.F ht⟩) hS.2.2 dX6_setCounted_58
set_option maxHeartbeats 8000000 in
set_option maxRecDepth 100000 in
theorem n_X6_part (l : Launch) (dC : Nat → ClassId) (dI : Nat → Nat → Nat) (ad : Nat → Nat) (cA : Nat → ClassId) (adK adV : Nat → Nat) (sz : Nat) (σ : gs) (hI : InvX σ) (o : Nat) (ho : kX o = 5) (p0 : Int32) : MetD lw_cs l yX6_part wsX6_part ({ frames := 0, cells := 0, slots := 0, locals := 0 }) (va_Pc [.ref (ad o), .int p0] (gPre adK adV (dC, dI) (wX ad cA σ) (tX cA) sz)) (va_Ql (fun (r : Int64) (τ : gs) => InvX τ ∧ σ = τ ∧ (True)) (fun τ t => gPost (dC, dI) (va_A (wX ad cA σ) sz) (wX ad cA τ) t) (va_A (wX ad cA σ) sz)) 0 0 (va_A (wX ad cA σ) sz) := by
  refine MetD.ofW (cc := cX6_part) (maxL := 2) (ret := (some .long)) (by decide) rfl ?_
  intro p e s m args below meth c s₁ B hml hv hd0
  obtain ⟨rfl, hsz, hP, hK, hD0, hT⟩ := hv
  have hx := B.exec
  have hb := B.bytes
  have hr := B.returns
  have hts0 := atoms_spec (ws := wsX6_part) B.pre
  have hK0 := hK
  have hown0 : s.vm.findClass RX6 = some m.cls := findClass_of_methodNamed B.named
  have hlocks := B.notSynchronized
  have hinX6 : ∀ w ∈ u_ws RX6 TX6 2, w ∈ wsX6_part := (fun _ h9 => List.mem_cons_of_mem _ (List.mem_append_right _ h9))
  subst hsz
  have hD := hD0.self (sz := s.heap.size)
  generalize hAe : va_A (wX ad cA σ) s.heap.size = A at hD hT ⊢
  have hA : ∀ q : Nat, s.heap.size ≤ q → A q := fun q h => by rw [← hAe]; exact Or.inr h
  have hS : va_S A s.heap s.heap [] := va_S.rf
  have hl := lv_entry ([.ref (ad o), .int p0]) (n := 2) (Nat.le_of_ble_eq_true rfl)
  rw [lg_entry_eq]
  generalize (lg_sl ([.ref (ad o), .int p0]) ++ List.replicate (2 - (lg_sl ([.ref (ad o), .int p0])).length) Slot.unset).toArray = ls at hl ⊢
  have hl : lv_has ls 2 [(0, .ref (ad o)), (1, .int p0)] := hl
  have hts := dr_words hts0 (s.drawn)
  have hK := gKd hK0 (s.drawn)
  have hown : (s.setDrawn (s.drawn)).vm.findClass RX6 = some m.cls := hown0
  refine lv_iload_n hx hb dX6_part_0 rfl (lv_at hl 1 rfl) ?_
  refine lv_if_eq (tgt := 11) hx hb dX6_part_1 (by decide) (fun c_1 => ?_) (fun c_1 => ?_)
  · refine lv_aload_n hx hb dX6_part_11 rfl (lv_at hl 0 rfl) ?_
    refine va_get (D := (dC, dI)) (ci := 5) (v := .long ((σ o).2.1 0)) (C := RX6) (T := TX6) (N := 2) hx hb hts hinX6 hown hK hP o (at_5 ho) rfl 0 (by decide) (hts (.fieldLink RX6 7 "BondCalendars$Ratio" "upper" "J") (by decide +kernel)) (fun _ h9 => h9) rfl dX6_part_12 ?_
    refine W.endD hd0 ?_
    exact W.lret (v := ((σ o).2.1 0)) hx hb hr (fun t ht hW => ⟨⟨((σ o).2.1 0), σ, rfl, ⟨hI, rfl, trivial⟩, ⟨by rw [ht]; exact hP, hD⟩⟩, hS.F ht⟩) hS.2.2 dX6_part_15
  · refine lv_aload_n hx hb dX6_part_4 rfl (lv_at hl 0 rfl) ?_
    refine va_get (D := (dC, dI)) (ci := 5) (v := .long ((σ o).2.1 1)) (C := RX6) (T := TX6) (N := 2) hx hb hts hinX6 hown hK hP o (at_5 ho) rfl 1 (by decide) (hts (.fieldLink RX6 13 "BondCalendars$Ratio" "lower" "J") (by decide +kernel)) (fun _ h9 => h9) rfl dX6_part_5 ?_
    refine lv_goto (tgt := 15) hx hb dX6_part_8 (by decide) ?_
    refine W.endD hd0 ?_
    exact W.lret (v := ((σ o).2.1 1)) hx hb hr (fun t ht hW => ⟨⟨((σ o).2.1 1), σ, rfl, ⟨hI, rfl, trivial⟩, ⟨by rw [ht]; exact hP, hD⟩⟩, hS.F ht⟩) hS.2.2 dX6_part_15
set_option maxHeartbeats 8000000 in
set_option maxRecDepth 100000 in
theorem n_X6_value (l : Launch) (dC : Nat → ClassId) (dI : Nat → Nat → Nat) (ad : Nat → Nat) (cA : Nat → ClassId) (adK adV : Nat → Nat) (sz : Nat) (σ : gs) (hI : InvX σ) (o : Nat) (ho : kX o = 5) : MetD lw_cs l yX6_value wsX6_value ({ frames := 0, cells := 0, slots := 0, locals := 0 }) (va_Pc [.ref (ad o)] (gPre adK adV (dC, dI) (wX ad cA σ) (tX cA) sz)) (va_Qd (fun (r : UInt64) (τ : gs) => InvX τ ∧ σ = τ ∧ (True)) (fun τ t => gPost (dC, dI) (va_A (wX ad cA σ) sz) (wX ad cA τ) t) (va_A (wX ad cA σ) sz)) 0 0 (va_A (wX ad cA σ) sz) := by
  refine MetD.ofW (cc := cX6_value) (maxL := 1) (ret := (some .double)) (by decide) rfl ?_
  intro p e s m args below meth c s₁ B hml hv hd0
  obtain ⟨rfl, hsz, hP, hK, hD0, hT⟩ := hv
  have hx := B.exec
  have hb := B.bytes
  have hr := B.returns
  have hts0 := atoms_spec (ws := wsX6_value) B.pre
  have hK0 := hK
  have hown0 : s.vm.findClass RX6 = some m.cls := findClass_of_methodNamed B.named
  have hlocks := B.notSynchronized
  have hinX6 : ∀ w ∈ u_ws RX6 TX6 2, w ∈ wsX6_value := (fun _ h9 => List.mem_cons_of_mem _ (List.mem_append_right _ h9))
  subst hsz
  have hD := hD0.self (sz := s.heap.size)
  generalize hAe : va_A (wX ad cA σ) s.heap.size = A at hD hT ⊢
  have hA : ∀ q : Nat, s.heap.size ≤ q → A q := fun q h => by rw [← hAe]; exact Or.inr h
  have hS : va_S A s.heap s.heap [] := va_S.rf
  have hl := lv_entry ([.ref (ad o)]) (n := 1) (Nat.le_of_ble_eq_true rfl)
  rw [lg_entry_eq]
  generalize (lg_sl ([.ref (ad o)]) ++ List.replicate (1 - (lg_sl ([.ref (ad o)])).length) Slot.unset).toArray = ls at hl ⊢
  have hl : lv_has ls 1 [(0, .ref (ad o))] := hl
  have hts := dr_words hts0 (s.drawn)
  have hK := gKd hK0 (s.drawn)
  have hown : (s.setDrawn (s.drawn)).vm.findClass RX6 = some m.cls := hown0
  refine lv_aload_n hx hb dX6_value_0 rfl (lv_at hl 0 rfl) ?_
  refine va_get (D := (dC, dI)) (ci := 5) (v := .long ((σ o).2.1 0)) (C := RX6) (T := TX6) (N := 2) hx hb hts hinX6 hown hK hP o (at_5 ho) rfl 0 (by decide) (hts (.fieldLink RX6 7 "BondCalendars$Ratio" "upper" "J") (by decide +kernel)) (fun _ h9 => h9) rfl dX6_value_1 ?_
  refine lv_l2d hx hb dX6_value_4 ?_
  refine lv_topd (fun y_1 _ => ?_)
  refine lv_aload_n hx hb dX6_value_5 rfl (lv_at hl 0 rfl) ?_
  refine va_get (D := (dC, dI)) (ci := 5) (v := .long ((σ o).2.1 1)) (C := RX6) (T := TX6) (N := 2) hx hb hts hinX6 hown hK hP o (at_5 ho) rfl 1 (by decide) (hts (.fieldLink RX6 13 "BondCalendars$Ratio" "lower" "J") (by decide +kernel)) (fun _ h9 => h9) rfl dX6_value_6 ?_
  refine lv_l2d hx hb dX6_value_9 ?_
  refine lv_topd (fun y_2 _ => ?_)
  refine lv_ddiv_any hd0 lw_bits hx hb dX6_value_10 (fun y_3 d_4 _ hd0 => ?_)
  have hts := dr_words hts0 (d_4)
  have hK := gKd hK0 (d_4)
  have hown : (s.setDrawn (d_4)).vm.findClass RX6 = some m.cls := hown0
  refine W.endD hd0 ?_
  exact W.dret (v := y_3) hx hb hr (fun t ht hW => ⟨⟨y_3, σ, rfl, ⟨hI, rfl, trivial⟩, ⟨by rw [ht]; exact hP, hD⟩⟩, hS.F ht⟩) hS.2.2 dX6_value_11
set_option maxHeartbeats 8000000 in
set_option maxRecDepth 100000 in
theorem n_X6_floorTimes (l : Launch) (dC : Nat → ClassId) (dI : Nat → Nat → Nat) (ad : Nat → Nat) (cA : Nat → ClassId) (adK adV : Nat → Nat) (sz : Nat) (σ : gs) (hI : InvX σ) (o : Nat) (ho : kX o = 5) (p0 : Int64) : MetD lw_cs l yX6_floorTimes wsX6_floorTimes ({ frames := 1, cells := 0, slots := 0, locals := 25 }) (va_Pc [.ref (ad o), .long p0] (gPre adK adV (dC, dI) (wX ad cA σ) (tX cA) sz)) (va_Ql (fun (r : Int64) (τ : gs) => InvX τ ∧ σ = τ ∧ (True)) (fun τ t => gPost (dC, dI) (va_A (wX ad cA σ) sz) (wX ad cA τ) t) (va_A (wX ad cA σ) sz)) 0 0 (va_A (wX ad cA σ) sz) := by
  refine MetD.ofW (cc := cX6_floorTimes) (maxL := 3) (ret := (some .long)) (by decide) rfl ?_
  intro p e s m args below meth c s₁ B hml hv hd0
  obtain ⟨rfl, hsz, hP, hK, hD0, hT⟩ := hv
  have hx := B.exec
  have hb := B.bytes
  have hr := B.returns
  have hts0 := atoms_spec (ws := wsX6_floorTimes) B.pre
  have hK0 := hK
  have hown0 : s.vm.findClass RX6 = some m.cls := findClass_of_methodNamed B.named
  have hlocks := B.notSynchronized
  have hinX6 : ∀ w ∈ u_ws RX6 TX6 2, w ∈ wsX6_floorTimes := (fun _ h9 => List.mem_cons_of_mem _ (List.mem_append_right _ h9))
  subst hsz
  have hD := hD0.self (sz := s.heap.size)
  generalize hAe : va_A (wX ad cA σ) s.heap.size = A at hD hT ⊢
  have hA : ∀ q : Nat, s.heap.size ≤ q → A q := fun q h => by rw [← hAe]; exact Or.inr h
  have hS : va_S A s.heap s.heap [] := va_S.rf
  have hl := lv_entry ([.ref (ad o), .long p0]) (n := 3) (Nat.le_of_ble_eq_true rfl)
  rw [lg_entry_eq]
  generalize (lg_sl ([.ref (ad o), .long p0]) ++ List.replicate (3 - (lg_sl ([.ref (ad o), .long p0])).length) Slot.unset).toArray = ls at hl ⊢
  have hl : lv_has ls 3 [(0, .ref (ad o)), (1, .long p0)] := hl
  have hts := dr_words hts0 (s.drawn)
  have hK := gKd hK0 (s.drawn)
  have hown : (s.setDrawn (s.drawn)).vm.findClass RX6 = some m.cls := hown0
  refine lv_aload_n hx hb dX6_floorTimes_0 rfl (lv_at hl 0 rfl) ?_
  refine va_get (D := (dC, dI)) (ci := 5) (v := .long ((σ o).2.1 1)) (C := RX6) (T := TX6) (N := 2) hx hb hts hinX6 hown hK hP o (at_5 ho) rfl 1 (by decide) (hts (.fieldLink RX6 13 "BondCalendars$Ratio" "lower" "J") (by decide +kernel)) (fun _ h9 => h9) rfl dX6_floorTimes_1 ?_
  refine lv_lconst (v := 1) hx hb dX6_floorTimes_4 (by decide) ?_
  refine W.lcmp hx hb dX6_floorTimes_5 ?_
  refine lv_if_ge (tgt := 13) hx hb dX6_floorTimes_6 (by decide) (fun c_1 => ?_) (fun c_1 => ?_)
  · refine lv_aload_n hx hb dX6_floorTimes_13 rfl (lv_at hl 0 rfl) ?_
    refine va_get (D := (dC, dI)) (ci := 5) (v := .long ((σ o).2.1 0)) (C := RX6) (T := TX6) (N := 2) hx hb hts hinX6 hown hK hP o (at_5 ho) rfl 0 (by decide) (hts (.fieldLink RX6 7 "BondCalendars$Ratio" "upper" "J") (by decide +kernel)) (fun _ h9 => h9) rfl dX6_floorTimes_14 ?_
    refine lv_lload_n hx hb dX6_floorTimes_17 rfl (lv_at hl 1 rfl) ?_
    refine lv_lmul hx hb dX6_floorTimes_18 ?_
    refine lv_topl (fun x_2 ex_2 => ?_)
    refine lv_aload_n hx hb dX6_floorTimes_19 rfl (lv_at hl 0 rfl) ?_
    refine va_get (D := (dC, dI)) (ci := 5) (v := .long ((σ o).2.1 1)) (C := RX6) (T := TX6) (N := 2) hx hb hts hinX6 hown hK hP o (at_5 ho) rfl 1 (by decide) (hts (.fieldLink RX6 13 "BondCalendars$Ratio" "lower" "J") (by decide +kernel)) (fun _ h9 => h9) rfl dX6_floorTimes_20 ?_
    have hF := gFree (w := []) (hx_D0 (A := A)) hS hA
    have hKe := hK.sub (tys' := []) [] rfl
    refine va_calll (va_runS (As := [.long x_2, .long ((σ o).2.1 1)]) (rest := []) ⟨hx, hb, hml, hown, hts⟩ (k_J9_floorDiv_f86c9 l dC dI s.heap.size x_2 ((σ o).2.1 1) (ne_1 (Int32.not_lt.mpr c_1))) (va_cwS 2 hts gX6_floorTimes_J9_floorDiv_f86c9 rfl rfl rfl (by decide +kernel) ⟨Nat.le_of_ble_eq_true rfl, Nat.le_of_ble_eq_true rfl⟩) ⟨fun a U g mk q => by obtain ⟨q0, q1, qP, qK, qD⟩ := q; exact ⟨q0, q1, qP, va_K.moved (u := U) (U := U.calling g mk a) (Vm.Alike.refl U.vm) qK, qD⟩, fun U hU hW => ⟨rfl, by rw [hU], hx_P0, va_K.moved hW.alike hKe, hx_D0⟩⟩ rfl rfl hl.1 rfl (lv_room (Nat.le_of_ble_eq_true rfl)) dX6_floorTimes_23 ⟨Nat.le_of_ble_eq_true rfl, Nat.le_of_ble_eq_true rfl⟩) hS (fun q _ h => hF q h) hF (fun r_3 u t H locs ht hvm hw hB hz1 hk1 hS => ?_)
    have hP := gKeep hP hk1
    refine W.endD hd0 ?_
    exact W.lret (v := r_3) hx hb hr (fun t ht hW => ⟨⟨r_3, σ, rfl, ⟨hI, rfl, trivial⟩, ⟨by rw [ht]; exact hP, hD⟩⟩, hS.F ht⟩) hS.2.2 dX6_floorTimes_26
  · refine lv_lconst (v := 0) hx hb dX6_floorTimes_9 (by decide) ?_
    refine lv_goto (tgt := 26) hx hb dX6_floorTimes_10 (by decide) ?_
    refine W.endD hd0 ?_
    exact W.lret (v := 0) hx hb hr (fun t ht hW => ⟨⟨0, σ, rfl, ⟨hI, rfl, trivial⟩, ⟨by rw [ht]; exact hP, hD⟩⟩, hS.F ht⟩) hS.2.2 dX6_floorTimes_26
