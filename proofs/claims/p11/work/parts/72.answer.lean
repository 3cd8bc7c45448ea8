theorem gL_oth (σ : gs) (c : Nat) {k j : Nat} (x : Int64) (h : j ≠ k) : ((gL σ c k x) c).2.1 j = (σ c).2.1 j := by simp [gL, va_up, vp_updL, h]
theorem gL_sf (σ : gs) (c k : Nat) (x : Int64) : ((gL σ c k x) c).2.1 k = x := by simp [gL, va_up, vp_updL]

set_option maxHeartbeats 8000000 in
set_option maxRecDepth 100000 in
theorem n_X6_setF (l : Launch) (dC : Nat → ClassId) (dI : Nat → Nat → Nat) (ad : Nat → Nat) (cA : Nat → ClassId) (adK adV : Nat → Nat) (sz : Nat) (σ : gs) (hI : InvX σ) (o : Nat) (ho : kX o = 5) (p0 : Int64) (p1 : Int64) : MetD lw_cs l yX6_set wsX6_set ({ frames := 1, cells := 0, slots := 0, locals := 30 }) (va_Pc [.ref (ad o), .long p0, .long p1] (gPre adK adV (dC, dI) (wX ad cA σ) (tX cA) sz)) (va_Qv (fun (τ : gs) => InvX τ ∧ gFr [5] σ τ ∧ ((τ o).2.1 0 = (f_X6_set 0 0 p0 p1).1 ∧ (τ o).2.1 1 = (f_X6_set 0 0 p0 p1).2)) (fun τ t => gPost (dC, dI) (va_A (wX ad cA σ) sz) (wX ad cA τ) t) (va_A (wX ad cA σ) sz)) 0 0 (va_A (wX ad cA σ) sz) := by
  refine MetD.ofW (cc := cX6_set) (maxL := 7) (ret := none) (by decide) rfl ?_
  intro p e s m args below meth c s₁ B hml hv hd0
  obtain ⟨rfl, hsz, hP, hK, hD0, hT⟩ := hv
  have hx := B.exec
  have hb := B.bytes
  have hr := B.returns
  have hts0 := atoms_spec (ws := wsX6_set) B.pre
  have hK0 := hK
  have hown0 : s.vm.findClass RX6 = some m.cls := findClass_of_methodNamed B.named
  have hlocks := B.notSynchronized
  have hinX6 : ∀ w ∈ u_ws RX6 TX6 2, w ∈ wsX6_set := (fun _ h9 => List.mem_cons_of_mem _ (List.mem_append_right _ h9))
  subst hsz
  have hD := hD0.self (sz := s.heap.size)
  generalize hAe : va_A (wX ad cA σ) s.heap.size = A at hD hT ⊢
  have hA : ∀ q : Nat, s.heap.size ≤ q → A q := fun q h => by rw [← hAe]; exact Or.inr h
  have hS : va_S A s.heap s.heap [] := va_S.rf
  have hl := lv_entry ([.ref (ad o), .long p0, .long p1]) (n := 7) (Nat.le_of_ble_eq_true rfl)
  rw [lg_entry_eq]
  generalize (lg_sl ([.ref (ad o), .long p0, .long p1]) ++ List.replicate (7 - (lg_sl ([.ref (ad o), .long p0, .long p1])).length) Slot.unset).toArray = ls at hl ⊢
  have hl : lv_has ls 7 [(0, .ref (ad o)), (1, .long p0), (3, .long p1)] := hl
  have hts := dr_words hts0 (s.drawn)
  have hK := gKd hK0 (s.drawn)
  have hown : (s.setDrawn (s.drawn)).vm.findClass RX6 = some m.cls := hown0
  refine lv_lload_n hx hb dX6_set_0 rfl (lv_at hl 1 rfl) ?_
  refine lv_lconst (v := 0) hx hb dX6_set_1 (by decide) ?_
  refine W.lcmp hx hb dX6_set_2 ?_
  refine lv_if_ge (tgt := 11) hx hb dX6_set_3 (by decide) (fun c_1 => ?_) (fun c_1 => ?_)
  · refine lv_lload_n hx hb dX6_set_11 rfl (lv_at hl 1 rfl) ?_
    refine lv_lload_n hx hb dX6_set_12 rfl (lv_at hl 2 rfl) ?_
    have hF := gFree (w := []) (hx_D0 (A := A)) hS hA
    have hKe := hK.sub (tys' := []) [] rfl
    refine va_calll (va_runS (As := [.long p0, .long p1]) (rest := []) ⟨hx, hb, hml, hown, hts⟩ (k_X6_commonDivisor l dC dI s.heap.size p0 p1 ) (va_cwS 2 hts gX6_set_X6_commonDivisor rfl rfl rfl (by decide +kernel) ⟨Nat.le_of_ble_eq_true rfl, Nat.le_of_ble_eq_true rfl⟩) ⟨fun a U g mk q => by obtain ⟨q0, q1, qP, qK, qD⟩ := q; exact ⟨q0, q1, qP, va_K.moved (u := U) (U := U.calling g mk a) (Vm.Alike.refl U.vm) qK, qD⟩, fun U hU hW => ⟨rfl, by rw [hU], hx_P0, va_K.moved hW.alike hKe, hx_D0⟩⟩ rfl rfl hl.1 rfl (lv_room (Nat.le_of_ble_eq_true rfl)) dX6_set_13 ⟨Nat.le_of_ble_eq_true rfl, Nat.le_of_ble_eq_true rfl⟩) hS (fun q _ h => hF q h) hF (fun r_2 u t H locs ht hvm hw hB hz1 hk1 hS => ?_)
    have hP := gKeep hP hk1
    have pu_3 : r_2 = f_X6_commonDivisor p0 p1 := hw
    refine lv_lstore (lv' := [(5, .long r_2), (0, .ref (ad o)), (1, .long p0), (3, .long p1)]) hx hb dX6_set_16 hl (by decide) rfl (fun ls hl => ?_)
    refine lv_lload hx hb dX6_set_18 (lv_at hl 0 rfl) ?_
    refine lv_lconst (v := 1) hx hb dX6_set_20 (by decide) ?_
    refine W.lcmp hx hb dX6_set_21 ?_
    refine lv_if_ge (tgt := 36) hx hb dX6_set_22 (by decide) (fun c_4 => ?_) (fun c_4 => ?_)
    · refine lv_aload_n hx hb dX6_set_36 rfl (lv_at hl 1 rfl) ?_
      refine lv_lload_n hx hb dX6_set_37 rfl (lv_at hl 2 rfl) ?_
      refine lv_lload hx hb dX6_set_38 (lv_at hl 0 rfl) ?_
      refine lv_ldiv hx hb dX6_set_40 (ne_1 (Int32.not_lt.mpr c_4)) ?_
      refine lv_topl (fun x_5 ex_5 => ?_)
      refine va_put (D := (dC, dI)) (ci := 5) (v := .long x_5) (C := RX6) (T := TX6) (N := 2) hx hb hts hinX6 tyX6 tyX6_ok nmX6 hown hK hP hD hS o (at_5 ho) rfl 0 (by decide) (hts (.fieldLink RX6 7 "BondCalendars$Ratio" "upper" "J") (by decide +kernel)) (fun _ h9 => h9) rfl (ty := .long) (by decide +kernel) rfl rfl (Nat.le_of_ble_eq_true rfl) dX6_set_41 (fun H locs hP hD hS => ?_)
      obtain ⟨σ1, eσ1, hP, hD⟩ := gPut (se_5_0 ho) hP hD
      have hIσ1 : InvX σ1 := by rw [eσ1]; exact inv_L hI
      have frσ1 : gFr [5] σ σ1 := by rw [eσ1]; exact gFr.pL (gFr.rfl (L := [5]) (σ := σ)) ho (by decide)
      refine lv_aload_n hx hb dX6_set_44 rfl (lv_at hl 1 rfl) ?_
      refine lv_lload_n hx hb dX6_set_45 rfl (lv_at hl 3 rfl) ?_
      refine lv_lload hx hb dX6_set_46 (lv_at hl 0 rfl) ?_
      refine lv_ldiv hx hb dX6_set_48 (ne_1 (Int32.not_lt.mpr c_4)) ?_
      refine lv_topl (fun x_6 ex_6 => ?_)
      refine va_put (D := (dC, dI)) (ci := 5) (v := .long x_6) (C := RX6) (T := TX6) (N := 2) hx hb hts hinX6 tyX6 tyX6_ok nmX6 hown hK hP hD hS o (at_5 ho) rfl 1 (by decide) (hts (.fieldLink RX6 13 "BondCalendars$Ratio" "lower" "J") (by decide +kernel)) (fun _ h9 => h9) rfl (ty := .long) (by decide +kernel) rfl rfl (Nat.le_of_ble_eq_true rfl) dX6_set_49 (fun H locs hP hD hS => ?_)
      obtain ⟨σ2, eσ2, hP, hD⟩ := gPut (se_5_1 ho) hP hD
      have hIσ2 : InvX σ2 := by rw [eσ2]; exact inv_L hIσ1
      have frσ2 : gFr [5] σ σ2 := by rw [eσ2]; exact gFr.pL frσ1 ho (by decide)
      refine W.endD hd0 ?_
      exact W.vret hx hb hr (fun t ht hW => ⟨⟨σ2, rfl, ⟨hIσ2, frσ2, ⟨by rw [eσ2, gL_oth _ _ _ (by decide), eσ1, gL_sf]; unfold f_X6_set; simp only [← pu_3, if_pos c_1, if_pos c_4]; try (rw [ex_5]); try rfl, by rw [eσ2, gL_sf]; unfold f_X6_set; simp only [← pu_3, if_pos c_1, if_pos c_4]; try (rw [ex_6]); try rfl⟩⟩, ⟨by rw [ht]; exact hP, hD⟩⟩, hS.F ht⟩) hS.2.2 dX6_set_52
    · refine lv_aload_n hx hb dX6_set_25 rfl (lv_at hl 1 rfl) ?_
      refine lv_lconst (v := 0) hx hb dX6_set_26 (by decide) ?_
      refine va_put (D := (dC, dI)) (ci := 5) (v := .long 0) (C := RX6) (T := TX6) (N := 2) hx hb hts hinX6 tyX6 tyX6_ok nmX6 hown hK hP hD hS o (at_5 ho) rfl 0 (by decide) (hts (.fieldLink RX6 7 "BondCalendars$Ratio" "upper" "J") (by decide +kernel)) (fun _ h9 => h9) rfl (ty := .long) (by decide +kernel) rfl rfl (Nat.le_of_ble_eq_true rfl) dX6_set_27 (fun H locs hP hD hS => ?_)
      obtain ⟨σ3, eσ3, hP, hD⟩ := gPut (se_5_0 ho) hP hD
      have hIσ3 : InvX σ3 := by rw [eσ3]; exact inv_L hI
      have frσ3 : gFr [5] σ σ3 := by rw [eσ3]; exact gFr.pL (gFr.rfl (L := [5]) (σ := σ)) ho (by decide)
      refine lv_aload_n hx hb dX6_set_30 rfl (lv_at hl 1 rfl) ?_
      refine lv_lconst (v := 1) hx hb dX6_set_31 (by decide) ?_
      refine va_put (D := (dC, dI)) (ci := 5) (v := .long 1) (C := RX6) (T := TX6) (N := 2) hx hb hts hinX6 tyX6 tyX6_ok nmX6 hown hK hP hD hS o (at_5 ho) rfl 1 (by decide) (hts (.fieldLink RX6 13 "BondCalendars$Ratio" "lower" "J") (by decide +kernel)) (fun _ h9 => h9) rfl (ty := .long) (by decide +kernel) rfl rfl (Nat.le_of_ble_eq_true rfl) dX6_set_32 (fun H locs hP hD hS => ?_)
      obtain ⟨σ4, eσ4, hP, hD⟩ := gPut (se_5_1 ho) hP hD
      have hIσ4 : InvX σ4 := by rw [eσ4]; exact inv_L hIσ3
      have frσ4 : gFr [5] σ σ4 := by rw [eσ4]; exact gFr.pL frσ3 ho (by decide)
      refine W.endD hd0 ?_
      exact W.vret hx hb hr (fun t ht hW => ⟨⟨σ4, rfl, ⟨hIσ4, frσ4, ⟨by rw [eσ4, gL_oth _ _ _ (by decide), eσ3, gL_sf]; unfold f_X6_set; simp only [← pu_3, if_pos c_1, if_neg c_4]; try rfl, by rw [eσ4, gL_sf]; unfold f_X6_set; simp only [← pu_3, if_pos c_1, if_neg c_4]; try rfl⟩⟩, ⟨by rw [ht]; exact hP, hD⟩⟩, hS.F ht⟩) hS.2.2 dX6_set_35
  · refine lv_lload_n hx hb dX6_set_6 rfl (lv_at hl 1 rfl) ?_
    refine lv_lneg hx hb dX6_set_7 ?_
    refine lv_goto (tgt := 12) hx hb dX6_set_8 (by decide) ?_
    refine lv_lload_n hx hb dX6_set_12 rfl (lv_at hl 2 rfl) ?_
    have hF := gFree (w := []) (hx_D0 (A := A)) hS hA
    have hKe := hK.sub (tys' := []) [] rfl
    refine va_calll (va_runS (As := [.long (-p0), .long p1]) (rest := []) ⟨hx, hb, hml, hown, hts⟩ (k_X6_commonDivisor l dC dI s.heap.size (-p0) p1 ) (va_cwS 2 hts gX6_set_X6_commonDivisor rfl rfl rfl (by decide +kernel) ⟨Nat.le_of_ble_eq_true rfl, Nat.le_of_ble_eq_true rfl⟩) ⟨fun a U g mk q => by obtain ⟨q0, q1, qP, qK, qD⟩ := q; exact ⟨q0, q1, qP, va_K.moved (u := U) (U := U.calling g mk a) (Vm.Alike.refl U.vm) qK, qD⟩, fun U hU hW => ⟨rfl, by rw [hU], hx_P0, va_K.moved hW.alike hKe, hx_D0⟩⟩ rfl rfl hl.1 rfl (lv_room (Nat.le_of_ble_eq_true rfl)) dX6_set_13 ⟨Nat.le_of_ble_eq_true rfl, Nat.le_of_ble_eq_true rfl⟩) hS (fun q _ h => hF q h) hF (fun r_7 u t H locs ht hvm hw hB hz1 hk1 hS => ?_)
    have hP := gKeep hP hk1
    have pu_8 : r_7 = f_X6_commonDivisor (-p0) p1 := hw
    refine lv_lstore (lv' := [(5, .long r_7), (0, .ref (ad o)), (1, .long p0), (3, .long p1)]) hx hb dX6_set_16 hl (by decide) rfl (fun ls hl => ?_)
    refine lv_lload hx hb dX6_set_18 (lv_at hl 0 rfl) ?_
    refine lv_lconst (v := 1) hx hb dX6_set_20 (by decide) ?_
    refine W.lcmp hx hb dX6_set_21 ?_
    refine lv_if_ge (tgt := 36) hx hb dX6_set_22 (by decide) (fun c_9 => ?_) (fun c_9 => ?_)
    · refine lv_aload_n hx hb dX6_set_36 rfl (lv_at hl 1 rfl) ?_
      refine lv_lload_n hx hb dX6_set_37 rfl (lv_at hl 2 rfl) ?_
      refine lv_lload hx hb dX6_set_38 (lv_at hl 0 rfl) ?_
      refine lv_ldiv hx hb dX6_set_40 (ne_1 (Int32.not_lt.mpr c_9)) ?_
      refine lv_topl (fun x_10 ex_10 => ?_)
      refine va_put (D := (dC, dI)) (ci := 5) (v := .long x_10) (C := RX6) (T := TX6) (N := 2) hx hb hts hinX6 tyX6 tyX6_ok nmX6 hown hK hP hD hS o (at_5 ho) rfl 0 (by decide) (hts (.fieldLink RX6 7 "BondCalendars$Ratio" "upper" "J") (by decide +kernel)) (fun _ h9 => h9) rfl (ty := .long) (by decide +kernel) rfl rfl (Nat.le_of_ble_eq_true rfl) dX6_set_41 (fun H locs hP hD hS => ?_)
      obtain ⟨σ5, eσ5, hP, hD⟩ := gPut (se_5_0 ho) hP hD
      have hIσ5 : InvX σ5 := by rw [eσ5]; exact inv_L hI
      have frσ5 : gFr [5] σ σ5 := by rw [eσ5]; exact gFr.pL (gFr.rfl (L := [5]) (σ := σ)) ho (by decide)
      refine lv_aload_n hx hb dX6_set_44 rfl (lv_at hl 1 rfl) ?_
      refine lv_lload_n hx hb dX6_set_45 rfl (lv_at hl 3 rfl) ?_
      refine lv_lload hx hb dX6_set_46 (lv_at hl 0 rfl) ?_
      refine lv_ldiv hx hb dX6_set_48 (ne_1 (Int32.not_lt.mpr c_9)) ?_
      refine lv_topl (fun x_11 ex_11 => ?_)
      refine va_put (D := (dC, dI)) (ci := 5) (v := .long x_11) (C := RX6) (T := TX6) (N := 2) hx hb hts hinX6 tyX6 tyX6_ok nmX6 hown hK hP hD hS o (at_5 ho) rfl 1 (by decide) (hts (.fieldLink RX6 13 "BondCalendars$Ratio" "lower" "J") (by decide +kernel)) (fun _ h9 => h9) rfl (ty := .long) (by decide +kernel) rfl rfl (Nat.le_of_ble_eq_true rfl) dX6_set_49 (fun H locs hP hD hS => ?_)
      obtain ⟨σ6, eσ6, hP, hD⟩ := gPut (se_5_1 ho) hP hD
      have hIσ6 : InvX σ6 := by rw [eσ6]; exact inv_L hIσ5
      have frσ6 : gFr [5] σ σ6 := by rw [eσ6]; exact gFr.pL frσ5 ho (by decide)
      refine W.endD hd0 ?_
      exact W.vret hx hb hr (fun t ht hW => ⟨⟨σ6, rfl, ⟨hIσ6, frσ6, ⟨by rw [eσ6, gL_oth _ _ _ (by decide), eσ5, gL_sf]; unfold f_X6_set; simp only [← pu_8, if_neg c_1, if_pos c_9]; try (rw [ex_10]); try rfl, by rw [eσ6, gL_sf]; unfold f_X6_set; simp only [← pu_8, if_neg c_1, if_pos c_9]; try (rw [ex_11]); try rfl⟩⟩, ⟨by rw [ht]; exact hP, hD⟩⟩, hS.F ht⟩) hS.2.2 dX6_set_52
    · refine lv_aload_n hx hb dX6_set_25 rfl (lv_at hl 1 rfl) ?_
      refine lv_lconst (v := 0) hx hb dX6_set_26 (by decide) ?_
      refine va_put (D := (dC, dI)) (ci := 5) (v := .long 0) (C := RX6) (T := TX6) (N := 2) hx hb hts hinX6 tyX6 tyX6_ok nmX6 hown hK hP hD hS o (at_5 ho) rfl 0 (by decide) (hts (.fieldLink RX6 7 "BondCalendars$Ratio" "upper" "J") (by decide +kernel)) (fun _ h9 => h9) rfl (ty := .long) (by decide +kernel) rfl rfl (Nat.le_of_ble_eq_true rfl) dX6_set_27 (fun H locs hP hD hS => ?_)
      obtain ⟨σ7, eσ7, hP, hD⟩ := gPut (se_5_0 ho) hP hD
      have hIσ7 : InvX σ7 := by rw [eσ7]; exact inv_L hI
      have frσ7 : gFr [5] σ σ7 := by rw [eσ7]; exact gFr.pL (gFr.rfl (L := [5]) (σ := σ)) ho (by decide)
      refine lv_aload_n hx hb dX6_set_30 rfl (lv_at hl 1 rfl) ?_
      refine lv_lconst (v := 1) hx hb dX6_set_31 (by decide) ?_
      refine va_put (D := (dC, dI)) (ci := 5) (v := .long 1) (C := RX6) (T := TX6) (N := 2) hx hb hts hinX6 tyX6 tyX6_ok nmX6 hown hK hP hD hS o (at_5 ho) rfl 1 (by decide) (hts (.fieldLink RX6 13 "BondCalendars$Ratio" "lower" "J") (by decide +kernel)) (fun _ h9 => h9) rfl (ty := .long) (by decide +kernel) rfl rfl (Nat.le_of_ble_eq_true rfl) dX6_set_32 (fun H locs hP hD hS => ?_)
      obtain ⟨σ8, eσ8, hP, hD⟩ := gPut (se_5_1 ho) hP hD
      have hIσ8 : InvX σ8 := by rw [eσ8]; exact inv_L hIσ7
      have frσ8 : gFr [5] σ σ8 := by rw [eσ8]; exact gFr.pL frσ7 ho (by decide)
      refine W.endD hd0 ?_
      exact W.vret hx hb hr (fun t ht hW => ⟨⟨σ8, rfl, ⟨hIσ8, frσ8, ⟨by rw [eσ8, gL_oth _ _ _ (by decide), eσ7, gL_sf]; unfold f_X6_set; simp only [← pu_8, if_neg c_1, if_neg c_9]; try rfl, by rw [eσ8, gL_sf]; unfold f_X6_set; simp only [← pu_8, if_neg c_1, if_neg c_9]; try rfl⟩⟩, ⟨by rw [ht]; exact hP, hD⟩⟩, hS.F ht⟩) hS.2.2 dX6_set_35
set_option maxHeartbeats 8000000 in
set_option maxRecDepth 100000 in
theorem n_X6_setCountedF (l : Launch) (dC : Nat → ClassId) (dI : Nat → Nat → Nat) (ad : Nat → Nat) (cA : Nat → ClassId) (adK adV : Nat → Nat) (sz : Nat) (σ : gs) (hI : InvX σ) (o : Nat) (ho : kX o = 5) (p0 : Int32) (p1 : Int32) (p2 : Int32) : MetD lw_cs l yX6_setCounted wsX6_setCounted ({ frames := 2, cells := 0, slots := 0, locals := 56 }) (va_Pc [.ref (ad o), .int p0, .int p1, .int p2] (gPre adK adV (dC, dI) (wX ad cA σ) (tX cA) sz)) (va_Qv (fun (τ : gs) => InvX τ ∧ gFr [5] σ τ ∧ ((τ o).2.1 0 = (f_X6_setCounted 0 0 p0 p1 p2).1 ∧ (τ o).2.1 1 = (f_X6_setCounted 0 0 p0 p1 p2).2)) (fun τ t => gPost (dC, dI) (va_A (wX ad cA σ) sz) (wX ad cA τ) t) (va_A (wX ad cA σ) sz)) 0 0 (va_A (wX ad cA σ) sz) := by
  refine MetD.ofW (cc := cX6_setCounted) (maxL := 4) (ret := none) (by decide) rfl ?_
  intro p e s m args below meth c s₁ B hml hv hd0
  obtain ⟨rfl, hsz, hP, hK, hD0, hT⟩ := hv
  have hx := B.exec
  have hb := B.bytes
  have hr := B.returns
  have hts0 := atoms_spec (ws := wsX6_setCounted) B.pre
  have hK0 := hK
  have hown0 : s.vm.findClass RX6 = some m.cls := findClass_of_methodNamed B.named
  have hlocks := B.notSynchronized
  subst hsz
  have hD := hD0.self (sz := s.heap.size)
  generalize hAe : va_A (wX ad cA σ) s.heap.size = A at hD hT ⊢
  have hA : ∀ q : Nat, s.heap.size ≤ q → A q := fun q h => by rw [← hAe]; exact Or.inr h
  have hS : va_S A s.heap s.heap [] := va_S.rf
  have hl := lv_entry ([.ref (ad o), .int p0, .int p1, .int p2]) (n := 4) (Nat.le_of_ble_eq_true rfl)
  rw [lg_entry_eq]
  generalize (lg_sl ([.ref (ad o), .int p0, .int p1, .int p2]) ++ List.replicate (4 - (lg_sl ([.ref (ad o), .int p0, .int p1, .int p2])).length) Slot.unset).toArray = ls at hl ⊢
  have hl : lv_has ls 4 [(0, .ref (ad o)), (1, .int p0), (2, .int p1), (3, .int p2)] := hl
  have hts := dr_words hts0 (s.drawn)
  have hK := gKd hK0 (s.drawn)
  have hown : (s.setDrawn (s.drawn)).vm.findClass RX6 = some m.cls := hown0
  refine lv_iload_n hx hb dX6_setCounted_0 rfl (lv_at hl 1 rfl) ?_
  refine lv_iconst (v := 2) hx hb dX6_setCounted_1 (by decide) ?_
  refine lv_icmp_ne (tgt := 19) hx hb dX6_setCounted_2 (by decide) (fun c_1 => ?_) (fun c_1 => ?_)
  · refine lv_iload_n hx hb dX6_setCounted_19 rfl (lv_at hl 1 rfl) ?_
    refine lv_iconst (v := 3) hx hb dX6_setCounted_20 (by decide) ?_
    refine lv_icmp_ne (tgt := 38) hx hb dX6_setCounted_21 (by decide) (fun c_2 => ?_) (fun c_2 => ?_)
    · refine lv_aload_n hx hb dX6_setCounted_38 rfl (lv_at hl 0 rfl) ?_
      refine lv_iload_n hx hb dX6_setCounted_39 rfl (lv_at hl 1 rfl) ?_
      refine lv_iload_n hx hb dX6_setCounted_40 rfl (lv_at hl 2 rfl) ?_
      have hF := gFree (w := []) (hx_D0 (A := A)) hS hA
      have hKe := hK.sub (tys' := []) [] rfl
      refine va_calli (va_runS (As := [.int p1]) (rest := [.int p0, .ref (ad o)]) ⟨hx, hb, hml, hown, hts⟩ (k_X3_numberOf l dC dI s.heap.size p1 ) (va_cwS 1 hts gX6_setCounted_X3_numberOf rfl rfl rfl (by decide +kernel) ⟨Nat.le_of_ble_eq_true rfl, Nat.le_of_ble_eq_true rfl⟩) ⟨fun a U g mk q => by obtain ⟨q0, q1, qP, qK, qD⟩ := q; exact ⟨q0, q1, qP, va_K.moved (u := U) (U := U.calling g mk a) (Vm.Alike.refl U.vm) qK, qD⟩, fun U hU hW => ⟨rfl, by rw [hU], hx_P0, va_K.moved hW.alike hKe, hx_D0⟩⟩ rfl rfl hl.1 rfl (lv_room (Nat.le_of_ble_eq_true rfl)) dX6_setCounted_41 ⟨Nat.le_of_ble_eq_true rfl, Nat.le_of_ble_eq_true rfl⟩) hS (fun q _ h => hF q h) hF (fun r_3 u t H locs ht hvm hw hB hz1 hk1 hS => ?_)
      have hP := gKeep hP hk1
      have pu_4 : r_3 = f_X3_numberOf p1 := hw
      refine lv_iload_n hx hb dX6_setCounted_44 rfl (lv_at hl 3 rfl) ?_
      have hF := gFree (w := []) (hx_D0 (A := A)) hS hA
      have hKe := hK.sub (tys' := []) [] rfl
      refine va_calli (va_runS (As := [.int p2]) (rest := [.int r_3, .int p0, .ref (ad o)]) ⟨hx, hb, hml, hown, hts⟩ (k_X3_numberOf l dC dI H.size p2 ) (va_cwS 1 hts gX6_setCounted_X3_numberOf rfl rfl rfl (by decide +kernel) ⟨Nat.le_of_ble_eq_true rfl, Nat.le_of_ble_eq_true rfl⟩) ⟨fun a U g mk q => by obtain ⟨q0, q1, qP, qK, qD⟩ := q; exact ⟨q0, q1, qP, va_K.moved (u := U) (U := U.calling g mk a) (Vm.Alike.refl U.vm) qK, qD⟩, fun U hU hW => ⟨rfl, by rw [hU], hx_P0, va_K.moved hW.alike hKe, hx_D0⟩⟩ rfl rfl hl.1 rfl (lv_room (Nat.le_of_ble_eq_true rfl)) dX6_setCounted_45 ⟨Nat.le_of_ble_eq_true rfl, Nat.le_of_ble_eq_true rfl⟩) hS (fun q _ h => hF q h) hF (fun r_5 u t H locs ht hvm hw hB hz1 hk1 hS => ?_)
      have hP := gKeep hP hk1
      have pu_6 : r_5 = f_X3_numberOf p2 := hw
      have hF := gFree (w := []) (hx_D0 (A := A)) hS hA
      have hKe := hK.sub (tys' := []) [] rfl
      refine va_calli (va_runS (As := [.int p0, .int r_3, .int r_5]) (rest := [.ref (ad o)]) ⟨hx, hb, hml, hown, hts⟩ (k_X6_thirtyDays l dC dI H.size p0 r_3 r_5 ) (va_cwS 3 hts gX6_setCounted_X6_thirtyDays rfl rfl rfl (by decide +kernel) ⟨Nat.le_of_ble_eq_true rfl, Nat.le_of_ble_eq_true rfl⟩) ⟨fun a U g mk q => by obtain ⟨q0, q1, qP, qK, qD⟩ := q; exact ⟨q0, q1, qP, va_K.moved (u := U) (U := U.calling g mk a) (Vm.Alike.refl U.vm) qK, qD⟩, fun U hU hW => ⟨rfl, by rw [hU], hx_P0, va_K.moved hW.alike hKe, hx_D0⟩⟩ rfl rfl hl.1 rfl (lv_room (Nat.le_of_ble_eq_true rfl)) dX6_setCounted_48 ⟨Nat.le_of_ble_eq_true rfl, Nat.le_of_ble_eq_true rfl⟩) hS (fun q _ h => hF q h) hF (fun r_7 u t H locs ht hvm hw hB hz1 hk1 hS => ?_)
      have hP := gKeep hP hk1
      have pu_8 : r_7 = f_X6_thirtyDays p0 r_3 r_5 := hw
      refine lv_i2l hx hb dX6_setCounted_51 rfl ?_
      refine lv_ldc2 (v := 360) hx hb hown (hts (.constantLong RX6 26 (360)) (by decide +kernel)) dX6_setCounted_52 ?_
      have hF := gFree hD hS hA
      refine va_callvD hd0 (va_runV_D (As := [.long (r_7.toInt64), .long 360]) (rest := []) ⟨hx, hb, hml, hown, hts⟩ (n_X6_setF l dC dI ad cA adK adV H.size σ hI o ho (r_7.toInt64) 360) (cwV 2 hts gX6_setCounted_X6_set rfl rfl rfl (by decide +kernel) ⟨Nat.le_of_ble_eq_true rfl, Nat.le_of_ble_eq_true rfl⟩) ⟨gBlind, va_recv hK hP (ci := 5) (q0 := o) rfl (at_5 ho), gStart (As := [.ref (ad o), .long (r_7.toInt64), .long 360]) hP hD hK0 hT hS hF (s.drawn)⟩ rfl rfl hl.1 rfl (lv_room (Nat.le_of_ble_eq_true rfl)) dX6_setCounted_55 ⟨Nat.le_of_ble_eq_true rfl, Nat.le_of_ble_eq_true rfl⟩) hS (fun q _ h => hF q h) hF (fun σ1 t H locs ht hvm hw hB hz1 hk1 hS d_10 hd0 => ?_)
      have hts := dr_words hts0 (d_10)
      have hK := gKd hK0 (d_10)
      have hown : (s.setDrawn (d_10)).vm.findClass RX6 = some m.cls := hown0
      obtain ⟨hP, hD⟩ := gBack hF ht hB
      obtain ⟨hIσ1, fcσ1, hp_11⟩ := hw
      refine W.endD hd0 ?_
      exact W.vret hx hb hr (fun t ht hW => ⟨⟨σ1, rfl, ⟨hIσ1, (gFr.tr (gFr.rfl (L := [5]) (σ := σ)) fcσ1 (by decide)), ⟨by rw [hp_11.1]; unfold f_X6_setCounted; simp only [← pu_4, ← pu_6, ← pu_8, if_neg c_1, if_neg c_2]; try rfl, by rw [hp_11.2]; unfold f_X6_setCounted; simp only [← pu_4, ← pu_6, ← pu_8, if_neg c_1, if_neg c_2]; try rfl⟩⟩, ⟨by rw [ht]; exact hP, hD⟩⟩, hS.F ht⟩) hS.2.2 dX6_setCounted_58
    · refine lv_aload_n hx hb dX6_setCounted_24 rfl (lv_at hl 0 rfl) ?_
      refine lv_iload_n hx hb dX6_setCounted_25 rfl (lv_at hl 3 rfl) ?_
      refine lv_iload_n hx hb dX6_setCounted_26 rfl (lv_at hl 2 rfl) ?_
      refine lv_isub hx hb dX6_setCounted_27 ?_
      refine lv_topi (fun x_12 ex_12 => ?_)
      refine lv_i2l hx hb dX6_setCounted_28 rfl ?_
      refine lv_ldc2 (v := 365) hx hb hown (hts (.constantLong RX6 28 (365)) (by decide +kernel)) dX6_setCounted_29 ?_
      have hF := gFree hD hS hA
      refine va_callvD hd0 (va_runV_D (As := [.long (x_12.toInt64), .long 365]) (rest := []) ⟨hx, hb, hml, hown, hts⟩ (n_X6_setF l dC dI ad cA adK adV s.heap.size σ hI o ho (x_12.toInt64) 365) (cwV 2 hts gX6_setCounted_X6_set rfl rfl rfl (by decide +kernel) ⟨Nat.le_of_ble_eq_true rfl, Nat.le_of_ble_eq_true rfl⟩) ⟨gBlind, va_recv hK hP (ci := 5) (q0 := o) rfl (at_5 ho), gStart (As := [.ref (ad o), .long (x_12.toInt64), .long 365]) hP hD hK0 hT hS hF (s.drawn)⟩ rfl rfl hl.1 rfl (lv_room (Nat.le_of_ble_eq_true rfl)) dX6_setCounted_32 ⟨Nat.le_of_ble_eq_true rfl, Nat.le_of_ble_eq_true rfl⟩) hS (fun q _ h => hF q h) hF (fun σ2 t H locs ht hvm hw hB hz1 hk1 hS d_14 hd0 => ?_)
      have hts := dr_words hts0 (d_14)
      have hK := gKd hK0 (d_14)
      have hown : (s.setDrawn (d_14)).vm.findClass RX6 = some m.cls := hown0
      obtain ⟨hP, hD⟩ := gBack hF ht hB
      obtain ⟨hIσ2, fcσ2, hp_15⟩ := hw
      refine lv_goto (tgt := 58) hx hb dX6_setCounted_35 (by decide) ?_
      refine W.endD hd0 ?_
      exact W.vret hx hb hr (fun t ht hW => ⟨⟨σ2, rfl, ⟨hIσ2, (gFr.tr (gFr.rfl (L := [5]) (σ := σ)) fcσ2 (by decide)), ⟨by rw [hp_15.1, ex_12]; unfold f_X6_setCounted; simp only [if_neg c_1, if_pos c_2]; try rfl, by rw [hp_15.2, ex_12]; unfold f_X6_setCounted; simp only [if_neg c_1, if_pos c_2]; try rfl⟩⟩, ⟨by rw [ht]; exact hP, hD⟩⟩, hS.F ht⟩) hS.2.2 dX6_setCounted_58
  · refine lv_aload_n hx hb dX6_setCounted_5 rfl (lv_at hl 0 rfl) ?_
    refine lv_iload_n hx hb dX6_setCounted_6 rfl (lv_at hl 3 rfl) ?_
    refine lv_iload_n hx hb dX6_setCounted_7 rfl (lv_at hl 2 rfl) ?_
    refine lv_isub hx hb dX6_setCounted_8 ?_
    refine lv_topi (fun x_16 ex_16 => ?_)
    refine lv_i2l hx hb dX6_setCounted_9 rfl ?_
    refine lv_ldc2 (v := 360) hx hb hown (hts (.constantLong RX6 26 (360)) (by decide +kernel)) dX6_setCounted_10 ?_
    have hF := gFree hD hS hA
    refine va_callvD hd0 (va_runV_D (As := [.long (x_16.toInt64), .long 360]) (rest := []) ⟨hx, hb, hml, hown, hts⟩ (n_X6_setF l dC dI ad cA adK adV s.heap.size σ hI o ho (x_16.toInt64) 360) (cwV 2 hts gX6_setCounted_X6_set rfl rfl rfl (by decide +kernel) ⟨Nat.le_of_ble_eq_true rfl, Nat.le_of_ble_eq_true rfl⟩) ⟨gBlind, va_recv hK hP (ci := 5) (q0 := o) rfl (at_5 ho), gStart (As := [.ref (ad o), .long (x_16.toInt64), .long 360]) hP hD hK0 hT hS hF (s.drawn)⟩ rfl rfl hl.1 rfl (lv_room (Nat.le_of_ble_eq_true rfl)) dX6_setCounted_13 ⟨Nat.le_of_ble_eq_true rfl, Nat.le_of_ble_eq_true rfl⟩) hS (fun q _ h => hF q h) hF (fun σ3 t H locs ht hvm hw hB hz1 hk1 hS d_18 hd0 => ?_)
    have hts := dr_words hts0 (d_18)
    have hK := gKd hK0 (d_18)
    have hown : (s.setDrawn (d_18)).vm.findClass RX6 = some m.cls := hown0
    obtain ⟨hP, hD⟩ := gBack hF ht hB
    obtain ⟨hIσ3, fcσ3, hp_19⟩ := hw
    refine lv_goto (tgt := 58) hx hb dX6_setCounted_16 (by decide) ?_
    refine W.endD hd0 ?_
    exact W.vret hx hb hr (fun t ht hW => ⟨⟨σ3, rfl, ⟨hIσ3, (gFr.tr (gFr.rfl (L := [5]) (σ := σ)) fcσ3 (by decide)), ⟨by rw [hp_19.1, ex_16]; unfold f_X6_setCounted; simp only [if_pos c_1]; try rfl, by rw [hp_19.2, ex_16]; unfold f_X6_setCounted; simp only [if_pos c_1]; try rfl⟩⟩, ⟨by rw [ht]; exact hP, hD⟩⟩, hS.F ht⟩) hS.2.2 dX6_setCounted_58
set_option maxHeartbeats 8000000 in
set_option maxRecDepth 100000 in
theorem n_X6_partF (l : Launch) (dC : Nat → ClassId) (dI : Nat → Nat → Nat) (ad : Nat → Nat) (cA : Nat → ClassId) (adK adV : Nat → Nat) (sz : Nat) (σ : gs) (hI : InvX σ) (o : Nat) (ho : kX o = 5) (p0 : Int32) : MetD lw_cs l yX6_part wsX6_part ({ frames := 0, cells := 0, slots := 0, locals := 0 }) (va_Pc [.ref (ad o), .int p0] (gPre adK adV (dC, dI) (wX ad cA σ) (tX cA) sz)) (va_Ql (fun (r : Int64) (τ : gs) => InvX τ ∧ σ = τ ∧ (r = f_X6_part ((σ o).2.1 0) ((σ o).2.1 1) p0)) (fun τ t => gPost (dC, dI) (va_A (wX ad cA σ) sz) (wX ad cA τ) t) (va_A (wX ad cA σ) sz)) 0 0 (va_A (wX ad cA σ) sz) := by
  refine MetD.ofW (cc := cX6_part) (maxL := 2) (ret := (some .long)) (by decide) rfl ?_
  intro p e s m args below meth c s₁ B hml hv hd0
  obtain ⟨rfl, hsz, hP, hK, hD0, hT⟩ := hv
  have hx := B.exec
  have hb := B.bytes
  have hr := B.returns
  have hts0 := atoms_spec (ws := wsX6_part) B.pre
  have hK0 := hK
  have hown0 : s.vm.findClass RX6 = some m.cls := findClass_of_methodNamed B.named
  have hlocks := B.notSynchronized
  have hinX6 : ∀ w ∈ u_ws RX6 TX6 2, w ∈ wsX6_part := (fun _ h9 => List.mem_cons_of_mem _ (List.mem_append_right _ h9))
  subst hsz
  have hD := hD0.self (sz := s.heap.size)
  generalize hAe : va_A (wX ad cA σ) s.heap.size = A at hD hT ⊢
  have hA : ∀ q : Nat, s.heap.size ≤ q → A q := fun q h => by rw [← hAe]; exact Or.inr h
  have hS : va_S A s.heap s.heap [] := va_S.rf
  have hl := lv_entry ([.ref (ad o), .int p0]) (n := 2) (Nat.le_of_ble_eq_true rfl)
  rw [lg_entry_eq]
  generalize (lg_sl ([.ref (ad o), .int p0]) ++ List.replicate (2 - (lg_sl ([.ref (ad o), .int p0])).length) Slot.unset).toArray = ls at hl ⊢
  have hl : lv_has ls 2 [(0, .ref (ad o)), (1, .int p0)] := hl
  have hts := dr_words hts0 (s.drawn)
  have hK := gKd hK0 (s.drawn)
  have hown : (s.setDrawn (s.drawn)).vm.findClass RX6 = some m.cls := hown0
  refine lv_iload_n hx hb dX6_part_0 rfl (lv_at hl 1 rfl) ?_
  refine lv_if_eq (tgt := 11) hx hb dX6_part_1 (by decide) (fun c_1 => ?_) (fun c_1 => ?_)
  · refine lv_aload_n hx hb dX6_part_11 rfl (lv_at hl 0 rfl) ?_
    refine va_get (D := (dC, dI)) (ci := 5) (v := .long ((σ o).2.1 0)) (C := RX6) (T := TX6) (N := 2) hx hb hts hinX6 hown hK hP o (at_5 ho) rfl 0 (by decide) (hts (.fieldLink RX6 7 "BondCalendars$Ratio" "upper" "J") (by decide +kernel)) (fun _ h9 => h9) rfl dX6_part_12 ?_
    refine W.endD hd0 ?_
    exact W.lret (v := ((σ o).2.1 0)) hx hb hr (fun t ht hW => ⟨⟨((σ o).2.1 0), σ, rfl, ⟨hI, rfl, (by unfold f_X6_part; simp only [if_pos c_1]; try rfl)⟩, ⟨by rw [ht]; exact hP, hD⟩⟩, hS.F ht⟩) hS.2.2 dX6_part_15
  · refine lv_aload_n hx hb dX6_part_4 rfl (lv_at hl 0 rfl) ?_
    refine va_get (D := (dC, dI)) (ci := 5) (v := .long ((σ o).2.1 1)) (C := RX6) (T := TX6) (N := 2) hx hb hts hinX6 hown hK hP o (at_5 ho) rfl 1 (by decide) (hts (.fieldLink RX6 13 "BondCalendars$Ratio" "lower" "J") (by decide +kernel)) (fun _ h9 => h9) rfl dX6_part_5 ?_
    refine lv_goto (tgt := 15) hx hb dX6_part_8 (by decide) ?_
    refine W.endD hd0 ?_
    exact W.lret (v := ((σ o).2.1 1)) hx hb hr (fun t ht hW => ⟨⟨((σ o).2.1 1), σ, rfl, ⟨hI, rfl, (by unfold f_X6_part; simp only [if_neg c_1]; try rfl)⟩, ⟨by rw [ht]; exact hP, hD⟩⟩, hS.F ht⟩) hS.2.2 dX6_part_15
set_option maxHeartbeats 8000000 in
set_option maxRecDepth 100000 in
theorem n_X11_refuseF (l : Launch) (dC : Nat → ClassId) (dI : Nat → Nat → Nat) (ad : Nat → Nat) (cA : Nat → ClassId) (adK adV : Nat → Nat) (sz : Nat) (σ : gs) (hI : InvX σ) (p0 : Int32) : MetD lw_cs l yX11_refuse wsX11_refuse ({ frames := 0, cells := 0, slots := 0, locals := 0 }) (va_Pc [.ref (ad 0), .int p0] (gPre adK adV (dC, dI) (wX ad cA σ) (tX cA) sz)) (va_Qi (fun (r : Int32) (τ : gs) => InvX τ ∧ gFr [10] σ τ ∧ (r = (-1))) (fun τ t => gPost (dC, dI) (va_A (wX ad cA σ) sz) (wX ad cA τ) t) (va_A (wX ad cA σ) sz)) 0 0 (va_A (wX ad cA σ) sz) := by
  refine MetD.ofW (cc := cX11_refuse) (maxL := 2) (ret := (some .int)) (by decide) rfl ?_
  intro p e s m args below meth c s₁ B hml hv hd0
  obtain ⟨rfl, hsz, hP, hK, hD0, hT⟩ := hv
  have hx := B.exec
  have hb := B.bytes
  have hr := B.returns
  have hts0 := atoms_spec (ws := wsX11_refuse) B.pre
  have hK0 := hK
  have hown0 : s.vm.findClass RX11 = some m.cls := findClass_of_methodNamed B.named
  have hlocks := B.notSynchronized
  have hinX11 : ∀ w ∈ u_ws RX11 TX11 15, w ∈ wsX11_refuse := (fun _ h9 => List.mem_cons_of_mem _ (List.mem_append_right _ h9))
  subst hsz
  have hD := hD0.self (sz := s.heap.size)
  generalize hAe : va_A (wX ad cA σ) s.heap.size = A at hD hT ⊢
  have hA : ∀ q : Nat, s.heap.size ≤ q → A q := fun q h => by rw [← hAe]; exact Or.inr h
  have hS : va_S A s.heap s.heap [] := va_S.rf
  have hl := lv_entry ([.ref (ad 0), .int p0]) (n := 2) (Nat.le_of_ble_eq_true rfl)
  rw [lg_entry_eq]
  generalize (lg_sl ([.ref (ad 0), .int p0]) ++ List.replicate (2 - (lg_sl ([.ref (ad 0), .int p0])).length) Slot.unset).toArray = ls at hl ⊢
  have hl : lv_has ls 2 [(0, .ref (ad 0)), (1, .int p0)] := hl
  have hts := dr_words hts0 (s.drawn)
  have hK := gKd hK0 (s.drawn)
  have hown : (s.setDrawn (s.drawn)).vm.findClass RX11 = some m.cls := hown0
  refine lv_aload_n hx hb dX11_refuse_0 rfl (lv_at hl 0 rfl) ?_
  refine lv_iload_n hx hb dX11_refuse_1 rfl (lv_at hl 1 rfl) ?_
  refine va_put (D := (dC, dI)) (ci := 10) (v := .int p0) (C := RX11) (T := TX11) (N := 15) hx hb hts hinX11 tyX11 tyX11_ok nmX11 hown hK hP hD hS 0 (at_10 rfl) rfl 12 (by decide) (hts (.fieldLink RX11 74 "BondCalendars" "refusal" "I") (by decide +kernel)) (fun _ h9 => h9) rfl (ty := .int) (by decide +kernel) rfl rfl (Nat.le_of_ble_eq_true rfl) dX11_refuse_2 (fun H locs hP hD hS => ?_)
  obtain ⟨σ1, eσ1, hP, hD⟩ := gPut (se_10_12 rfl) hP hD
  have hIσ1 : InvX σ1 := by rw [eσ1]; exact inv_I hI (ok_10_12 rfl _)
  have frσ1 : gFr [10] σ σ1 := by rw [eσ1]; exact gFr.pI (gFr.rfl (L := [10]) (σ := σ)) rfl (by decide)
  refine lv_iconst (v := (-1)) hx hb dX11_refuse_5 (by decide) ?_
  refine W.endD hd0 ?_
  exact W.iret (v := (-1)) hx hb hr (fun t ht hW => ⟨⟨(-1), σ1, rfl, ⟨hIσ1, frσ1, rfl⟩, ⟨by rw [ht]; exact hP, hD⟩⟩, hS.F ht⟩) hS.2.2 dX11_refuse_6
set_option maxHeartbeats 8000000 in
set_option maxRecDepth 100000 in
theorem n_X11_countedF (l : Launch) (dC : Nat → ClassId) (dI : Nat → Nat → Nat) (ad : Nat → Nat) (cA : Nat → ClassId) (adK adV : Nat → Nat) (sz : Nat) (σ : gs) (hI : InvX σ) (p0 : Int32) (p1 : Int32) (p2 : Int32) (p3 : Int32) : MetD lw_cs l yX11_counted wsX11_counted ({ frames := 3, cells := 0, slots := 0, locals := 79 }) (va_Pc [.ref (ad 0), .int p0, .int p1, .int p2, .int p3] (gPre adK adV (dC, dI) (wX ad cA σ) (tX cA) sz)) (va_Ql (fun (r : Int64) (τ : gs) => InvX τ ∧ gFr [5, 10] σ τ ∧ (r = f_X11_counted 0 0 p0 p1 p2 p3)) (fun τ t => gPost (dC, dI) (va_A (wX ad cA σ) sz) (wX ad cA τ) t) (va_A (wX ad cA σ) sz)) 0 0 (va_A (wX ad cA σ) sz) := by
  refine MetD.ofW (cc := cX11_counted) (maxL := 5) (ret := (some .long)) (by decide) rfl ?_
  intro p e s m args below meth c s₁ B hml hv hd0
  obtain ⟨rfl, hsz, hP, hK, hD0, hT⟩ := hv
  have hx := B.exec
  have hb := B.bytes
  have hr := B.returns
  have hts0 := atoms_spec (ws := wsX11_counted) B.pre
  have hK0 := hK
  have hown0 : s.vm.findClass RX11 = some m.cls := findClass_of_methodNamed B.named
  have hlocks := B.notSynchronized
  have hinX11 : ∀ w ∈ u_ws RX11 TX11 15, w ∈ wsX11_counted := (fun _ h9 => List.mem_cons_of_mem _ (List.mem_append_left _ (List.mem_append_right _ h9)))
  subst hsz
  have hD := hD0.self (sz := s.heap.size)
  generalize hAe : va_A (wX ad cA σ) s.heap.size = A at hD hT ⊢
  have hA : ∀ q : Nat, s.heap.size ≤ q → A q := fun q h => by rw [← hAe]; exact Or.inr h
  have hS : va_S A s.heap s.heap [] := va_S.rf
  have hl := lv_entry ([.ref (ad 0), .int p0, .int p1, .int p2, .int p3]) (n := 5) (Nat.le_of_ble_eq_true rfl)
  rw [lg_entry_eq]
  generalize (lg_sl ([.ref (ad 0), .int p0, .int p1, .int p2, .int p3]) ++ List.replicate (5 - (lg_sl ([.ref (ad 0), .int p0, .int p1, .int p2, .int p3])).length) Slot.unset).toArray = ls at hl ⊢
  have hl : lv_has ls 5 [(0, .ref (ad 0)), (1, .int p0), (2, .int p1), (3, .int p2), (4, .int p3)] := hl
  have hts := dr_words hts0 (s.drawn)
  have hK := gKd hK0 (s.drawn)
  have hown : (s.setDrawn (s.drawn)).vm.findClass RX11 = some m.cls := hown0
  refine lv_iload_n hx hb dX11_counted_0 rfl (lv_at hl 1 rfl) ?_
  refine lv_if_lt (tgt := 9) hx hb dX11_counted_1 (by decide) (fun c_1 => ?_) (fun c_1 => ?_)
  · refine lv_aload_n hx hb dX11_counted_9 rfl (lv_at hl 0 rfl) ?_
    refine lv_iconst (v := 1) hx hb dX11_counted_10 (by decide) ?_
    have hF := gFree hD hS hA
    refine va_calliD hd0 (va_runV_D (As := [.int 1]) (rest := []) ⟨hx, hb, hml, hown, hts⟩ (n_X11_refuseF l dC dI ad cA adK adV s.heap.size σ hI 1) (cwV 1 hts gX11_counted_X11_refuse rfl rfl rfl (by decide +kernel) ⟨Nat.le_of_ble_eq_true rfl, Nat.le_of_ble_eq_true rfl⟩) ⟨gBlind, va_recv hK hP (ci := 10) (q0 := 0) rfl (at_10 rfl), gStart (As := [.ref (ad 0), .int 1]) hP hD hK0 hT hS hF (s.drawn)⟩ rfl rfl hl.1 rfl (lv_room (Nat.le_of_ble_eq_true rfl)) dX11_counted_11 ⟨Nat.le_of_ble_eq_true rfl, Nat.le_of_ble_eq_true rfl⟩) hS (fun q _ h => hF q h) hF (fun r_2 σ1 t H locs ht hvm hw hB hz1 hk1 hS d_3 hd0 => ?_)
    have hts := dr_words hts0 (d_3)
    have hK := gKd hK0 (d_3)
    have hown : (s.setDrawn (d_3)).vm.findClass RX11 = some m.cls := hown0
    obtain ⟨hP, hD⟩ := gBack hF ht hB
    obtain ⟨hIσ1, fcσ1, hp_4⟩ := hw
    refine lv_i2l hx hb dX11_counted_14 rfl ?_
    refine W.endD hd0 ?_
    exact W.lret (v := (r_2.toInt64)) hx hb hr (fun t ht hW => ⟨⟨(r_2.toInt64), σ1, rfl, ⟨hIσ1, (gFr.tr (gFr.rfl (L := [5, 10]) (σ := σ)) fcσ1 (by decide)), (by rw [hp_4]; unfold f_X11_counted; simp only [if_pos c_1]; try rfl)⟩, ⟨by rw [ht]; exact hP, hD⟩⟩, hS.F ht⟩) hS.2.2 dX11_counted_15
  · refine lv_iload_n hx hb dX11_counted_4 rfl (lv_at hl 1 rfl) ?_
    refine lv_iconst (v := 3) hx hb dX11_counted_5 (by decide) ?_
    refine lv_icmp_le (tgt := 16) hx hb dX11_counted_6 (by decide) (fun c_5 => ?_) (fun c_5 => ?_)
    · refine lv_iload_n hx hb dX11_counted_16 rfl (lv_at hl 2 rfl) ?_
      have hF := gFree (w := []) (hx_D0 (A := A)) hS hA
      have hKe := hK.sub (tys' := []) [] rfl
      refine va_calli (va_runS (As := [.int p1]) (rest := []) ⟨hx, hb, hml, hown, hts⟩ (k_X3_isDate l dC dI s.heap.size p1 ) (va_cwS 1 hts gX11_counted_X3_isDate rfl rfl rfl (by decide +kernel) ⟨Nat.le_of_ble_eq_true rfl, Nat.le_of_ble_eq_true rfl⟩) ⟨fun a U g mk q => by obtain ⟨q0, q1, qP, qK, qD⟩ := q; exact ⟨q0, q1, qP, va_K.moved (u := U) (U := U.calling g mk a) (Vm.Alike.refl U.vm) qK, qD⟩, fun U hU hW => ⟨rfl, by rw [hU], hx_P0, va_K.moved hW.alike hKe, hx_D0⟩⟩ rfl rfl hl.1 rfl (lv_room (Nat.le_of_ble_eq_true rfl)) dX11_counted_17 ⟨Nat.le_of_ble_eq_true rfl, Nat.le_of_ble_eq_true rfl⟩) hS (fun q _ h => hF q h) hF (fun r_6 u t H locs ht hvm hw hB hz1 hk1 hS => ?_)
      have hP := gKeep hP hk1
      have pu_7 : r_6 = f_X3_isDate p1 := hw
      refine lv_if_eq (tgt := 35) hx hb dX11_counted_20 (by decide) (fun c_8 => ?_) (fun c_8 => ?_)
      · refine lv_aload_n hx hb dX11_counted_35 rfl (lv_at hl 0 rfl) ?_
        refine lv_iconst (v := 2) hx hb dX11_counted_36 (by decide) ?_
        have hF := gFree hD hS hA
        refine va_calliD hd0 (va_runV_D (As := [.int 2]) (rest := []) ⟨hx, hb, hml, hown, hts⟩ (n_X11_refuseF l dC dI ad cA adK adV H.size σ hI 2) (cwV 1 hts gX11_counted_X11_refuse rfl rfl rfl (by decide +kernel) ⟨Nat.le_of_ble_eq_true rfl, Nat.le_of_ble_eq_true rfl⟩) ⟨gBlind, va_recv hK hP (ci := 10) (q0 := 0) rfl (at_10 rfl), gStart (As := [.ref (ad 0), .int 2]) hP hD hK0 hT hS hF (s.drawn)⟩ rfl rfl hl.1 rfl (lv_room (Nat.le_of_ble_eq_true rfl)) dX11_counted_37 ⟨Nat.le_of_ble_eq_true rfl, Nat.le_of_ble_eq_true rfl⟩) hS (fun q _ h => hF q h) hF (fun r_9 σ2 t H locs ht hvm hw hB hz1 hk1 hS d_10 hd0 => ?_)
        have hts := dr_words hts0 (d_10)
        have hK := gKd hK0 (d_10)
        have hown : (s.setDrawn (d_10)).vm.findClass RX11 = some m.cls := hown0
        obtain ⟨hP, hD⟩ := gBack hF ht hB
        obtain ⟨hIσ2, fcσ2, hp_11⟩ := hw
        refine lv_i2l hx hb dX11_counted_40 rfl ?_
        refine W.endD hd0 ?_
        exact W.lret (v := (r_9.toInt64)) hx hb hr (fun t ht hW => ⟨⟨(r_9.toInt64), σ2, rfl, ⟨hIσ2, (gFr.tr (gFr.rfl (L := [5, 10]) (σ := σ)) fcσ2 (by decide)), (by rw [hp_11]; unfold f_X11_counted; simp only [← pu_7, if_neg c_1, if_pos c_5, if_pos c_8]; try rfl)⟩, ⟨by rw [ht]; exact hP, hD⟩⟩, hS.F ht⟩) hS.2.2 dX11_counted_41
      · refine lv_iload_n hx hb dX11_counted_23 rfl (lv_at hl 3 rfl) ?_
        have hF := gFree (w := []) (hx_D0 (A := A)) hS hA
        have hKe := hK.sub (tys' := []) [] rfl
        refine va_calli (va_runS (As := [.int p2]) (rest := []) ⟨hx, hb, hml, hown, hts⟩ (k_X3_isDate l dC dI H.size p2 ) (va_cwS 1 hts gX11_counted_X3_isDate rfl rfl rfl (by decide +kernel) ⟨Nat.le_of_ble_eq_true rfl, Nat.le_of_ble_eq_true rfl⟩) ⟨fun a U g mk q => by obtain ⟨q0, q1, qP, qK, qD⟩ := q; exact ⟨q0, q1, qP, va_K.moved (u := U) (U := U.calling g mk a) (Vm.Alike.refl U.vm) qK, qD⟩, fun U hU hW => ⟨rfl, by rw [hU], hx_P0, va_K.moved hW.alike hKe, hx_D0⟩⟩ rfl rfl hl.1 rfl (lv_room (Nat.le_of_ble_eq_true rfl)) dX11_counted_24 ⟨Nat.le_of_ble_eq_true rfl, Nat.le_of_ble_eq_true rfl⟩) hS (fun q _ h => hF q h) hF (fun r_12 u t H locs ht hvm hw hB hz1 hk1 hS => ?_)
        have hP := gKeep hP hk1
        have pu_13 : r_12 = f_X3_isDate p2 := hw
        refine lv_if_eq (tgt := 35) hx hb dX11_counted_27 (by decide) (fun c_14 => ?_) (fun c_14 => ?_)
        · refine lv_aload_n hx hb dX11_counted_35 rfl (lv_at hl 0 rfl) ?_
          refine lv_iconst (v := 2) hx hb dX11_counted_36 (by decide) ?_
          have hF := gFree hD hS hA
          refine va_calliD hd0 (va_runV_D (As := [.int 2]) (rest := []) ⟨hx, hb, hml, hown, hts⟩ (n_X11_refuseF l dC dI ad cA adK adV H.size σ hI 2) (cwV 1 hts gX11_counted_X11_refuse rfl rfl rfl (by decide +kernel) ⟨Nat.le_of_ble_eq_true rfl, Nat.le_of_ble_eq_true rfl⟩) ⟨gBlind, va_recv hK hP (ci := 10) (q0 := 0) rfl (at_10 rfl), gStart (As := [.ref (ad 0), .int 2]) hP hD hK0 hT hS hF (s.drawn)⟩ rfl rfl hl.1 rfl (lv_room (Nat.le_of_ble_eq_true rfl)) dX11_counted_37 ⟨Nat.le_of_ble_eq_true rfl, Nat.le_of_ble_eq_true rfl⟩) hS (fun q _ h => hF q h) hF (fun r_15 σ3 t H locs ht hvm hw hB hz1 hk1 hS d_16 hd0 => ?_)
          have hts := dr_words hts0 (d_16)
          have hK := gKd hK0 (d_16)
          have hown : (s.setDrawn (d_16)).vm.findClass RX11 = some m.cls := hown0
          obtain ⟨hP, hD⟩ := gBack hF ht hB
          obtain ⟨hIσ3, fcσ3, hp_17⟩ := hw
          refine lv_i2l hx hb dX11_counted_40 rfl ?_
          refine W.endD hd0 ?_
          exact W.lret (v := (r_15.toInt64)) hx hb hr (fun t ht hW => ⟨⟨(r_15.toInt64), σ3, rfl, ⟨hIσ3, (gFr.tr (gFr.rfl (L := [5, 10]) (σ := σ)) fcσ3 (by decide)), (by rw [hp_17]; unfold f_X11_counted; simp only [← pu_7, ← pu_13, if_neg c_1, if_pos c_5, if_neg c_8, if_pos c_14]; try rfl)⟩, ⟨by rw [ht]; exact hP, hD⟩⟩, hS.F ht⟩) hS.2.2 dX11_counted_41
        · refine lv_iload_n hx hb dX11_counted_30 rfl (lv_at hl 3 rfl) ?_
          refine lv_iload_n hx hb dX11_counted_31 rfl (lv_at hl 2 rfl) ?_
          refine lv_icmp_ge (tgt := 42) hx hb dX11_counted_32 (by decide) (fun c_18 => ?_) (fun c_18 => ?_)
          · refine lv_aload_n hx hb dX11_counted_42 rfl (lv_at hl 0 rfl) ?_
            refine lv_iconst (v := 0) hx hb dX11_counted_43 (by decide) ?_
            refine va_put (D := (dC, dI)) (ci := 10) (v := .int 0) (C := RX11) (T := TX11) (N := 15) hx hb hts hinX11 tyX11 tyX11_ok nmX11 hown hK hP hD hS 0 (at_10 rfl) rfl 12 (by decide) (hts (.fieldLink RX11 74 "BondCalendars" "refusal" "I") (by decide +kernel)) (fun _ h9 => h9) rfl (ty := .int) (by decide +kernel) rfl rfl (Nat.le_of_ble_eq_true rfl) dX11_counted_44 (fun H locs hP hD hS => ?_)
            obtain ⟨σ4, eσ4, hP, hD⟩ := gPut (se_10_12 rfl) hP hD
            have hIσ4 : InvX σ4 := by rw [eσ4]; exact inv_I hI (ok_10_12 rfl _)
            have frσ4 : gFr [5, 10] σ σ4 := by rw [eσ4]; exact gFr.pI (gFr.rfl (L := [5, 10]) (σ := σ)) rfl (by decide)
            refine lv_aload_n hx hb dX11_counted_47 rfl (lv_at hl 0 rfl) ?_
            refine va_get (D := (dC, dI)) (ci := 10) (v := .ref (ad 9)) (C := RX11) (T := TX11) (N := 15) hx hb hts hinX11 hown hK hP 0 (at_10 rfl) rfl 3 (by decide) (hts (.fieldLink RX11 33 "BondCalendars" "ratio" "LBondCalendars$Ratio;") (by decide +kernel)) (fun _ h9 => h9) rfl dX11_counted_48 ?_
            refine lv_iload_n hx hb dX11_counted_51 rfl (lv_at hl 1 rfl) ?_
            refine lv_iload_n hx hb dX11_counted_52 rfl (lv_at hl 2 rfl) ?_
            have hF := gFree (w := []) (hx_D0 (A := A)) hS hA
            have hKe := hK.sub (tys' := []) [] rfl
            refine va_calli (va_runS (As := [.int p1]) (rest := [.int p0, .ref (ad 9)]) ⟨hx, hb, hml, hown, hts⟩ (k_X3_dayOf l dC dI H.size p1 ) (va_cwS 1 hts gX11_counted_X3_dayOf rfl rfl rfl (by decide +kernel) ⟨Nat.le_of_ble_eq_true rfl, Nat.le_of_ble_eq_true rfl⟩) ⟨fun a U g mk q => by obtain ⟨q0, q1, qP, qK, qD⟩ := q; exact ⟨q0, q1, qP, va_K.moved (u := U) (U := U.calling g mk a) (Vm.Alike.refl U.vm) qK, qD⟩, fun U hU hW => ⟨rfl, by rw [hU], hx_P0, va_K.moved hW.alike hKe, hx_D0⟩⟩ rfl rfl hl.1 rfl (lv_room (Nat.le_of_ble_eq_true rfl)) dX11_counted_53 ⟨Nat.le_of_ble_eq_true rfl, Nat.le_of_ble_eq_true rfl⟩) hS (fun q _ h => hF q h) hF (fun r_19 u t H locs ht hvm hw hB hz1 hk1 hS => ?_)
            have hP := gKeep hP hk1
            have pu_20 : r_19 = f_X3_dayOf p1 := hw
            refine lv_iload_n hx hb dX11_counted_56 rfl (lv_at hl 3 rfl) ?_
            have hF := gFree (w := []) (hx_D0 (A := A)) hS hA
            have hKe := hK.sub (tys' := []) [] rfl
            refine va_calli (va_runS (As := [.int p2]) (rest := [.int r_19, .int p0, .ref (ad 9)]) ⟨hx, hb, hml, hown, hts⟩ (k_X3_dayOf l dC dI H.size p2 ) (va_cwS 1 hts gX11_counted_X3_dayOf rfl rfl rfl (by decide +kernel) ⟨Nat.le_of_ble_eq_true rfl, Nat.le_of_ble_eq_true rfl⟩) ⟨fun a U g mk q => by obtain ⟨q0, q1, qP, qK, qD⟩ := q; exact ⟨q0, q1, qP, va_K.moved (u := U) (U := U.calling g mk a) (Vm.Alike.refl U.vm) qK, qD⟩, fun U hU hW => ⟨rfl, by rw [hU], hx_P0, va_K.moved hW.alike hKe, hx_D0⟩⟩ rfl rfl hl.1 rfl (lv_room (Nat.le_of_ble_eq_true rfl)) dX11_counted_57 ⟨Nat.le_of_ble_eq_true rfl, Nat.le_of_ble_eq_true rfl⟩) hS (fun q _ h => hF q h) hF (fun r_21 u t H locs ht hvm hw hB hz1 hk1 hS => ?_)
            have hP := gKeep hP hk1
            have pu_22 : r_21 = f_X3_dayOf p2 := hw
            have hF := gFree hD hS hA
            refine va_callvD hd0 (va_runV_D (As := [.int p0, .int r_19, .int r_21]) (rest := []) ⟨hx, hb, hml, hown, hts⟩ (n_X6_setCountedF l dC dI ad cA adK adV H.size σ4 hIσ4 9 rfl p0 r_19 r_21) (cwV 3 hts gX11_counted_X6_setCounted rfl rfl rfl (by decide +kernel) ⟨Nat.le_of_ble_eq_true rfl, Nat.le_of_ble_eq_true rfl⟩) ⟨gBlind, va_recv hK hP (ci := 5) (q0 := 9) rfl (at_5 rfl), gStart (As := [.ref (ad 9), .int p0, .int r_19, .int r_21]) hP hD hK0 hT hS hF (s.drawn)⟩ rfl rfl hl.1 rfl (lv_room (Nat.le_of_ble_eq_true rfl)) dX11_counted_60 ⟨Nat.le_of_ble_eq_true rfl, Nat.le_of_ble_eq_true rfl⟩) hS (fun q _ h => hF q h) hF (fun σ5 t H locs ht hvm hw hB hz1 hk1 hS d_24 hd0 => ?_)
            have hts := dr_words hts0 (d_24)
            have hK := gKd hK0 (d_24)
            have hown : (s.setDrawn (d_24)).vm.findClass RX11 = some m.cls := hown0
            obtain ⟨hP, hD⟩ := gBack hF ht hB
            obtain ⟨hIσ5, fcσ5, hp_25⟩ := hw
            refine lv_aload_n hx hb dX11_counted_63 rfl (lv_at hl 0 rfl) ?_
            refine va_get (D := (dC, dI)) (ci := 10) (v := .ref (ad 9)) (C := RX11) (T := TX11) (N := 15) hx hb hts hinX11 hown hK hP 0 (at_10 rfl) rfl 3 (by decide) (hts (.fieldLink RX11 33 "BondCalendars" "ratio" "LBondCalendars$Ratio;") (by decide +kernel)) (fun _ h9 => h9) rfl dX11_counted_64 ?_
            refine lv_iload hx hb dX11_counted_67 (lv_at hl 4 rfl) ?_
            have hF := gFree hD hS hA
            refine va_calllD hd0 (va_runV_D (As := [.int p3]) (rest := []) ⟨hx, hb, hml, hown, hts⟩ (n_X6_partF l dC dI ad cA adK adV H.size σ5 hIσ5 9 rfl p3) (cwV 1 hts gX11_counted_X6_part rfl rfl rfl (by decide +kernel) ⟨Nat.le_of_ble_eq_true rfl, Nat.le_of_ble_eq_true rfl⟩) ⟨gBlind, va_recv hK hP (ci := 5) (q0 := 9) rfl (at_5 rfl), gStart (As := [.ref (ad 9), .int p3]) hP hD hK0 hT hS hF (d_24)⟩ rfl rfl hl.1 rfl (lv_room (Nat.le_of_ble_eq_true rfl)) dX11_counted_69 ⟨Nat.le_of_ble_eq_true rfl, Nat.le_of_ble_eq_true rfl⟩) hS (fun q _ h => hF q h) hF (fun r_26 σ6 t H locs ht hvm hw hB hz1 hk1 hS d_27 hd0 => ?_)
            have hts := dr_words hts0 (d_27)
            have hK := gKd hK0 (d_27)
            have hown : (s.setDrawn (d_27)).vm.findClass RX11 = some m.cls := hown0
            obtain ⟨hP, hD⟩ := gBack hF ht hB
            obtain ⟨hIσ6, hro, hp_28⟩ := hw
            subst hro
            refine W.endD hd0 ?_
            exact W.lret (v := r_26) hx hb hr (fun t ht hW => ⟨⟨r_26, σ5, rfl, ⟨hIσ5, (gFr.tr frσ4 fcσ5 (by decide)), (by rw [hp_28, hp_25.1, hp_25.2]; unfold f_X11_counted; simp only [← pu_7, ← pu_13, ← pu_20, ← pu_22, if_neg c_1, if_pos c_5, if_neg c_8, if_neg c_14, if_pos c_18]; try rfl)⟩, ⟨by rw [ht]; exact hP, hD⟩⟩, hS.F ht⟩) hS.2.2 dX11_counted_72
          · refine lv_aload_n hx hb dX11_counted_35 rfl (lv_at hl 0 rfl) ?_
            refine lv_iconst (v := 2) hx hb dX11_counted_36 (by decide) ?_
            have hF := gFree hD hS hA
            refine va_calliD hd0 (va_runV_D (As := [.int 2]) (rest := []) ⟨hx, hb, hml, hown, hts⟩ (n_X11_refuseF l dC dI ad cA adK adV H.size σ hI 2) (cwV 1 hts gX11_counted_X11_refuse rfl rfl rfl (by decide +kernel) ⟨Nat.le_of_ble_eq_true rfl, Nat.le_of_ble_eq_true rfl⟩) ⟨gBlind, va_recv hK hP (ci := 10) (q0 := 0) rfl (at_10 rfl), gStart (As := [.ref (ad 0), .int 2]) hP hD hK0 hT hS hF (s.drawn)⟩ rfl rfl hl.1 rfl (lv_room (Nat.le_of_ble_eq_true rfl)) dX11_counted_37 ⟨Nat.le_of_ble_eq_true rfl, Nat.le_of_ble_eq_true rfl⟩) hS (fun q _ h => hF q h) hF (fun r_29 σ7 t H locs ht hvm hw hB hz1 hk1 hS d_30 hd0 => ?_)
            have hts := dr_words hts0 (d_30)
            have hK := gKd hK0 (d_30)
            have hown : (s.setDrawn (d_30)).vm.findClass RX11 = some m.cls := hown0
            obtain ⟨hP, hD⟩ := gBack hF ht hB
            obtain ⟨hIσ7, fcσ7, hp_31⟩ := hw
            refine lv_i2l hx hb dX11_counted_40 rfl ?_
            refine W.endD hd0 ?_
            exact W.lret (v := (r_29.toInt64)) hx hb hr (fun t ht hW => ⟨⟨(r_29.toInt64), σ7, rfl, ⟨hIσ7, (gFr.tr (gFr.rfl (L := [5, 10]) (σ := σ)) fcσ7 (by decide)), (by rw [hp_31]; unfold f_X11_counted; simp only [← pu_7, ← pu_13, if_neg c_1, if_pos c_5, if_neg c_8, if_neg c_14, if_neg c_18]; try rfl)⟩, ⟨by rw [ht]; exact hP, hD⟩⟩, hS.F ht⟩) hS.2.2 dX11_counted_41
    · refine lv_aload_n hx hb dX11_counted_9 rfl (lv_at hl 0 rfl) ?_
      refine lv_iconst (v := 1) hx hb dX11_counted_10 (by decide) ?_
      have hF := gFree hD hS hA
      refine va_calliD hd0 (va_runV_D (As := [.int 1]) (rest := []) ⟨hx, hb, hml, hown, hts⟩ (n_X11_refuseF l dC dI ad cA adK adV s.heap.size σ hI 1) (cwV 1 hts gX11_counted_X11_refuse rfl rfl rfl (by decide +kernel) ⟨Nat.le_of_ble_eq_true rfl, Nat.le_of_ble_eq_true rfl⟩) ⟨gBlind, va_recv hK hP (ci := 10) (q0 := 0) rfl (at_10 rfl), gStart (As := [.ref (ad 0), .int 1]) hP hD hK0 hT hS hF (s.drawn)⟩ rfl rfl hl.1 rfl (lv_room (Nat.le_of_ble_eq_true rfl)) dX11_counted_11 ⟨Nat.le_of_ble_eq_true rfl, Nat.le_of_ble_eq_true rfl⟩) hS (fun q _ h => hF q h) hF (fun r_32 σ8 t H locs ht hvm hw hB hz1 hk1 hS d_33 hd0 => ?_)
      have hts := dr_words hts0 (d_33)
      have hK := gKd hK0 (d_33)
      have hown : (s.setDrawn (d_33)).vm.findClass RX11 = some m.cls := hown0
      obtain ⟨hP, hD⟩ := gBack hF ht hB
      obtain ⟨hIσ8, fcσ8, hp_34⟩ := hw
      refine lv_i2l hx hb dX11_counted_14 rfl ?_
      refine W.endD hd0 ?_
      exact W.lret (v := (r_32.toInt64)) hx hb hr (fun t ht hW => ⟨⟨(r_32.toInt64), σ8, rfl, ⟨hIσ8, (gFr.tr (gFr.rfl (L := [5, 10]) (σ := σ)) fcσ8 (by decide)), (by rw [hp_34]; unfold f_X11_counted; simp only [if_neg c_1, if_neg c_5]; try rfl)⟩, ⟨by rw [ht]; exact hP, hD⟩⟩, hS.F ht⟩) hS.2.2 dX11_counted_15
set_option maxHeartbeats 8000000 in
set_option maxRecDepth 100000 in
theorem n_X12_setsF (l : Launch) (dC : Nat → ClassId) (dI : Nat → Nat → Nat) (ad : Nat → Nat) (cA : Nat → ClassId) (adK adV : Nat → Nat) (sz : Nat) (σ : gs) (hI : InvM σ) (p0 : Int64) (p1 : Int64) (hh0 : gcdS 200 (absL p0) p1) (hh1 : ¬ f_X12_common p0 p1 = 0) : MetD lw_cs l yX12_sets wsX12_sets ({ frames := 1, cells := 0, slots := 0, locals := 29 }) (va_Pc [.ref (ad 0), .long p0, .long p1] (gPre adK adV (dC, dI) (wM ad cA σ) (tM cA) sz)) (va_Qv (fun (τ : gs) => InvM τ ∧ mFr [] [] σ τ ∧ ((τ 0).2.1 3 = (f_X12_sets p0 p1).1 ∧ (τ 0).2.1 4 = (f_X12_sets p0 p1).2)) (fun τ t => gPost (dC, dI) (va_A (wM ad cA σ) sz) (wM ad cA τ) t) (va_A (wM ad cA σ) sz)) 0 0 (va_A (wM ad cA σ) sz) := by
  refine MetD.ofW (cc := cX12_sets) (maxL := 7) (ret := none) (by decide) rfl ?_
  intro p e s m args below meth c s₁ B hml hv hd0
  obtain ⟨rfl, hsz, hP, hK, hD0, hT⟩ := hv
  have hx := B.exec
  have hb := B.bytes
  have hr := B.returns
  have hts0 := atoms_spec (ws := wsX12_sets) B.pre
  have hK0 := hK
  have hown0 : s.vm.findClass RX12 = some m.cls := findClass_of_methodNamed B.named
  have hlocks := B.notSynchronized
  have hinX12 : ∀ w ∈ u_ws RX12 TX12 69, w ∈ wsX12_sets := (fun _ h9 => List.mem_cons_of_mem _ (List.mem_append_right _ h9))
  subst hsz
  have hD := hD0.self (sz := s.heap.size)
  generalize hAe : va_A (wM ad cA σ) s.heap.size = A at hD hT ⊢
  have hA : ∀ q : Nat, s.heap.size ≤ q → A q := fun q h => by rw [← hAe]; exact Or.inr h
  have hS : va_S A s.heap s.heap [] := va_S.rf
  have hl := lv_entry ([.ref (ad 0), .long p0, .long p1]) (n := 7) (Nat.le_of_ble_eq_true rfl)
  rw [lg_entry_eq]
  generalize (lg_sl ([.ref (ad 0), .long p0, .long p1]) ++ List.replicate (7 - (lg_sl ([.ref (ad 0), .long p0, .long p1])).length) Slot.unset).toArray = ls at hl ⊢
  have hl : lv_has ls 7 [(0, .ref (ad 0)), (1, .long p0), (3, .long p1)] := hl
  have hts := dr_words hts0 (s.drawn)
  have hK := gKd hK0 (s.drawn)
  have hown : (s.setDrawn (s.drawn)).vm.findClass RX12 = some m.cls := hown0
  refine lv_lload_n hx hb dX12_sets_0 rfl (lv_at hl 1 rfl) ?_
  refine lv_lload_n hx hb dX12_sets_1 rfl (lv_at hl 2 rfl) ?_
  have hF := gFree (w := []) (hx_D0 (A := A)) hS hA
  have hKe := hK.sub (tys' := []) [] rfl
  refine va_calll (va_runS (As := [.long p0, .long p1]) (rest := []) ⟨hx, hb, hml, hown, hts⟩ (k_X12_common l dC dI s.heap.size p0 p1 hh0) (va_cwS 2 hts gX12_sets_X12_common rfl rfl rfl (by decide +kernel) ⟨Nat.le_of_ble_eq_true rfl, Nat.le_of_ble_eq_true rfl⟩) ⟨fun a U g mk q => by obtain ⟨q0, q1, qP, qK, qD⟩ := q; exact ⟨q0, q1, qP, va_K.moved (u := U) (U := U.calling g mk a) (Vm.Alike.refl U.vm) qK, qD⟩, fun U hU hW => ⟨rfl, by rw [hU], hx_P0, va_K.moved hW.alike hKe, hx_D0⟩⟩ rfl rfl hl.1 rfl (lv_room (Nat.le_of_ble_eq_true rfl)) dX12_sets_2 ⟨Nat.le_of_ble_eq_true rfl, Nat.le_of_ble_eq_true rfl⟩) hS (fun q _ h => hF q h) hF (fun r_1 u t H locs ht hvm hw hB hz1 hk1 hS => ?_)
  have hP := gKeep hP hk1
  have pu_2 : r_1 = f_X12_common p0 p1 := hw
  refine lv_lstore (lv' := [(5, .long r_1), (0, .ref (ad 0)), (1, .long p0), (3, .long p1)]) hx hb dX12_sets_5 hl (by decide) rfl (fun ls hl => ?_)
  refine lv_aload_n hx hb dX12_sets_7 rfl (lv_at hl 1 rfl) ?_
  refine lv_lload_n hx hb dX12_sets_8 rfl (lv_at hl 2 rfl) ?_
  refine lv_lload hx hb dX12_sets_9 (lv_at hl 0 rfl) ?_
  refine lv_ldiv hx hb dX12_sets_11 (fun q9 => hh1 (pu_2.symm.trans q9)) ?_
  refine lv_topl (fun x_3 ex_3 => ?_)
  refine va_put (D := (dC, dI)) (ci := 11) (v := .long x_3) (C := RX12) (T := TX12) (N := 69) hx hb hts hinX12 tyX12 tyX12_ok nmX12 hown hK hP hD hS 0 (mat_11 rfl) rfl 3 (by decide) (hts (.fieldLink RX12 161 "BondCalendarsModel" "up" "J") (by decide +kernel)) (fun _ h9 => h9) rfl (ty := .long) (by decide +kernel) rfl rfl (Nat.le_of_ble_eq_true rfl) dX12_sets_12 (fun H locs hP hD hS => ?_)
  obtain ⟨σ1, eσ1, hP, hD⟩ := gPut (mse_11_3 rfl) hP hD
  have hIσ1 : InvM σ1 := by rw [eσ1]; exact minv_L hI
  have frσ1 : mFr [] [] σ σ1 := by rw [eσ1]; exact mFr.oL (mFr.rfl (L := []) (F := []) (σ := σ))
  refine lv_aload_n hx hb dX12_sets_15 rfl (lv_at hl 1 rfl) ?_
  refine lv_lload_n hx hb dX12_sets_16 rfl (lv_at hl 3 rfl) ?_
  refine lv_lload hx hb dX12_sets_17 (lv_at hl 0 rfl) ?_
  refine lv_ldiv hx hb dX12_sets_19 (fun q9 => hh1 (pu_2.symm.trans q9)) ?_
  refine lv_topl (fun x_4 ex_4 => ?_)
  refine va_put (D := (dC, dI)) (ci := 11) (v := .long x_4) (C := RX12) (T := TX12) (N := 69) hx hb hts hinX12 tyX12 tyX12_ok nmX12 hown hK hP hD hS 0 (mat_11 rfl) rfl 4 (by decide) (hts (.fieldLink RX12 165 "BondCalendarsModel" "lo" "J") (by decide +kernel)) (fun _ h9 => h9) rfl (ty := .long) (by decide +kernel) rfl rfl (Nat.le_of_ble_eq_true rfl) dX12_sets_20 (fun H locs hP hD hS => ?_)
  obtain ⟨σ2, eσ2, hP, hD⟩ := gPut (mse_11_4 rfl) hP hD
  have hIσ2 : InvM σ2 := by rw [eσ2]; exact minv_L hIσ1
  have frσ2 : mFr [] [] σ σ2 := by rw [eσ2]; exact mFr.oL frσ1
  refine W.endD hd0 ?_
  exact W.vret hx hb hr (fun t ht hW => ⟨⟨σ2, rfl, ⟨hIσ2, frσ2, ⟨by rw [eσ2, gL_oth _ _ _ (by decide), eσ1, gL_sf]; unfold f_X12_sets; simp only [← pu_2]; try (rw [ex_3]); try rfl, by rw [eσ2, gL_sf]; unfold f_X12_sets; simp only [← pu_2]; try (rw [ex_4]); try rfl⟩⟩, ⟨by rw [ht]; exact hP, hD⟩⟩, hS.F ht⟩) hS.2.2 dX12_sets_23
set_option maxHeartbeats 8000000 in
set_option maxRecDepth 100000 in
theorem n_X12_countsPlainF (l : Launch) (dC : Nat → ClassId) (dI : Nat → Nat → Nat) (ad : Nat → Nat) (cA : Nat → ClassId) (adK adV : Nat → Nat) (sz : Nat) (σ : gs) (hI : InvM σ) (p0 : Int32) (p1 : Int32) (p2 : Int32) : MetD lw_cs l yX12_countsPlain wsX12_countsPlain ({ frames := 2, cells := 0, slots := 0, locals := 55 }) (va_Pc [.ref (ad 0), .int p0, .int p1, .int p2] (gPre adK adV (dC, dI) (wM ad cA σ) (tM cA) sz)) (va_Qv (fun (τ : gs) => InvM τ ∧ mFr [] [] σ τ ∧ ((τ 0).2.1 3 = (f_X12_countsPlain p0 p1 p2).1 ∧ (τ 0).2.1 4 = (f_X12_countsPlain p0 p1 p2).2)) (fun τ t => gPost (dC, dI) (va_A (wM ad cA σ) sz) (wM ad cA τ) t) (va_A (wM ad cA σ) sz)) 0 0 (va_A (wM ad cA σ) sz) := by
  refine MetD.ofW (cc := cX12_countsPlain) (maxL := 5) (ret := none) (by decide) rfl ?_
  intro p e s m args below meth c s₁ B hml hv hd0
  obtain ⟨rfl, hsz, hP, hK, hD0, hT⟩ := hv
  have hx := B.exec
  have hb := B.bytes
  have hr := B.returns
  have hts0 := atoms_spec (ws := wsX12_countsPlain) B.pre
  have hK0 := hK
  have hown0 : s.vm.findClass RX12 = some m.cls := findClass_of_methodNamed B.named
  have hlocks := B.notSynchronized
  subst hsz
  have hD := hD0.self (sz := s.heap.size)
  generalize hAe : va_A (wM ad cA σ) s.heap.size = A at hD hT ⊢
  have hA : ∀ q : Nat, s.heap.size ≤ q → A q := fun q h => by rw [← hAe]; exact Or.inr h
  have hS : va_S A s.heap s.heap [] := va_S.rf
  have hl := lv_entry ([.ref (ad 0), .int p0, .int p1, .int p2]) (n := 5) (Nat.le_of_ble_eq_true rfl)
  rw [lg_entry_eq]
  generalize (lg_sl ([.ref (ad 0), .int p0, .int p1, .int p2]) ++ List.replicate (5 - (lg_sl ([.ref (ad 0), .int p0, .int p1, .int p2])).length) Slot.unset).toArray = ls at hl ⊢
  have hl : lv_has ls 5 [(0, .ref (ad 0)), (1, .int p0), (2, .int p1), (3, .int p2)] := hl
  have hts := dr_words hts0 (s.drawn)
  have hK := gKd hK0 (s.drawn)
  have hown : (s.setDrawn (s.drawn)).vm.findClass RX12 = some m.cls := hown0
  refine lv_iload_n hx hb dX12_countsPlain_0 rfl (lv_at hl 3 rfl) ?_
  have hF := gFree (w := []) (hx_D0 (A := A)) hS hA
  have hKe := hK.sub (tys' := []) [] rfl
  refine va_calli (va_runS (As := [.int p2]) (rest := []) ⟨hx, hb, hml, hown, hts⟩ (k_X12_dayOf l dC dI s.heap.size p2 ) (va_cwS 1 hts gX12_countsPlain_X12_dayOf rfl rfl rfl (by decide +kernel) ⟨Nat.le_of_ble_eq_true rfl, Nat.le_of_ble_eq_true rfl⟩) ⟨fun a U g mk q => by obtain ⟨q0, q1, qP, qK, qD⟩ := q; exact ⟨q0, q1, qP, va_K.moved (u := U) (U := U.calling g mk a) (Vm.Alike.refl U.vm) qK, qD⟩, fun U hU hW => ⟨rfl, by rw [hU], hx_P0, va_K.moved hW.alike hKe, hx_D0⟩⟩ rfl rfl hl.1 rfl (lv_room (Nat.le_of_ble_eq_true rfl)) dX12_countsPlain_1 ⟨Nat.le_of_ble_eq_true rfl, Nat.le_of_ble_eq_true rfl⟩) hS (fun q _ h => hF q h) hF (fun r_1 u t H locs ht hvm hw hB hz1 hk1 hS => ?_)
  have hP := gKeep hP hk1
  have pu_2 : r_1 = f_X12_dayOf p2 := hw
  refine lv_iload_n hx hb dX12_countsPlain_4 rfl (lv_at hl 2 rfl) ?_
  have hF := gFree (w := []) (hx_D0 (A := A)) hS hA
  have hKe := hK.sub (tys' := []) [] rfl
  refine va_calli (va_runS (As := [.int p1]) (rest := [.int r_1]) ⟨hx, hb, hml, hown, hts⟩ (k_X12_dayOf l dC dI H.size p1 ) (va_cwS 1 hts gX12_countsPlain_X12_dayOf rfl rfl rfl (by decide +kernel) ⟨Nat.le_of_ble_eq_true rfl, Nat.le_of_ble_eq_true rfl⟩) ⟨fun a U g mk q => by obtain ⟨q0, q1, qP, qK, qD⟩ := q; exact ⟨q0, q1, qP, va_K.moved (u := U) (U := U.calling g mk a) (Vm.Alike.refl U.vm) qK, qD⟩, fun U hU hW => ⟨rfl, by rw [hU], hx_P0, va_K.moved hW.alike hKe, hx_D0⟩⟩ rfl rfl hl.1 rfl (lv_room (Nat.le_of_ble_eq_true rfl)) dX12_countsPlain_5 ⟨Nat.le_of_ble_eq_true rfl, Nat.le_of_ble_eq_true rfl⟩) hS (fun q _ h => hF q h) hF (fun r_3 u t H locs ht hvm hw hB hz1 hk1 hS => ?_)
  have hP := gKeep hP hk1
  have pu_4 : r_3 = f_X12_dayOf p1 := hw
  refine lv_isub hx hb dX12_countsPlain_8 ?_
  refine lv_topi (fun x_5 ex_5 => ?_)
  refine lv_istore (lv' := [(4, .int x_5), (0, .ref (ad 0)), (1, .int p0), (2, .int p1), (3, .int p2)]) hx hb dX12_countsPlain_9 hl (by decide) rfl (fun ls hl => ?_)
  refine lv_iload_n hx hb dX12_countsPlain_11 rfl (lv_at hl 2 rfl) ?_
  refine lv_iconst (v := 2) hx hb dX12_countsPlain_12 (by decide) ?_
  refine lv_icmp_ne (tgt := 29) hx hb dX12_countsPlain_13 (by decide) (fun c_6 => ?_) (fun c_6 => ?_)
  · refine lv_iload_n hx hb dX12_countsPlain_29 rfl (lv_at hl 2 rfl) ?_
    refine lv_iconst (v := 3) hx hb dX12_countsPlain_30 (by decide) ?_
    refine lv_icmp_ne (tgt := 47) hx hb dX12_countsPlain_31 (by decide) (fun c_7 => ?_) (fun c_7 => ?_)
    · refine lv_aload_n hx hb dX12_countsPlain_47 rfl (lv_at hl 1 rfl) ?_
      refine lv_iload_n hx hb dX12_countsPlain_48 rfl (lv_at hl 3 rfl) ?_
      refine lv_iload_n hx hb dX12_countsPlain_49 rfl (lv_at hl 4 rfl) ?_
      refine lv_iload_n hx hb dX12_countsPlain_50 rfl (lv_at hl 2 rfl) ?_
      refine lv_iconst (v := 1) hx hb dX12_countsPlain_51 (by decide) ?_
      refine lv_icmp_ne (tgt := 59) hx hb dX12_countsPlain_52 (by decide) (fun c_8 => ?_) (fun c_8 => ?_)
      · refine lv_iconst (v := 0) hx hb dX12_countsPlain_59 (by decide) ?_
        have hF := gFree (w := []) (hx_D0 (A := A)) hS hA
        have hKe := hK.sub (tys' := []) [] rfl
        refine va_calli (va_runS (As := [.int p1, .int p2, .int 0]) (rest := [.ref (ad 0)]) ⟨hx, hb, hml, hown, hts⟩ (k_X12_thirties l dC dI H.size p1 p2 0 ) (va_cwS 3 hts gX12_countsPlain_X12_thirties rfl rfl rfl (by decide +kernel) ⟨Nat.le_of_ble_eq_true rfl, Nat.le_of_ble_eq_true rfl⟩) ⟨fun a U g mk q => by obtain ⟨q0, q1, qP, qK, qD⟩ := q; exact ⟨q0, q1, qP, va_K.moved (u := U) (U := U.calling g mk a) (Vm.Alike.refl U.vm) qK, qD⟩, fun U hU hW => ⟨rfl, by rw [hU], hx_P0, va_K.moved hW.alike hKe, hx_D0⟩⟩ rfl rfl hl.1 rfl (lv_room (Nat.le_of_ble_eq_true rfl)) dX12_countsPlain_60 ⟨Nat.le_of_ble_eq_true rfl, Nat.le_of_ble_eq_true rfl⟩) hS (fun q _ h => hF q h) hF (fun r_9 u t H locs ht hvm hw hB hz1 hk1 hS => ?_)
        have hP := gKeep hP hk1
        have pu_10 : r_9 = f_X12_thirties p1 p2 0 := hw
        refine lv_i2l hx hb dX12_countsPlain_63 rfl ?_
        refine lv_ldc2 (v := 360) hx hb hown (hts (.constantLong RX12 172 (360)) (by decide +kernel)) dX12_countsPlain_64 ?_
        have hF := gFree hD hS hA
        refine va_callvD hd0 (va_runV_D (As := [.long (r_9.toInt64), .long 360]) (rest := []) ⟨hx, hb, hml, hown, hts⟩ (n_X12_setsF l dC dI ad cA adK adV H.size σ hI (r_9.toInt64) 360 (gcd_360 _) (gcn_360 _)) (cwV 2 hts gX12_countsPlain_X12_sets rfl rfl rfl (by decide +kernel) ⟨Nat.le_of_ble_eq_true rfl, Nat.le_of_ble_eq_true rfl⟩) ⟨gBlind, va_recv hK hP (ci := 11) (q0 := 0) rfl (mat_11 rfl), gStart (As := [.ref (ad 0), .long (r_9.toInt64), .long 360]) hP hD hK0 hT hS hF (s.drawn)⟩ rfl rfl hl.1 rfl (lv_room (Nat.le_of_ble_eq_true rfl)) dX12_countsPlain_67 ⟨Nat.le_of_ble_eq_true rfl, Nat.le_of_ble_eq_true rfl⟩) hS (fun q _ h => hF q h) hF (fun σ1 t H locs ht hvm hw hB hz1 hk1 hS d_12 hd0 => ?_)
        have hts := dr_words hts0 (d_12)
        have hK := gKd hK0 (d_12)
        have hown : (s.setDrawn (d_12)).vm.findClass RX12 = some m.cls := hown0
        obtain ⟨hP, hD⟩ := gBack hF ht hB
        obtain ⟨hIσ1, fcσ1, hp_13⟩ := hw
        refine W.endD hd0 ?_
        exact W.vret hx hb hr (fun t ht hW => ⟨⟨σ1, rfl, ⟨hIσ1, (mFr.tr (mFr.rfl (L := []) (F := []) (σ := σ)) fcσ1 (by decide) (by decide)), ⟨by rw [hp_13.1]; unfold f_X12_countsPlain; simp only [← pu_2, ← pu_4, ← pu_10, if_neg c_6, if_neg c_7, if_neg c_8]; try rfl, by rw [hp_13.2]; unfold f_X12_countsPlain; simp only [← pu_2, ← pu_4, ← pu_10, if_neg c_6, if_neg c_7, if_neg c_8]; try rfl⟩⟩, ⟨by rw [ht]; exact hP, hD⟩⟩, hS.F ht⟩) hS.2.2 dX12_countsPlain_70
      · refine lv_iconst (v := 1) hx hb dX12_countsPlain_55 (by decide) ?_
        refine lv_goto (tgt := 60) hx hb dX12_countsPlain_56 (by decide) ?_
        have hF := gFree (w := []) (hx_D0 (A := A)) hS hA
        have hKe := hK.sub (tys' := []) [] rfl
        refine va_calli (va_runS (As := [.int p1, .int p2, .int 1]) (rest := [.ref (ad 0)]) ⟨hx, hb, hml, hown, hts⟩ (k_X12_thirties l dC dI H.size p1 p2 1 ) (va_cwS 3 hts gX12_countsPlain_X12_thirties rfl rfl rfl (by decide +kernel) ⟨Nat.le_of_ble_eq_true rfl, Nat.le_of_ble_eq_true rfl⟩) ⟨fun a U g mk q => by obtain ⟨q0, q1, qP, qK, qD⟩ := q; exact ⟨q0, q1, qP, va_K.moved (u := U) (U := U.calling g mk a) (Vm.Alike.refl U.vm) qK, qD⟩, fun U hU hW => ⟨rfl, by rw [hU], hx_P0, va_K.moved hW.alike hKe, hx_D0⟩⟩ rfl rfl hl.1 rfl (lv_room (Nat.le_of_ble_eq_true rfl)) dX12_countsPlain_60 ⟨Nat.le_of_ble_eq_true rfl, Nat.le_of_ble_eq_true rfl⟩) hS (fun q _ h => hF q h) hF (fun r_14 u t H locs ht hvm hw hB hz1 hk1 hS => ?_)
        have hP := gKeep hP hk1
        have pu_15 : r_14 = f_X12_thirties p1 p2 1 := hw
        refine lv_i2l hx hb dX12_countsPlain_63 rfl ?_
        refine lv_ldc2 (v := 360) hx hb hown (hts (.constantLong RX12 172 (360)) (by decide +kernel)) dX12_countsPlain_64 ?_
        have hF := gFree hD hS hA
        refine va_callvD hd0 (va_runV_D (As := [.long (r_14.toInt64), .long 360]) (rest := []) ⟨hx, hb, hml, hown, hts⟩ (n_X12_setsF l dC dI ad cA adK adV H.size σ hI (r_14.toInt64) 360 (gcd_360 _) (gcn_360 _)) (cwV 2 hts gX12_countsPlain_X12_sets rfl rfl rfl (by decide +kernel) ⟨Nat.le_of_ble_eq_true rfl, Nat.le_of_ble_eq_true rfl⟩) ⟨gBlind, va_recv hK hP (ci := 11) (q0 := 0) rfl (mat_11 rfl), gStart (As := [.ref (ad 0), .long (r_14.toInt64), .long 360]) hP hD hK0 hT hS hF (s.drawn)⟩ rfl rfl hl.1 rfl (lv_room (Nat.le_of_ble_eq_true rfl)) dX12_countsPlain_67 ⟨Nat.le_of_ble_eq_true rfl, Nat.le_of_ble_eq_true rfl⟩) hS (fun q _ h => hF q h) hF (fun σ2 t H locs ht hvm hw hB hz1 hk1 hS d_17 hd0 => ?_)
        have hts := dr_words hts0 (d_17)
        have hK := gKd hK0 (d_17)
        have hown : (s.setDrawn (d_17)).vm.findClass RX12 = some m.cls := hown0
        obtain ⟨hP, hD⟩ := gBack hF ht hB
        obtain ⟨hIσ2, fcσ2, hp_18⟩ := hw
        refine W.endD hd0 ?_
        exact W.vret hx hb hr (fun t ht hW => ⟨⟨σ2, rfl, ⟨hIσ2, (mFr.tr (mFr.rfl (L := []) (F := []) (σ := σ)) fcσ2 (by decide) (by decide)), ⟨by rw [hp_18.1]; unfold f_X12_countsPlain; simp only [← pu_2, ← pu_4, ← pu_15, if_neg c_6, if_neg c_7, if_pos c_8]; try rfl, by rw [hp_18.2]; unfold f_X12_countsPlain; simp only [← pu_2, ← pu_4, ← pu_15, if_neg c_6, if_neg c_7, if_pos c_8]; try rfl⟩⟩, ⟨by rw [ht]; exact hP, hD⟩⟩, hS.F ht⟩) hS.2.2 dX12_countsPlain_70
    · refine lv_aload_n hx hb dX12_countsPlain_34 rfl (lv_at hl 1 rfl) ?_
      refine lv_iload hx hb dX12_countsPlain_35 (lv_at hl 0 rfl) ?_
      refine lv_i2l hx hb dX12_countsPlain_37 rfl ?_
      refine lv_ldc2 (v := 365) hx hb hown (hts (.constantLong RX12 174 (365)) (by decide +kernel)) dX12_countsPlain_38 ?_
      have hF := gFree hD hS hA
      refine va_callvD hd0 (va_runV_D (As := [.long (x_5.toInt64), .long 365]) (rest := []) ⟨hx, hb, hml, hown, hts⟩ (n_X12_setsF l dC dI ad cA adK adV H.size σ hI (x_5.toInt64) 365 (gcd_365 _) (gcn_365 _)) (cwV 2 hts gX12_countsPlain_X12_sets rfl rfl rfl (by decide +kernel) ⟨Nat.le_of_ble_eq_true rfl, Nat.le_of_ble_eq_true rfl⟩) ⟨gBlind, va_recv hK hP (ci := 11) (q0 := 0) rfl (mat_11 rfl), gStart (As := [.ref (ad 0), .long (x_5.toInt64), .long 365]) hP hD hK0 hT hS hF (s.drawn)⟩ rfl rfl hl.1 rfl (lv_room (Nat.le_of_ble_eq_true rfl)) dX12_countsPlain_41 ⟨Nat.le_of_ble_eq_true rfl, Nat.le_of_ble_eq_true rfl⟩) hS (fun q _ h => hF q h) hF (fun σ3 t H locs ht hvm hw hB hz1 hk1 hS d_20 hd0 => ?_)
      have hts := dr_words hts0 (d_20)
      have hK := gKd hK0 (d_20)
      have hown : (s.setDrawn (d_20)).vm.findClass RX12 = some m.cls := hown0
      obtain ⟨hP, hD⟩ := gBack hF ht hB
      obtain ⟨hIσ3, fcσ3, hp_21⟩ := hw
      refine lv_goto (tgt := 70) hx hb dX12_countsPlain_44 (by decide) ?_
      refine W.endD hd0 ?_
      exact W.vret hx hb hr (fun t ht hW => ⟨⟨σ3, rfl, ⟨hIσ3, (mFr.tr (mFr.rfl (L := []) (F := []) (σ := σ)) fcσ3 (by decide) (by decide)), ⟨by rw [hp_21.1, ex_5]; unfold f_X12_countsPlain; simp only [← pu_2, ← pu_4, if_neg c_6, if_pos c_7]; try rfl, by rw [hp_21.2, ex_5]; unfold f_X12_countsPlain; simp only [← pu_2, ← pu_4, if_neg c_6, if_pos c_7]; try rfl⟩⟩, ⟨by rw [ht]; exact hP, hD⟩⟩, hS.F ht⟩) hS.2.2 dX12_countsPlain_70
  · refine lv_aload_n hx hb dX12_countsPlain_16 rfl (lv_at hl 1 rfl) ?_
    refine lv_iload hx hb dX12_countsPlain_17 (lv_at hl 0 rfl) ?_
    refine lv_i2l hx hb dX12_countsPlain_19 rfl ?_
    refine lv_ldc2 (v := 360) hx hb hown (hts (.constantLong RX12 172 (360)) (by decide +kernel)) dX12_countsPlain_20 ?_
    have hF := gFree hD hS hA
    refine va_callvD hd0 (va_runV_D (As := [.long (x_5.toInt64), .long 360]) (rest := []) ⟨hx, hb, hml, hown, hts⟩ (n_X12_setsF l dC dI ad cA adK adV H.size σ hI (x_5.toInt64) 360 (gcd_360 _) (gcn_360 _)) (cwV 2 hts gX12_countsPlain_X12_sets rfl rfl rfl (by decide +kernel) ⟨Nat.le_of_ble_eq_true rfl, Nat.le_of_ble_eq_true rfl⟩) ⟨gBlind, va_recv hK hP (ci := 11) (q0 := 0) rfl (mat_11 rfl), gStart (As := [.ref (ad 0), .long (x_5.toInt64), .long 360]) hP hD hK0 hT hS hF (s.drawn)⟩ rfl rfl hl.1 rfl (lv_room (Nat.le_of_ble_eq_true rfl)) dX12_countsPlain_23 ⟨Nat.le_of_ble_eq_true rfl, Nat.le_of_ble_eq_true rfl⟩) hS (fun q _ h => hF q h) hF (fun σ4 t H locs ht hvm hw hB hz1 hk1 hS d_23 hd0 => ?_)
    have hts := dr_words hts0 (d_23)
    have hK := gKd hK0 (d_23)
    have hown : (s.setDrawn (d_23)).vm.findClass RX12 = some m.cls := hown0
    obtain ⟨hP, hD⟩ := gBack hF ht hB
    obtain ⟨hIσ4, fcσ4, hp_24⟩ := hw
    refine lv_goto (tgt := 70) hx hb dX12_countsPlain_26 (by decide) ?_
    refine W.endD hd0 ?_
    exact W.vret hx hb hr (fun t ht hW => ⟨⟨σ4, rfl, ⟨hIσ4, (mFr.tr (mFr.rfl (L := []) (F := []) (σ := σ)) fcσ4 (by decide) (by decide)), ⟨by rw [hp_24.1, ex_5]; unfold f_X12_countsPlain; simp only [← pu_2, ← pu_4, if_pos c_6]; try rfl, by rw [hp_24.2, ex_5]; unfold f_X12_countsPlain; simp only [← pu_2, ← pu_4, if_pos c_6]; try rfl⟩⟩, ⟨by rw [ht]; exact hP, hD⟩⟩, hS.F ht⟩) hS.2.2 dX12_countsPlain_70
set_option maxHeartbeats 8000000 in
set_option maxRecDepth 100000 in
theorem n_X12_goodLongF (l : Launch) (dC : Nat → ClassId) (dI : Nat → Nat → Nat) (ad : Nat → Nat) (cA : Nat → ClassId) (adK adV : Nat → Nat) (sz : Nat) (σ : gs) (hI : InvM σ) (p0 : Int64) : MetD lw_cs l yX12_goodLong wsX12_goodLong ({ frames := 1, cells := 0, slots := 0, locals := 21 }) (va_Pc [.ref (ad 0), .long p0] (gPre adK adV (dC, dI) (wM ad cA σ) (tM cA) sz)) (va_Ql (fun (r : Int64) (τ : gs) => InvM τ ∧ mFr [] [1, 2] σ τ ∧ (r = f_X12_goodLong p0)) (fun τ t => gPost (dC, dI) (va_A (wM ad cA σ) sz) (wM ad cA τ) t) (va_A (wM ad cA σ) sz)) 0 0 (va_A (wM ad cA σ) sz) := by
  refine MetD.ofW (cc := cX12_goodLong) (maxL := 3) (ret := (some .long)) (by decide) rfl ?_
  intro p e s m args below meth c s₁ B hml hv hd0
  obtain ⟨rfl, hsz, hP, hK, hD0, hT⟩ := hv
  have hx := B.exec
  have hb := B.bytes
  have hr := B.returns
  have hts0 := atoms_spec (ws := wsX12_goodLong) B.pre
  have hK0 := hK
  have hown0 : s.vm.findClass RX12 = some m.cls := findClass_of_methodNamed B.named
  have hlocks := B.notSynchronized
  subst hsz
  have hD := hD0.self (sz := s.heap.size)
  generalize hAe : va_A (wM ad cA σ) s.heap.size = A at hD hT ⊢
  have hA : ∀ q : Nat, s.heap.size ≤ q → A q := fun q h => by rw [← hAe]; exact Or.inr h
  have hS : va_S A s.heap s.heap [] := va_S.rf
  have hl := lv_entry ([.ref (ad 0), .long p0]) (n := 3) (Nat.le_of_ble_eq_true rfl)
  rw [lg_entry_eq]
  generalize (lg_sl ([.ref (ad 0), .long p0]) ++ List.replicate (3 - (lg_sl ([.ref (ad 0), .long p0])).length) Slot.unset).toArray = ls at hl ⊢
  have hl : lv_has ls 3 [(0, .ref (ad 0)), (1, .long p0)] := hl
  have hts := dr_words hts0 (s.drawn)
  have hK := gKd hK0 (s.drawn)
  have hown : (s.setDrawn (s.drawn)).vm.findClass RX12 = some m.cls := hown0
  refine lv_aload_n hx hb dX12_goodLong_0 rfl (lv_at hl 0 rfl) ?_
  refine lv_iconst (v := 0) hx hb dX12_goodLong_1 (by decide) ?_
  have hF := gFree hD hS hA
  refine va_calliD hd0 (va_runV_D (As := [.int 0]) (rest := []) ⟨hx, hb, hml, hown, hts⟩ (n_X12_good l dC dI ad cA adK adV s.heap.size σ hI 0) (cwV 1 hts gX12_goodLong_X12_good rfl rfl rfl (by decide +kernel) ⟨Nat.le_of_ble_eq_true rfl, Nat.le_of_ble_eq_true rfl⟩) ⟨gBlind, va_recv hK hP (ci := 11) (q0 := 0) rfl (mat_11 rfl), gStart (As := [.ref (ad 0), .int 0]) hP hD hK0 hT hS hF (s.drawn)⟩ rfl rfl hl.1 rfl (lv_room (Nat.le_of_ble_eq_true rfl)) dX12_goodLong_2 ⟨Nat.le_of_ble_eq_true rfl, Nat.le_of_ble_eq_true rfl⟩) hS (fun q _ h => hF q h) hF (fun r_1 σ1 t H locs ht hvm hw hB hz1 hk1 hS d_2 hd0 => ?_)
  have hts := dr_words hts0 (d_2)
  have hK := gKd hK0 (d_2)
  have hown : (s.setDrawn (d_2)).vm.findClass RX12 = some m.cls := hown0
  obtain ⟨hP, hD⟩ := gBack hF ht hB
  obtain ⟨hIσ1, fcσ1, hp_3⟩ := hw
  refine lv_pop hx hb dX12_goodLong_5 rfl ?_
  refine lv_lload_n hx hb dX12_goodLong_6 rfl (lv_at hl 1 rfl) ?_
  refine W.endD hd0 ?_
  exact W.lret (v := p0) hx hb hr (fun t ht hW => ⟨⟨p0, σ1, rfl, ⟨hIσ1, (mFr.tr (mFr.rfl (L := []) (F := [1, 2]) (σ := σ)) fcσ1 (by decide) (by decide)), (by unfold f_X12_goodLong; rfl)⟩, ⟨by rw [ht]; exact hP, hD⟩⟩, hS.F ht⟩) hS.2.2 dX12_goodLong_7
set_option maxHeartbeats 8000000 in
set_option maxRecDepth 100000 in
theorem n_X12_refusedLongF (l : Launch) (dC : Nat → ClassId) (dI : Nat → Nat → Nat) (ad : Nat → Nat) (cA : Nat → ClassId) (adK adV : Nat → Nat) (sz : Nat) (σ : gs) (hI : InvM σ) (p0 : Int32) (p1 : Int64) : MetD lw_cs l yX12_refusedLong wsX12_refusedLong ({ frames := 1, cells := 0, slots := 0, locals := 21 }) (va_Pc [.ref (ad 0), .int p0, .long p1] (gPre adK adV (dC, dI) (wM ad cA σ) (tM cA) sz)) (va_Ql (fun (r : Int64) (τ : gs) => InvM τ ∧ mFr [] [1, 2] σ τ ∧ (r = f_X12_refusedLong p0 p1)) (fun τ t => gPost (dC, dI) (va_A (wM ad cA σ) sz) (wM ad cA τ) t) (va_A (wM ad cA σ) sz)) 0 0 (va_A (wM ad cA σ) sz) := by
  refine MetD.ofW (cc := cX12_refusedLong) (maxL := 4) (ret := (some .long)) (by decide) rfl ?_
  intro p e s m args below meth c s₁ B hml hv hd0
  obtain ⟨rfl, hsz, hP, hK, hD0, hT⟩ := hv
  have hx := B.exec
  have hb := B.bytes
  have hr := B.returns
  have hts0 := atoms_spec (ws := wsX12_refusedLong) B.pre
  have hK0 := hK
  have hown0 : s.vm.findClass RX12 = some m.cls := findClass_of_methodNamed B.named
  have hlocks := B.notSynchronized
  subst hsz
  have hD := hD0.self (sz := s.heap.size)
  generalize hAe : va_A (wM ad cA σ) s.heap.size = A at hD hT ⊢
  have hA : ∀ q : Nat, s.heap.size ≤ q → A q := fun q h => by rw [← hAe]; exact Or.inr h
  have hS : va_S A s.heap s.heap [] := va_S.rf
  have hl := lv_entry ([.ref (ad 0), .int p0, .long p1]) (n := 4) (Nat.le_of_ble_eq_true rfl)
  rw [lg_entry_eq]
  generalize (lg_sl ([.ref (ad 0), .int p0, .long p1]) ++ List.replicate (4 - (lg_sl ([.ref (ad 0), .int p0, .long p1])).length) Slot.unset).toArray = ls at hl ⊢
  have hl : lv_has ls 4 [(0, .ref (ad 0)), (1, .int p0), (2, .long p1)] := hl
  have hts := dr_words hts0 (s.drawn)
  have hK := gKd hK0 (s.drawn)
  have hown : (s.setDrawn (s.drawn)).vm.findClass RX12 = some m.cls := hown0
  refine lv_aload_n hx hb dX12_refusedLong_0 rfl (lv_at hl 0 rfl) ?_
  refine lv_iload_n hx hb dX12_refusedLong_1 rfl (lv_at hl 1 rfl) ?_
  have hF := gFree hD hS hA
  refine va_calliD hd0 (va_runV_D (As := [.int p0]) (rest := []) ⟨hx, hb, hml, hown, hts⟩ (n_X12_refused l dC dI ad cA adK adV s.heap.size σ hI p0) (cwV 1 hts gX12_refusedLong_X12_refused rfl rfl rfl (by decide +kernel) ⟨Nat.le_of_ble_eq_true rfl, Nat.le_of_ble_eq_true rfl⟩) ⟨gBlind, va_recv hK hP (ci := 11) (q0 := 0) rfl (mat_11 rfl), gStart (As := [.ref (ad 0), .int p0]) hP hD hK0 hT hS hF (s.drawn)⟩ rfl rfl hl.1 rfl (lv_room (Nat.le_of_ble_eq_true rfl)) dX12_refusedLong_2 ⟨Nat.le_of_ble_eq_true rfl, Nat.le_of_ble_eq_true rfl⟩) hS (fun q _ h => hF q h) hF (fun r_1 σ1 t H locs ht hvm hw hB hz1 hk1 hS d_2 hd0 => ?_)
  have hts := dr_words hts0 (d_2)
  have hK := gKd hK0 (d_2)
  have hown : (s.setDrawn (d_2)).vm.findClass RX12 = some m.cls := hown0
  obtain ⟨hP, hD⟩ := gBack hF ht hB
  obtain ⟨hIσ1, fcσ1, hp_3⟩ := hw
  refine lv_pop hx hb dX12_refusedLong_5 rfl ?_
  refine lv_lload_n hx hb dX12_refusedLong_6 rfl (lv_at hl 2 rfl) ?_
  refine W.endD hd0 ?_
  exact W.lret (v := p1) hx hb hr (fun t ht hW => ⟨⟨p1, σ1, rfl, ⟨hIσ1, (mFr.tr (mFr.rfl (L := []) (F := [1, 2]) (σ := σ)) fcσ1 (by decide) (by decide)), (by unfold f_X12_refusedLong; rfl)⟩, ⟨by rw [ht]; exact hP, hD⟩⟩, hS.F ht⟩) hS.2.2 dX12_refusedLong_7
set_option maxHeartbeats 8000000 in
set_option maxRecDepth 100000 in
theorem n_X12_partF (l : Launch) (dC : Nat → ClassId) (dI : Nat → Nat → Nat) (ad : Nat → Nat) (cA : Nat → ClassId) (adK adV : Nat → Nat) (sz : Nat) (σ : gs) (hI : InvM σ) (p0 : Int32) : MetD lw_cs l yX12_part wsX12_part ({ frames := 2, cells := 0, slots := 0, locals := 43 }) (va_Pc [.ref (ad 0), .int p0] (gPre adK adV (dC, dI) (wM ad cA σ) (tM cA) sz)) (va_Ql (fun (r : Int64) (τ : gs) => InvM τ ∧ mFr [] [1, 2] σ τ ∧ (r = f_X12_part ((σ 0).2.1 3) ((σ 0).2.1 4) p0)) (fun τ t => gPost (dC, dI) (va_A (wM ad cA σ) sz) (wM ad cA τ) t) (va_A (wM ad cA σ) sz)) 0 0 (va_A (wM ad cA σ) sz) := by
  refine MetD.ofW (cc := cX12_part) (maxL := 2) (ret := (some .long)) (by decide) rfl ?_
  intro p e s m args below meth c s₁ B hml hv hd0
  obtain ⟨rfl, hsz, hP, hK, hD0, hT⟩ := hv
  have hx := B.exec
  have hb := B.bytes
  have hr := B.returns
  have hts0 := atoms_spec (ws := wsX12_part) B.pre
  have hK0 := hK
  have hown0 : s.vm.findClass RX12 = some m.cls := findClass_of_methodNamed B.named
  have hlocks := B.notSynchronized
  have hinX12 : ∀ w ∈ u_ws RX12 TX12 69, w ∈ wsX12_part := (fun _ h9 => List.mem_cons_of_mem _ (List.mem_append_right _ h9))
  subst hsz
  have hD := hD0.self (sz := s.heap.size)
  generalize hAe : va_A (wM ad cA σ) s.heap.size = A at hD hT ⊢
  have hA : ∀ q : Nat, s.heap.size ≤ q → A q := fun q h => by rw [← hAe]; exact Or.inr h
  have hS : va_S A s.heap s.heap [] := va_S.rf
  have hl := lv_entry ([.ref (ad 0), .int p0]) (n := 2) (Nat.le_of_ble_eq_true rfl)
  rw [lg_entry_eq]
  generalize (lg_sl ([.ref (ad 0), .int p0]) ++ List.replicate (2 - (lg_sl ([.ref (ad 0), .int p0])).length) Slot.unset).toArray = ls at hl ⊢
  have hl : lv_has ls 2 [(0, .ref (ad 0)), (1, .int p0)] := hl
  have hts := dr_words hts0 (s.drawn)
  have hK := gKd hK0 (s.drawn)
  have hown : (s.setDrawn (s.drawn)).vm.findClass RX12 = some m.cls := hown0
  refine lv_aload_n hx hb dX12_part_0 rfl (lv_at hl 0 rfl) ?_
  refine lv_iload_n hx hb dX12_part_1 rfl (lv_at hl 1 rfl) ?_
  refine lv_if_eq (tgt := 12) hx hb dX12_part_2 (by decide) (fun c_1 => ?_) (fun c_1 => ?_)
  · refine lv_aload_n hx hb dX12_part_12 rfl (lv_at hl 0 rfl) ?_
    refine va_get (D := (dC, dI)) (ci := 11) (v := .long ((σ 0).2.1 3)) (C := RX12) (T := TX12) (N := 69) hx hb hts hinX12 hown hK hP 0 (mat_11 rfl) rfl 3 (by decide) (hts (.fieldLink RX12 161 "BondCalendarsModel" "up" "J") (by decide +kernel)) (fun _ h9 => h9) rfl dX12_part_13 ?_
    have hF := gFree hD hS hA
    refine va_calllD hd0 (va_runV_D (As := [.long ((σ 0).2.1 3)]) (rest := []) ⟨hx, hb, hml, hown, hts⟩ (n_X12_goodLongF l dC dI ad cA adK adV s.heap.size σ hI ((σ 0).2.1 3)) (cwV 1 hts gX12_part_X12_goodLong rfl rfl rfl (by decide +kernel) ⟨Nat.le_of_ble_eq_true rfl, Nat.le_of_ble_eq_true rfl⟩) ⟨gBlind, va_recv hK hP (ci := 11) (q0 := 0) rfl (mat_11 rfl), gStart (As := [.ref (ad 0), .long ((σ 0).2.1 3)]) hP hD hK0 hT hS hF (s.drawn)⟩ rfl rfl hl.1 rfl (lv_room (Nat.le_of_ble_eq_true rfl)) dX12_part_16 ⟨Nat.le_of_ble_eq_true rfl, Nat.le_of_ble_eq_true rfl⟩) hS (fun q _ h => hF q h) hF (fun r_2 σ1 t H locs ht hvm hw hB hz1 hk1 hS d_3 hd0 => ?_)
    have hts := dr_words hts0 (d_3)
    have hK := gKd hK0 (d_3)
    have hown : (s.setDrawn (d_3)).vm.findClass RX12 = some m.cls := hown0
    obtain ⟨hP, hD⟩ := gBack hF ht hB
    obtain ⟨hIσ1, fcσ1, hp_4⟩ := hw
    refine W.endD hd0 ?_
    exact W.lret (v := r_2) hx hb hr (fun t ht hW => ⟨⟨r_2, σ1, rfl, ⟨hIσ1, (mFr.tr (mFr.rfl (L := []) (F := [1, 2]) (σ := σ)) fcσ1 (by decide) (by decide)), (by rw [hp_4]; unfold f_X12_part; simp only [if_pos c_1]; try rfl)⟩, ⟨by rw [ht]; exact hP, hD⟩⟩, hS.F ht⟩) hS.2.2 dX12_part_19
  · refine lv_aload_n hx hb dX12_part_5 rfl (lv_at hl 0 rfl) ?_
    refine va_get (D := (dC, dI)) (ci := 11) (v := .long ((σ 0).2.1 4)) (C := RX12) (T := TX12) (N := 69) hx hb hts hinX12 hown hK hP 0 (mat_11 rfl) rfl 4 (by decide) (hts (.fieldLink RX12 165 "BondCalendarsModel" "lo" "J") (by decide +kernel)) (fun _ h9 => h9) rfl dX12_part_6 ?_
    refine lv_goto (tgt := 16) hx hb dX12_part_9 (by decide) ?_
    have hF := gFree hD hS hA
    refine va_calllD hd0 (va_runV_D (As := [.long ((σ 0).2.1 4)]) (rest := []) ⟨hx, hb, hml, hown, hts⟩ (n_X12_goodLongF l dC dI ad cA adK adV s.heap.size σ hI ((σ 0).2.1 4)) (cwV 1 hts gX12_part_X12_goodLong rfl rfl rfl (by decide +kernel) ⟨Nat.le_of_ble_eq_true rfl, Nat.le_of_ble_eq_true rfl⟩) ⟨gBlind, va_recv hK hP (ci := 11) (q0 := 0) rfl (mat_11 rfl), gStart (As := [.ref (ad 0), .long ((σ 0).2.1 4)]) hP hD hK0 hT hS hF (s.drawn)⟩ rfl rfl hl.1 rfl (lv_room (Nat.le_of_ble_eq_true rfl)) dX12_part_16 ⟨Nat.le_of_ble_eq_true rfl, Nat.le_of_ble_eq_true rfl⟩) hS (fun q _ h => hF q h) hF (fun r_5 σ2 t H locs ht hvm hw hB hz1 hk1 hS d_6 hd0 => ?_)
    have hts := dr_words hts0 (d_6)
    have hK := gKd hK0 (d_6)
    have hown : (s.setDrawn (d_6)).vm.findClass RX12 = some m.cls := hown0
    obtain ⟨hP, hD⟩ := gBack hF ht hB
    obtain ⟨hIσ2, fcσ2, hp_7⟩ := hw
    refine W.endD hd0 ?_
    exact W.lret (v := r_5) hx hb hr (fun t ht hW => ⟨⟨r_5, σ2, rfl, ⟨hIσ2, (mFr.tr (mFr.rfl (L := []) (F := [1, 2]) (σ := σ)) fcσ2 (by decide) (by decide)), (by rw [hp_7]; unfold f_X12_part; simp only [if_neg c_1]; try rfl)⟩, ⟨by rw [ht]; exact hP, hD⟩⟩, hS.F ht⟩) hS.2.2 dX12_part_19
set_option maxHeartbeats 8000000 in
set_option maxRecDepth 100000 in
theorem n_X12_countedF (l : Launch) (dC : Nat → ClassId) (dI : Nat → Nat → Nat) (ad : Nat → Nat) (cA : Nat → ClassId) (adK adV : Nat → Nat) (sz : Nat) (σ : gs) (hI : InvM σ) (p0 : Int32) (p1 : Int32) (p2 : Int32) (p3 : Int32) : MetD lw_cs l yX12_counted wsX12_counted ({ frames := 3, cells := 0, slots := 0, locals := 79 }) (va_Pc [.ref (ad 0), .int p0, .int p1, .int p2, .int p3] (gPre adK adV (dC, dI) (wM ad cA σ) (tM cA) sz)) (va_Ql (fun (r : Int64) (τ : gs) => InvM τ ∧ mFr [] [0, 1, 2] σ τ ∧ (r = f_X12_counted p0 p1 p2 p3)) (fun τ t => gPost (dC, dI) (va_A (wM ad cA σ) sz) (wM ad cA τ) t) (va_A (wM ad cA σ) sz)) 0 0 (va_A (wM ad cA σ) sz) := by
  refine MetD.ofW (cc := cX12_counted) (maxL := 5) (ret := (some .long)) (by decide) rfl ?_
  intro p e s m args below meth c s₁ B hml hv hd0
  obtain ⟨rfl, hsz, hP, hK, hD0, hT⟩ := hv
  have hx := B.exec
  have hb := B.bytes
  have hr := B.returns
  have hts0 := atoms_spec (ws := wsX12_counted) B.pre
  have hK0 := hK
  have hown0 : s.vm.findClass RX12 = some m.cls := findClass_of_methodNamed B.named
  have hlocks := B.notSynchronized
  have hinX12 : ∀ w ∈ u_ws RX12 TX12 69, w ∈ wsX12_counted := (fun _ h9 => List.mem_cons_of_mem _ (List.mem_append_right _ h9))
  subst hsz
  have hD := hD0.self (sz := s.heap.size)
  generalize hAe : va_A (wM ad cA σ) s.heap.size = A at hD hT ⊢
  have hA : ∀ q : Nat, s.heap.size ≤ q → A q := fun q h => by rw [← hAe]; exact Or.inr h
  have hS : va_S A s.heap s.heap [] := va_S.rf
  have hl := lv_entry ([.ref (ad 0), .int p0, .int p1, .int p2, .int p3]) (n := 5) (Nat.le_of_ble_eq_true rfl)
  rw [lg_entry_eq]
  generalize (lg_sl ([.ref (ad 0), .int p0, .int p1, .int p2, .int p3]) ++ List.replicate (5 - (lg_sl ([.ref (ad 0), .int p0, .int p1, .int p2, .int p3])).length) Slot.unset).toArray = ls at hl ⊢
  have hl : lv_has ls 5 [(0, .ref (ad 0)), (1, .int p0), (2, .int p1), (3, .int p2), (4, .int p3)] := hl
  have hts := dr_words hts0 (s.drawn)
  have hK := gKd hK0 (s.drawn)
  have hown : (s.setDrawn (s.drawn)).vm.findClass RX12 = some m.cls := hown0
  refine lv_aload_n hx hb dX12_counted_0 rfl (lv_at hl 0 rfl) ?_
  refine lv_iconst (v := 0) hx hb dX12_counted_1 (by decide) ?_
  refine va_put (D := (dC, dI)) (ci := 11) (v := .int 0) (C := RX12) (T := TX12) (N := 69) hx hb hts hinX12 tyX12 tyX12_ok nmX12 hown hK hP hD hS 0 (mat_11 rfl) rfl 0 (by decide) (hts (.fieldLink RX12 107 "BondCalendarsModel" "thrown" "I") (by decide +kernel)) (fun _ h9 => h9) rfl (ty := .int) (by decide +kernel) rfl rfl (Nat.le_of_ble_eq_true rfl) dX12_counted_2 (fun H locs hP hD hS => ?_)
  obtain ⟨σ1, eσ1, hP, hD⟩ := gPut (mse_11_0 rfl) hP hD
  have hIσ1 : InvM σ1 := by rw [eσ1]; exact minv_I hI (mok_11_0 rfl _)
  have frσ1 : mFr [] [0, 1, 2] σ σ1 := by rw [eσ1]; exact mFr.oI (mFr.rfl (L := []) (F := [0, 1, 2]) (σ := σ)) (by decide)
  refine lv_iload_n hx hb dX12_counted_5 rfl (lv_at hl 1 rfl) ?_
  refine lv_iconst (v := 0) hx hb dX12_counted_6 (by decide) ?_
  refine lv_iconst (v := 3) hx hb dX12_counted_7 (by decide) ?_
  have hF := gFree (w := []) (hx_D0 (A := A)) hS hA
  have hKe := hK.sub (tys' := []) [] rfl
  refine va_calli (va_runS (As := [.int p0, .int 0, .int 3]) (rest := []) ⟨hx, hb, hml, hown, hts⟩ (k_X12_in l dC dI H.size p0 0 3 ) (va_cwS 3 hts gX12_counted_X12_in rfl rfl rfl (by decide +kernel) ⟨Nat.le_of_ble_eq_true rfl, Nat.le_of_ble_eq_true rfl⟩) ⟨fun a U g mk q => by obtain ⟨q0, q1, qP, qK, qD⟩ := q; exact ⟨q0, q1, qP, va_K.moved (u := U) (U := U.calling g mk a) (Vm.Alike.refl U.vm) qK, qD⟩, fun U hU hW => ⟨rfl, by rw [hU], hx_P0, va_K.moved hW.alike hKe, hx_D0⟩⟩ rfl rfl hl.1 rfl (lv_room (Nat.le_of_ble_eq_true rfl)) dX12_counted_8 ⟨Nat.le_of_ble_eq_true rfl, Nat.le_of_ble_eq_true rfl⟩) hS (fun q _ h => hF q h) hF (fun r_1 u t H locs ht hvm hw hB hz1 hk1 hS => ?_)
  have hP := gKeep hP hk1
  have in_2 : r_1 = f_X12_in p0 0 3 := hw
  have bin_2 : r_1 = 0 ∨ r_1 = 1 := by rw [in_2]; exact in01 _ _ _
  refine lv_if_ne (tgt := 23) hx hb dX12_counted_11 (by decide) (fun c_3 => ?_) (fun c_3 => ?_)
  · refine lv_iload_n hx hb dX12_counted_23 rfl (lv_at hl 2 rfl) ?_
    have hF := gFree (w := []) (hx_D0 (A := A)) hS hA
    have hKe := hK.sub (tys' := []) [] rfl
    refine va_calli (va_runS (As := [.int p1]) (rest := []) ⟨hx, hb, hml, hown, hts⟩ (k_X12_isDate l dC dI H.size p1 ) (va_cwS 1 hts gX12_counted_X12_isDate rfl rfl rfl (by decide +kernel) ⟨Nat.le_of_ble_eq_true rfl, Nat.le_of_ble_eq_true rfl⟩) ⟨fun a U g mk q => by obtain ⟨q0, q1, qP, qK, qD⟩ := q; exact ⟨q0, q1, qP, va_K.moved (u := U) (U := U.calling g mk a) (Vm.Alike.refl U.vm) qK, qD⟩, fun U hU hW => ⟨rfl, by rw [hU], hx_P0, va_K.moved hW.alike hKe, hx_D0⟩⟩ rfl rfl hl.1 rfl (lv_room (Nat.le_of_ble_eq_true rfl)) dX12_counted_24 ⟨Nat.le_of_ble_eq_true rfl, Nat.le_of_ble_eq_true rfl⟩) hS (fun q _ h => hF q h) hF (fun r_4 u t H locs ht hvm hw hB hz1 hk1 hS => ?_)
    have hP := gKeep hP hk1
    have pu_5 : r_4 = f_X12_isDate p1 := hw
    have b0_6 : r_4 = 0 ∨ r_4 = 1 := by rw [pu_5]; exact isDate01 _
    refine lv_if_eq (tgt := 42) hx hb dX12_counted_27 (by decide) (fun c_7 => ?_) (fun c_7 => ?_)
    · refine lv_aload_n hx hb dX12_counted_42 rfl (lv_at hl 0 rfl) ?_
      refine lv_iconst (v := 2) hx hb dX12_counted_43 (by decide) ?_
      refine lv_ldc2 (v := (-1)) hx hb hown (hts (.constantLong RX12 428 (-1)) (by decide +kernel)) dX12_counted_44 ?_
      have hF := gFree hD hS hA
      refine va_calllD hd0 (va_runV_D (As := [.int 2, .long (-1)]) (rest := []) ⟨hx, hb, hml, hown, hts⟩ (n_X12_refusedLongF l dC dI ad cA adK adV H.size σ1 hIσ1 2 (-1)) (cwV 2 hts gX12_counted_X12_refusedLong rfl rfl rfl (by decide +kernel) ⟨Nat.le_of_ble_eq_true rfl, Nat.le_of_ble_eq_true rfl⟩) ⟨gBlind, va_recv hK hP (ci := 11) (q0 := 0) rfl (mat_11 rfl), gStart (As := [.ref (ad 0), .int 2, .long (-1)]) hP hD hK0 hT hS hF (s.drawn)⟩ rfl rfl hl.1 rfl (lv_room (Nat.le_of_ble_eq_true rfl)) dX12_counted_47 ⟨Nat.le_of_ble_eq_true rfl, Nat.le_of_ble_eq_true rfl⟩) hS (fun q _ h => hF q h) hF (fun r_8 σ2 t H locs ht hvm hw hB hz1 hk1 hS d_9 hd0 => ?_)
      have hts := dr_words hts0 (d_9)
      have hK := gKd hK0 (d_9)
      have hown : (s.setDrawn (d_9)).vm.findClass RX12 = some m.cls := hown0
      obtain ⟨hP, hD⟩ := gBack hF ht hB
      obtain ⟨hIσ2, fcσ2, hp_10⟩ := hw
      refine W.endD hd0 ?_
      exact W.lret (v := r_8) hx hb hr (fun t ht hW => ⟨⟨r_8, σ2, rfl, ⟨hIσ2, (mFr.tr frσ1 fcσ2 (by decide) (by decide)), (by rw [hp_10]; unfold f_X12_counted; simp only [← pu_5, ← in_2, if_neg c_3, if_pos c_7]; try rfl)⟩, ⟨by rw [ht]; exact hP, hD⟩⟩, hS.F ht⟩) hS.2.2 dX12_counted_50
    · refine lv_iload_n hx hb dX12_counted_30 rfl (lv_at hl 3 rfl) ?_
      have hF := gFree (w := []) (hx_D0 (A := A)) hS hA
      have hKe := hK.sub (tys' := []) [] rfl
      refine va_calli (va_runS (As := [.int p2]) (rest := []) ⟨hx, hb, hml, hown, hts⟩ (k_X12_isDate l dC dI H.size p2 ) (va_cwS 1 hts gX12_counted_X12_isDate rfl rfl rfl (by decide +kernel) ⟨Nat.le_of_ble_eq_true rfl, Nat.le_of_ble_eq_true rfl⟩) ⟨fun a U g mk q => by obtain ⟨q0, q1, qP, qK, qD⟩ := q; exact ⟨q0, q1, qP, va_K.moved (u := U) (U := U.calling g mk a) (Vm.Alike.refl U.vm) qK, qD⟩, fun U hU hW => ⟨rfl, by rw [hU], hx_P0, va_K.moved hW.alike hKe, hx_D0⟩⟩ rfl rfl hl.1 rfl (lv_room (Nat.le_of_ble_eq_true rfl)) dX12_counted_31 ⟨Nat.le_of_ble_eq_true rfl, Nat.le_of_ble_eq_true rfl⟩) hS (fun q _ h => hF q h) hF (fun r_11 u t H locs ht hvm hw hB hz1 hk1 hS => ?_)
      have hP := gKeep hP hk1
      have pu_12 : r_11 = f_X12_isDate p2 := hw
      have b0_13 : r_11 = 0 ∨ r_11 = 1 := by rw [pu_12]; exact isDate01 _
      refine lv_if_eq (tgt := 42) hx hb dX12_counted_34 (by decide) (fun c_14 => ?_) (fun c_14 => ?_)
      · refine lv_aload_n hx hb dX12_counted_42 rfl (lv_at hl 0 rfl) ?_
        refine lv_iconst (v := 2) hx hb dX12_counted_43 (by decide) ?_
        refine lv_ldc2 (v := (-1)) hx hb hown (hts (.constantLong RX12 428 (-1)) (by decide +kernel)) dX12_counted_44 ?_
        have hF := gFree hD hS hA
        refine va_calllD hd0 (va_runV_D (As := [.int 2, .long (-1)]) (rest := []) ⟨hx, hb, hml, hown, hts⟩ (n_X12_refusedLongF l dC dI ad cA adK adV H.size σ1 hIσ1 2 (-1)) (cwV 2 hts gX12_counted_X12_refusedLong rfl rfl rfl (by decide +kernel) ⟨Nat.le_of_ble_eq_true rfl, Nat.le_of_ble_eq_true rfl⟩) ⟨gBlind, va_recv hK hP (ci := 11) (q0 := 0) rfl (mat_11 rfl), gStart (As := [.ref (ad 0), .int 2, .long (-1)]) hP hD hK0 hT hS hF (s.drawn)⟩ rfl rfl hl.1 rfl (lv_room (Nat.le_of_ble_eq_true rfl)) dX12_counted_47 ⟨Nat.le_of_ble_eq_true rfl, Nat.le_of_ble_eq_true rfl⟩) hS (fun q _ h => hF q h) hF (fun r_15 σ3 t H locs ht hvm hw hB hz1 hk1 hS d_16 hd0 => ?_)
        have hts := dr_words hts0 (d_16)
        have hK := gKd hK0 (d_16)
        have hown : (s.setDrawn (d_16)).vm.findClass RX12 = some m.cls := hown0
        obtain ⟨hP, hD⟩ := gBack hF ht hB
        obtain ⟨hIσ3, fcσ3, hp_17⟩ := hw
        refine W.endD hd0 ?_
        exact W.lret (v := r_15) hx hb hr (fun t ht hW => ⟨⟨r_15, σ3, rfl, ⟨hIσ3, (mFr.tr frσ1 fcσ3 (by decide) (by decide)), (by rw [hp_17]; unfold f_X12_counted; simp only [← pu_5, ← pu_12, ← in_2, if_neg c_3, if_neg c_7, if_pos c_14]; try rfl)⟩, ⟨by rw [ht]; exact hP, hD⟩⟩, hS.F ht⟩) hS.2.2 dX12_counted_50
      · refine lv_iload_n hx hb dX12_counted_37 rfl (lv_at hl 3 rfl) ?_
        refine lv_iload_n hx hb dX12_counted_38 rfl (lv_at hl 2 rfl) ?_
        refine lv_icmp_ge (tgt := 51) hx hb dX12_counted_39 (by decide) (fun c_18 => ?_) (fun c_18 => ?_)
        · refine lv_aload_n hx hb dX12_counted_51 rfl (lv_at hl 0 rfl) ?_
          refine lv_iload_n hx hb dX12_counted_52 rfl (lv_at hl 1 rfl) ?_
          refine lv_iload_n hx hb dX12_counted_53 rfl (lv_at hl 2 rfl) ?_
          refine lv_iload_n hx hb dX12_counted_54 rfl (lv_at hl 3 rfl) ?_
          have hF := gFree hD hS hA
          refine va_callvD hd0 (va_runV_D (As := [.int p0, .int p1, .int p2]) (rest := []) ⟨hx, hb, hml, hown, hts⟩ (n_X12_countsPlainF l dC dI ad cA adK adV H.size σ1 hIσ1 p0 p1 p2) (cwV 3 hts gX12_counted_X12_countsPlain rfl rfl rfl (by decide +kernel) ⟨Nat.le_of_ble_eq_true rfl, Nat.le_of_ble_eq_true rfl⟩) ⟨gBlind, va_recv hK hP (ci := 11) (q0 := 0) rfl (mat_11 rfl), gStart (As := [.ref (ad 0), .int p0, .int p1, .int p2]) hP hD hK0 hT hS hF (s.drawn)⟩ rfl rfl hl.1 rfl (lv_room (Nat.le_of_ble_eq_true rfl)) dX12_counted_55 ⟨Nat.le_of_ble_eq_true rfl, Nat.le_of_ble_eq_true rfl⟩) hS (fun q _ h => hF q h) hF (fun σ4 t H locs ht hvm hw hB hz1 hk1 hS d_20 hd0 => ?_)
          have hts := dr_words hts0 (d_20)
          have hK := gKd hK0 (d_20)
          have hown : (s.setDrawn (d_20)).vm.findClass RX12 = some m.cls := hown0
          obtain ⟨hP, hD⟩ := gBack hF ht hB
          obtain ⟨hIσ4, fcσ4, hp_21⟩ := hw
          refine lv_aload_n hx hb dX12_counted_58 rfl (lv_at hl 0 rfl) ?_
          refine lv_iload hx hb dX12_counted_59 (lv_at hl 4 rfl) ?_
          have hF := gFree hD hS hA
          refine va_calllD hd0 (va_runV_D (As := [.int p3]) (rest := []) ⟨hx, hb, hml, hown, hts⟩ (n_X12_partF l dC dI ad cA adK adV H.size σ4 hIσ4 p3) (cwV 1 hts gX12_counted_X12_part rfl rfl rfl (by decide +kernel) ⟨Nat.le_of_ble_eq_true rfl, Nat.le_of_ble_eq_true rfl⟩) ⟨gBlind, va_recv hK hP (ci := 11) (q0 := 0) rfl (mat_11 rfl), gStart (As := [.ref (ad 0), .int p3]) hP hD hK0 hT hS hF (d_20)⟩ rfl rfl hl.1 rfl (lv_room (Nat.le_of_ble_eq_true rfl)) dX12_counted_61 ⟨Nat.le_of_ble_eq_true rfl, Nat.le_of_ble_eq_true rfl⟩) hS (fun q _ h => hF q h) hF (fun r_22 σ5 t H locs ht hvm hw hB hz1 hk1 hS d_23 hd0 => ?_)
          have hts := dr_words hts0 (d_23)
          have hK := gKd hK0 (d_23)
          have hown : (s.setDrawn (d_23)).vm.findClass RX12 = some m.cls := hown0
          obtain ⟨hP, hD⟩ := gBack hF ht hB
          obtain ⟨hIσ5, fcσ5, hp_24⟩ := hw
          refine W.endD hd0 ?_
          exact W.lret (v := r_22) hx hb hr (fun t ht hW => ⟨⟨r_22, σ5, rfl, ⟨hIσ5, (mFr.tr (mFr.tr frσ1 fcσ4 (by decide) (by decide)) fcσ5 (by decide) (by decide)), (by rw [hp_24, hp_21.1, hp_21.2]; unfold f_X12_counted; simp only [← pu_5, ← pu_12, ← in_2, if_neg c_3, if_neg c_7, if_neg c_14, if_pos c_18]; try rfl)⟩, ⟨by rw [ht]; exact hP, hD⟩⟩, hS.F ht⟩) hS.2.2 dX12_counted_64
        · refine lv_aload_n hx hb dX12_counted_42 rfl (lv_at hl 0 rfl) ?_
          refine lv_iconst (v := 2) hx hb dX12_counted_43 (by decide) ?_
          refine lv_ldc2 (v := (-1)) hx hb hown (hts (.constantLong RX12 428 (-1)) (by decide +kernel)) dX12_counted_44 ?_
          have hF := gFree hD hS hA
          refine va_calllD hd0 (va_runV_D (As := [.int 2, .long (-1)]) (rest := []) ⟨hx, hb, hml, hown, hts⟩ (n_X12_refusedLongF l dC dI ad cA adK adV H.size σ1 hIσ1 2 (-1)) (cwV 2 hts gX12_counted_X12_refusedLong rfl rfl rfl (by decide +kernel) ⟨Nat.le_of_ble_eq_true rfl, Nat.le_of_ble_eq_true rfl⟩) ⟨gBlind, va_recv hK hP (ci := 11) (q0 := 0) rfl (mat_11 rfl), gStart (As := [.ref (ad 0), .int 2, .long (-1)]) hP hD hK0 hT hS hF (s.drawn)⟩ rfl rfl hl.1 rfl (lv_room (Nat.le_of_ble_eq_true rfl)) dX12_counted_47 ⟨Nat.le_of_ble_eq_true rfl, Nat.le_of_ble_eq_true rfl⟩) hS (fun q _ h => hF q h) hF (fun r_25 σ6 t H locs ht hvm hw hB hz1 hk1 hS d_26 hd0 => ?_)
          have hts := dr_words hts0 (d_26)
          have hK := gKd hK0 (d_26)
          have hown : (s.setDrawn (d_26)).vm.findClass RX12 = some m.cls := hown0
          obtain ⟨hP, hD⟩ := gBack hF ht hB
          obtain ⟨hIσ6, fcσ6, hp_27⟩ := hw
          refine W.endD hd0 ?_
          exact W.lret (v := r_25) hx hb hr (fun t ht hW => ⟨⟨r_25, σ6, rfl, ⟨hIσ6, (mFr.tr frσ1 fcσ6 (by decide) (by decide)), (by rw [hp_27]; unfold f_X12_counted; simp only [← pu_5, ← pu_12, ← in_2, if_neg c_3, if_neg c_7, if_neg c_14, if_neg c_18]; try rfl)⟩, ⟨by rw [ht]; exact hP, hD⟩⟩, hS.F ht⟩) hS.2.2 dX12_counted_50
  · refine lv_aload_n hx hb dX12_counted_14 rfl (lv_at hl 0 rfl) ?_
    refine lv_iconst (v := 1) hx hb dX12_counted_15 (by decide) ?_
    refine lv_ldc2 (v := (-1)) hx hb hown (hts (.constantLong RX12 428 (-1)) (by decide +kernel)) dX12_counted_16 ?_
    have hF := gFree hD hS hA
    refine va_calllD hd0 (va_runV_D (As := [.int 1, .long (-1)]) (rest := []) ⟨hx, hb, hml, hown, hts⟩ (n_X12_refusedLongF l dC dI ad cA adK adV H.size σ1 hIσ1 1 (-1)) (cwV 2 hts gX12_counted_X12_refusedLong rfl rfl rfl (by decide +kernel) ⟨Nat.le_of_ble_eq_true rfl, Nat.le_of_ble_eq_true rfl⟩) ⟨gBlind, va_recv hK hP (ci := 11) (q0 := 0) rfl (mat_11 rfl), gStart (As := [.ref (ad 0), .int 1, .long (-1)]) hP hD hK0 hT hS hF (s.drawn)⟩ rfl rfl hl.1 rfl (lv_room (Nat.le_of_ble_eq_true rfl)) dX12_counted_19 ⟨Nat.le_of_ble_eq_true rfl, Nat.le_of_ble_eq_true rfl⟩) hS (fun q _ h => hF q h) hF (fun r_28 σ7 t H locs ht hvm hw hB hz1 hk1 hS d_29 hd0 => ?_)
    have hts := dr_words hts0 (d_29)
    have hK := gKd hK0 (d_29)
    have hown : (s.setDrawn (d_29)).vm.findClass RX12 = some m.cls := hown0
    obtain ⟨hP, hD⟩ := gBack hF ht hB
    obtain ⟨hIσ7, fcσ7, hp_30⟩ := hw
    refine W.endD hd0 ?_
    exact W.lret (v := r_28) hx hb hr (fun t ht hW => ⟨⟨r_28, σ7, rfl, ⟨hIσ7, (mFr.tr frσ1 fcσ7 (by decide) (by decide)), (by rw [hp_30]; unfold f_X12_counted; simp only [← in_2, if_pos c_3]; try rfl)⟩, ⟨by rw [ht]; exact hP, hD⟩⟩, hS.F ht⟩) hS.2.2 dX12_counted_22
