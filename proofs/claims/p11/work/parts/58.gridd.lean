set_option maxHeartbeats 8000000 in
set_option maxRecDepth 100000 in
theorem n_X12_gridDate (l : Launch) (dC : Nat → ClassId) (dI : Nat → Nat → Nat) (ad : Nat → Nat) (cA : Nat → ClassId) (adK adV : Nat → Nat) (sz : Nat) (σ : gs) (hI : InvM σ) (p0 : Int32) (p1 : Int32) (hh0 : 0 ≤ p0) (hh1 : p0 < 8) (hh2 : 1 ≤ (σ 2).1 p0.toNatClampNeg) : MetD lw_cs l yX12_gridDate wsX12_gridDate ({ frames := 2, cells := 0, slots := 0, locals := 46 }) (va_Pc [.ref (ad 0), .int p0, .int p1] (gPre adK adV (dC, dI) (wM ad cA σ) (tM cA) sz)) (va_Qi (fun (r : Int32) (τ : gs) => InvM τ ∧ σ = τ ∧ (r = gdt ((σ 5).1 p0.toNatClampNeg) ((σ 2).1 p0.toNatClampNeg) ((σ 10).1 p0.toNatClampNeg) p1)) (fun τ t => gPost (dC, dI) (va_A (wM ad cA σ) sz) (wM ad cA τ) t) (va_A (wM ad cA σ) sz)) 0 0 (va_A (wM ad cA σ) sz) := by
  refine MetD.ofW (cc := cX12_gridDate) (maxL := 3) (ret := (some .int)) (by decide) rfl ?_
  intro p e s m args below meth c s₁ B hml hv hd0
  obtain ⟨rfl, hsz, hP, hK, hD0, hT⟩ := hv
  have hx := B.exec
  have hb := B.bytes
  have hr := B.returns
  have hts0 := atoms_spec (ws := wsX12_gridDate) B.pre
  have hK0 := hK
  have hown0 : s.vm.findClass RX12 = some m.cls := findClass_of_methodNamed B.named
  have hlocks := B.notSynchronized
  have hinX12 : ∀ w ∈ u_ws RX12 TX12 69, w ∈ wsX12_gridDate := (fun _ h9 => List.mem_cons_of_mem _ (List.mem_append_right _ h9))
  subst hsz
  have hD := hD0.self (sz := s.heap.size)
  generalize hAe : va_A (wM ad cA σ) s.heap.size = A at hD hT ⊢
  have hA : ∀ q : Nat, s.heap.size ≤ q → A q := fun q h => by rw [← hAe]; exact Or.inr h
  have hS : va_S A s.heap s.heap [] := va_S.rf
  have hl := lv_entry ([.ref (ad 0), .int p0, .int p1]) (n := 3) (Nat.le_of_ble_eq_true rfl)
  rw [lg_entry_eq]
  generalize (lg_sl ([.ref (ad 0), .int p0, .int p1]) ++ List.replicate (3 - (lg_sl ([.ref (ad 0), .int p0, .int p1])).length) Slot.unset).toArray = ls at hl ⊢
  have hl : lv_has ls 3 [(0, .ref (ad 0)), (1, .int p0), (2, .int p1)] := hl
  have hts := dr_words hts0 (s.drawn)
  have hK := gKd hK0 (s.drawn)
  have hown : (s.setDrawn (s.drawn)).vm.findClass RX12 = some m.cls := hown0
  refine lv_aload_n hx hb dX12_gridDate_0 rfl (lv_at hl 0 rfl) ?_
  refine va_get (D := (dC, dI)) (ci := 11) (v := .ref (ad 5)) (C := RX12) (T := TX12) (N := 69) hx hb hts hinX12 hown hK hP 0 (mat_11 rfl) rfl 9 (by decide) (hts (.fieldLink RX12 26 "BondCalendarsModel" "anchor" "[I") (by decide +kernel)) (fun _ h9 => h9) rfl dX12_gridDate_1 ?_
  refine lv_iload_n hx hb dX12_gridDate_4 rfl (lv_at hl 1 rfl) ?_
  refine va_iald hx hb hK hP 5 5 (mat_45 rfl) (mty_45 rfl) (gin (N := 8) (by decide) hh0 hh1) dX12_gridDate_5 ?_
  refine lv_topi (fun x_1 ex_1 => ?_)
  refine lv_bipush (v := 12) hx hb dX12_gridDate_6 (by decide) ?_
  refine lv_aload_n hx hb dX12_gridDate_8 rfl (lv_at hl 0 rfl) ?_
  refine va_get (D := (dC, dI)) (ci := 11) (v := .ref (ad 2)) (C := RX12) (T := TX12) (N := 69) hx hb hts hinX12 hown hK hP 0 (mat_11 rfl) rfl 6 (by decide) (hts (.fieldLink RX12 17 "BondCalendarsModel" "often" "[I") (by decide +kernel)) (fun _ h9 => h9) rfl dX12_gridDate_9 ?_
  refine lv_iload_n hx hb dX12_gridDate_12 rfl (lv_at hl 1 rfl) ?_
  refine va_iald hx hb hK hP 2 2 (mat_42 rfl) (mty_42 rfl) (gin (N := 8) (by decide) hh0 hh1) dX12_gridDate_13 ?_
  refine lv_topi (fun x_2 ex_2 => ?_)
  refine lv_idiv hx hb dX12_gridDate_14 (ne_i (Int32.le_trans hh2 (eq_le ex_2.symm))) ?_
  refine lv_topi (fun x_3 ex_3 => ?_)
  refine lv_iload_n hx hb dX12_gridDate_15 rfl (lv_at hl 2 rfl) ?_
  refine lv_imul hx hb dX12_gridDate_16 ?_
  refine lv_topi (fun x_4 ex_4 => ?_)
  refine lv_aload_n hx hb dX12_gridDate_17 rfl (lv_at hl 0 rfl) ?_
  refine va_get (D := (dC, dI)) (ci := 11) (v := .ref (ad 10)) (C := RX12) (T := TX12) (N := 69) hx hb hts hinX12 hown hK hP 0 (mat_11 rfl) rfl 14 (by decide) (hts (.fieldLink RX12 41 "BondCalendarsModel" "eom" "[Z") (by decide +kernel)) (fun _ h9 => h9) rfl dX12_gridDate_18 ?_
  refine lv_iload_n hx hb dX12_gridDate_21 rfl (lv_at hl 1 rfl) ?_
  refine va_zald hx hb hK hP 10 10 (mat_50 rfl) (mty_50 rfl) (gin (N := 8) (by decide) hh0 hh1) dX12_gridDate_22 ?_
  refine lv_topi (fun x_5 ex_5 => ?_)
  refine lv_if_eq (tgt := 42) hx hb dX12_gridDate_23 (by decide) (fun c_6 => ?_) (fun c_6 => ?_)
  · refine lv_iconst (v := 0) hx hb dX12_gridDate_42 (by decide) ?_
    have hF := gFree (w := []) (hx_D0 (A := A)) hS hA
    have hKe := hK.sub (tys' := []) [] rfl
    refine va_calli (va_runS (As := [.int x_1, .int x_4, .int 0]) (rest := []) ⟨hx, hb, hml, hown, hts⟩ (k_X12_monthsFrom l dC dI s.heap.size x_1 x_4 0 ) (va_cwS 3 hts gX12_gridDate_X12_monthsFrom rfl rfl rfl (by decide +kernel) ⟨Nat.le_of_ble_eq_true rfl, Nat.le_of_ble_eq_true rfl⟩) ⟨fun a U g mk q => by obtain ⟨q0, q1, qP, qK, qD⟩ := q; exact ⟨q0, q1, qP, va_K.moved (u := U) (U := U.calling g mk a) (Vm.Alike.refl U.vm) qK, qD⟩, fun U hU hW => ⟨rfl, by rw [hU], hx_P0, va_K.moved hW.alike hKe, hx_D0⟩⟩ rfl rfl hl.1 rfl (lv_room (Nat.le_of_ble_eq_true rfl)) dX12_gridDate_43 ⟨Nat.le_of_ble_eq_true rfl, Nat.le_of_ble_eq_true rfl⟩) hS (fun q _ h => hF q h) hF (fun r_7 u t H locs ht hvm hw hB hz1 hk1 hS => ?_)
    have hP := gKeep hP hk1
    have pu_8 : r_7 = f_X12_monthsFrom x_1 x_4 0 := hw
    refine W.endD hd0 ?_
    exact W.iret (v := r_7) hx hb hr (fun t ht hW => ⟨⟨r_7, σ, rfl, ⟨hI, rfl, (by rw [gdt_1 (by rw [← ex_5]; exact c_6), ← ex_1, ← ex_2, ← ex_3, ← ex_4]; exact pu_8)⟩, ⟨by rw [ht]; exact hP, hD⟩⟩, hS.F ht⟩) hS.2.2 dX12_gridDate_46
  · refine lv_aload_n hx hb dX12_gridDate_26 rfl (lv_at hl 0 rfl) ?_
    refine va_get (D := (dC, dI)) (ci := 11) (v := .ref (ad 5)) (C := RX12) (T := TX12) (N := 69) hx hb hts hinX12 hown hK hP 0 (mat_11 rfl) rfl 9 (by decide) (hts (.fieldLink RX12 26 "BondCalendarsModel" "anchor" "[I") (by decide +kernel)) (fun _ h9 => h9) rfl dX12_gridDate_27 ?_
    refine lv_iload_n hx hb dX12_gridDate_30 rfl (lv_at hl 1 rfl) ?_
    refine va_iald hx hb hK hP 5 5 (mat_45 rfl) (mty_45 rfl) (gin (N := 8) (by decide) hh0 hh1) dX12_gridDate_31 ?_
    refine lv_topi (fun x_9 ex_9 => ?_)
    have hF := gFree (w := []) (hx_D0 (A := A)) hS hA
    have hKe := hK.sub (tys' := []) [] rfl
    refine va_calli (va_runS (As := [.int x_9]) (rest := [.int x_4, .int x_1]) ⟨hx, hb, hml, hown, hts⟩ (k_X12_isMonthEnd l dC dI s.heap.size x_9 ) (va_cwS 1 hts gX12_gridDate_X12_isMonthEnd rfl rfl rfl (by decide +kernel) ⟨Nat.le_of_ble_eq_true rfl, Nat.le_of_ble_eq_true rfl⟩) ⟨fun a U g mk q => by obtain ⟨q0, q1, qP, qK, qD⟩ := q; exact ⟨q0, q1, qP, va_K.moved (u := U) (U := U.calling g mk a) (Vm.Alike.refl U.vm) qK, qD⟩, fun U hU hW => ⟨rfl, by rw [hU], hx_P0, va_K.moved hW.alike hKe, hx_D0⟩⟩ rfl rfl hl.1 rfl (lv_room (Nat.le_of_ble_eq_true rfl)) dX12_gridDate_32 ⟨Nat.le_of_ble_eq_true rfl, Nat.le_of_ble_eq_true rfl⟩) hS (fun q _ h => hF q h) hF (fun r_10 u t H locs ht hvm hw hB hz1 hk1 hS => ?_)
    have hP := gKeep hP hk1
    have pu_11 : r_10 = f_X12_isMonthEnd x_9 := hw
    have b0_12 : r_10 = 0 ∨ r_10 = 1 := by rw [pu_11]; exact isMonthEnd01 _
    refine lv_if_eq (tgt := 42) hx hb dX12_gridDate_35 (by decide) (fun c_13 => ?_) (fun c_13 => ?_)
    · refine lv_iconst (v := 0) hx hb dX12_gridDate_42 (by decide) ?_
      have hF := gFree (w := []) (hx_D0 (A := A)) hS hA
      have hKe := hK.sub (tys' := []) [] rfl
      refine va_calli (va_runS (As := [.int x_1, .int x_4, .int 0]) (rest := []) ⟨hx, hb, hml, hown, hts⟩ (k_X12_monthsFrom l dC dI H.size x_1 x_4 0 ) (va_cwS 3 hts gX12_gridDate_X12_monthsFrom rfl rfl rfl (by decide +kernel) ⟨Nat.le_of_ble_eq_true rfl, Nat.le_of_ble_eq_true rfl⟩) ⟨fun a U g mk q => by obtain ⟨q0, q1, qP, qK, qD⟩ := q; exact ⟨q0, q1, qP, va_K.moved (u := U) (U := U.calling g mk a) (Vm.Alike.refl U.vm) qK, qD⟩, fun U hU hW => ⟨rfl, by rw [hU], hx_P0, va_K.moved hW.alike hKe, hx_D0⟩⟩ rfl rfl hl.1 rfl (lv_room (Nat.le_of_ble_eq_true rfl)) dX12_gridDate_43 ⟨Nat.le_of_ble_eq_true rfl, Nat.le_of_ble_eq_true rfl⟩) hS (fun q _ h => hF q h) hF (fun r_14 u t H locs ht hvm hw hB hz1 hk1 hS => ?_)
      have hP := gKeep hP hk1
      have pu_15 : r_14 = f_X12_monthsFrom x_1 x_4 0 := hw
      refine W.endD hd0 ?_
      exact W.iret (v := r_14) hx hb hr (fun t ht hW => ⟨⟨r_14, σ, rfl, ⟨hI, rfl, (by rw [gdt_2 (by rw [← ex_5]; exact c_6) (by rw [← ex_9, ← pu_11]; exact c_13), ← ex_1, ← ex_2, ← ex_3, ← ex_4]; exact pu_15)⟩, ⟨by rw [ht]; exact hP, hD⟩⟩, hS.F ht⟩) hS.2.2 dX12_gridDate_46
    · refine lv_iconst (v := 1) hx hb dX12_gridDate_38 (by decide) ?_
      refine lv_goto (tgt := 43) hx hb dX12_gridDate_39 (by decide) ?_
      have hF := gFree (w := []) (hx_D0 (A := A)) hS hA
      have hKe := hK.sub (tys' := []) [] rfl
      refine va_calli (va_runS (As := [.int x_1, .int x_4, .int 1]) (rest := []) ⟨hx, hb, hml, hown, hts⟩ (k_X12_monthsFrom l dC dI H.size x_1 x_4 1 ) (va_cwS 3 hts gX12_gridDate_X12_monthsFrom rfl rfl rfl (by decide +kernel) ⟨Nat.le_of_ble_eq_true rfl, Nat.le_of_ble_eq_true rfl⟩) ⟨fun a U g mk q => by obtain ⟨q0, q1, qP, qK, qD⟩ := q; exact ⟨q0, q1, qP, va_K.moved (u := U) (U := U.calling g mk a) (Vm.Alike.refl U.vm) qK, qD⟩, fun U hU hW => ⟨rfl, by rw [hU], hx_P0, va_K.moved hW.alike hKe, hx_D0⟩⟩ rfl rfl hl.1 rfl (lv_room (Nat.le_of_ble_eq_true rfl)) dX12_gridDate_43 ⟨Nat.le_of_ble_eq_true rfl, Nat.le_of_ble_eq_true rfl⟩) hS (fun q _ h => hF q h) hF (fun r_16 u t H locs ht hvm hw hB hz1 hk1 hS => ?_)
      have hP := gKeep hP hk1
      have pu_17 : r_16 = f_X12_monthsFrom x_1 x_4 1 := hw
      refine W.endD hd0 ?_
      exact W.iret (v := r_16) hx hb hr (fun t ht hW => ⟨⟨r_16, σ, rfl, ⟨hI, rfl, (by rw [gdt_3 (by rw [← ex_5]; exact c_6) (by rw [← ex_9, ← pu_11]; exact c_13), ← ex_1, ← ex_2, ← ex_3, ← ex_4]; exact pu_17)⟩, ⟨by rw [ht]; exact hP, hD⟩⟩, hS.F ht⟩) hS.2.2 dX12_gridDate_46
