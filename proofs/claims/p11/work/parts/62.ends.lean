set_option maxHeartbeats 8000000 in
set_option maxRecDepth 100000 in
theorem n_X12_gridDay (l : Launch) (dC : Nat → ClassId) (dI : Nat → Nat → Nat) (ad : Nat → Nat) (cA : Nat → ClassId) (adK adV : Nat → Nat) (sz : Nat) (σ : gs) (hI : InvM σ) (p0 : Int32) (p1 : Int32) (hh0 : 0 ≤ p0) (hh1 : p0 < 4) (hh2 : -91 ≤ p1) (hh3 : p1 ≤ 4) : MetD lw_cs l yX12_gridDay wsX12_gridDay ({ frames := 0, cells := 0, slots := 0, locals := 0 }) (va_Pc [.ref (ad 0), .int p0, .int p1] (gPre adK adV (dC, dI) (wM ad cA σ) (tM cA) sz)) (va_Qi (fun (r : Int32) (τ : gs) => InvM τ ∧ σ = τ ∧ (∀ j : Nat, (j : Int) = p1.toInt + 91 → r = (σ 9).1 (96 * p0.toNatClampNeg + j))) (fun τ t => gPost (dC, dI) (va_A (wM ad cA σ) sz) (wM ad cA τ) t) (va_A (wM ad cA σ) sz)) 0 0 (va_A (wM ad cA σ) sz) := by
  refine MetD.ofW (cc := cX12_gridDay) (maxL := 3) (ret := (some .int)) (by decide) rfl ?_
  intro p e s m args below meth c s₁ B hml hv hd0
  obtain ⟨rfl, hsz, hP, hK, hD0, hT⟩ := hv
  have hx := B.exec
  have hb := B.bytes
  have hr := B.returns
  have hts0 := atoms_spec (ws := wsX12_gridDay) B.pre
  have hK0 := hK
  have hown0 : s.vm.findClass RX12 = some m.cls := findClass_of_methodNamed B.named
  have hlocks := B.notSynchronized
  have hinX12 : ∀ w ∈ u_ws RX12 TX12 69, w ∈ wsX12_gridDay := (fun _ h9 => List.mem_cons_of_mem _ (List.mem_append_right _ h9))
  subst hsz
  have hD := hD0.self (sz := s.heap.size)
  generalize hAe : va_A (wM ad cA σ) s.heap.size = A at hD hT ⊢
  have hA : ∀ q : Nat, s.heap.size ≤ q → A q := fun q h => by rw [← hAe]; exact Or.inr h
  have hS : va_S A s.heap s.heap [] := va_S.rf
  have hl := lv_entry ([.ref (ad 0), .int p0, .int p1]) (n := 3) (Nat.le_of_ble_eq_true rfl)
  rw [lg_entry_eq]
  generalize (lg_sl ([.ref (ad 0), .int p0, .int p1]) ++ List.replicate (3 - (lg_sl ([.ref (ad 0), .int p0, .int p1])).length) Slot.unset).toArray = ls at hl ⊢
  have hl : lv_has ls 3 [(0, .ref (ad 0)), (1, .int p0), (2, .int p1)] := hl
  have hts := dr_words hts0 (s.drawn)
  have hK := gKd hK0 (s.drawn)
  have hown : (s.setDrawn (s.drawn)).vm.findClass RX12 = some m.cls := hown0
  refine lv_aload_n hx hb dX12_gridDay_0 rfl (lv_at hl 0 rfl) ?_
  refine va_get (D := (dC, dI)) (ci := 11) (v := .ref (ad 9)) (C := RX12) (T := TX12) (N := 69) hx hb hts hinX12 hown hK hP 0 (mat_11 rfl) rfl 13 (by decide) (hts (.fieldLink RX12 38 "BondCalendarsModel" "grids" "[I") (by decide +kernel)) (fun _ h9 => h9) rfl dX12_gridDay_1 ?_
  refine lv_bipush (v := 96) hx hb dX12_gridDay_4 (by decide) ?_
  refine lv_iload_n hx hb dX12_gridDay_6 rfl (lv_at hl 1 rfl) ?_
  refine lv_imul hx hb dX12_gridDay_7 ?_
  refine lv_topi (fun x_1 ex_1 => ?_)
  refine lv_bipush (v := 91) hx hb dX12_gridDay_8 (by decide) ?_
  refine lv_iadd hx hb dX12_gridDay_10 ?_
  refine lv_topi (fun x_2 ex_2 => ?_)
  refine lv_iload_n hx hb dX12_gridDay_11 rfl (lv_at hl 2 rfl) ?_
  refine lv_iadd hx hb dX12_gridDay_12 ?_
  refine lv_topi (fun x_3 ex_3 => ?_)
  have hi_4 : vp_in x_3 768 := by have ab1 : (0 : Int) ≤ p0.toInt := Int32.le_iff_toInt_le.mp hh0; have ab2 : p0.toInt ≤ (3 : Int) := Int32.le_iff_toInt_le.mp (gl2 (b := 3) hh1 (by decide)); have tt3 : x_1.toInt = (96 * p0.toInt) := (by rw [ex_1]; exact i3_mul (a := (96 : Int32)) (b := p0) (x := 96) (y := p0.toInt) rfl rfl (by omega) (by omega)); have tt4 : x_2.toInt = ((96 * p0.toInt) + 91) := (by rw [ex_2]; exact i3_add (a := x_1) (b := (91 : Int32)) (x := (96 * p0.toInt)) (y := 91) tt3 rfl (by omega) (by omega)); have ab5 : ((-91) : Int) ≤ p1.toInt := Int32.le_iff_toInt_le.mp hh2; have ab6 : p1.toInt ≤ (4 : Int) := Int32.le_iff_toInt_le.mp hh3; have tt7 : x_3.toInt = (((96 * p0.toInt) + 91) + p1.toInt) := (by rw [ex_3]; exact i3_add (a := x_2) (b := p1) (x := ((96 * p0.toInt) + 91)) (y := p1.toInt) tt4 rfl (by omega) (by omega)); have z0 : (0 : Int32).toInt = 0 := (by decide); have zn : (768 : Int32).toInt = 768 := (by decide); exact gin (N := 768) (by decide) (Int32.le_iff_toInt_le.mpr (by omega)) (Int32.lt_iff_toInt_lt.mpr (by omega))
  refine va_iald hx hb hK hP 9 9 (mat_49 rfl) (mty_49 rfl) hi_4 dX12_gridDay_13 ?_
  refine lv_topi (fun x_5 ex_5 => ?_)
  refine W.endD hd0 ?_
  exact W.iret (v := x_5) hx hb hr (fun t ht hW => ⟨⟨x_5, σ, rfl, ⟨hI, rfl, (fun j hj => by have ab1 : (0 : Int) ≤ p0.toInt := Int32.le_iff_toInt_le.mp hh0; have ab2 : p0.toInt ≤ (3 : Int) := Int32.le_iff_toInt_le.mp (gl2 (b := 3) hh1 (by decide)); have tt3 : x_1.toInt = (96 * p0.toInt) := (by rw [ex_1]; exact i3_mul (a := (96 : Int32)) (b := p0) (x := 96) (y := p0.toInt) rfl rfl (by omega) (by omega)); have tt4 : x_2.toInt = ((96 * p0.toInt) + 91) := (by rw [ex_2]; exact i3_add (a := x_1) (b := (91 : Int32)) (x := (96 * p0.toInt)) (y := 91) tt3 rfl (by omega) (by omega)); have ab5 : ((-91) : Int) ≤ p1.toInt := Int32.le_iff_toInt_le.mp hh2; have ab6 : p1.toInt ≤ (4 : Int) := Int32.le_iff_toInt_le.mp hh3; have tt7 : x_3.toInt = (((96 * p0.toInt) + 91) + p1.toInt) := (by rw [ex_3]; exact i3_add (a := x_2) (b := p1) (x := ((96 * p0.toInt) + 91)) (y := p1.toInt) tt4 rfl (by omega) (by omega)); have pe := nc_e hh0; rw [ex_5, nat_at (x := x_3) (n := 96 * p0.toNatClampNeg + j) (by omega)])⟩, ⟨by rw [ht]; exact hP, hD⟩⟩, hS.F ht⟩) hS.2.2 dX12_gridDay_14
set_option maxHeartbeats 8000000 in
set_option maxRecDepth 100000 in
theorem n_X12_endOf (l : Launch) (dC : Nat → ClassId) (dI : Nat → Nat → Nat) (ad : Nat → Nat) (cA : Nat → ClassId) (adK adV : Nat → Nat) (sz : Nat) (σ : gs) (hI : InvM σ) (p0 : Int32) (p1 : Int32) (hh0 : 0 ≤ p0) (hh1 : p0 < 4) (hh2 : 0 ≤ p1) (hh3 : p1 < 82) : MetD lw_cs l yX12_endOf wsX12_endOf ({ frames := 0, cells := 0, slots := 0, locals := 0 }) (va_Pc [.ref (ad 0), .int p0, .int p1] (gPre adK adV (dC, dI) (wM ad cA σ) (tM cA) sz)) (va_Qi (fun (r : Int32) (τ : gs) => InvM τ ∧ σ = τ ∧ (0 ≤ r ∧ r ≤ 30000000 ∧ (∀ j : Nat, (j : Int) = 82 * p0.toInt + p1.toInt → r = (σ 18).1 j))) (fun τ t => gPost (dC, dI) (va_A (wM ad cA σ) sz) (wM ad cA τ) t) (va_A (wM ad cA σ) sz)) 0 0 (va_A (wM ad cA σ) sz) := by
  refine MetD.ofW (cc := cX12_endOf) (maxL := 3) (ret := (some .int)) (by decide) rfl ?_
  intro p e s m args below meth c s₁ B hml hv hd0
  obtain ⟨rfl, hsz, hP, hK, hD0, hT⟩ := hv
  have hx := B.exec
  have hb := B.bytes
  have hr := B.returns
  have hts0 := atoms_spec (ws := wsX12_endOf) B.pre
  have hK0 := hK
  have hown0 : s.vm.findClass RX12 = some m.cls := findClass_of_methodNamed B.named
  have hlocks := B.notSynchronized
  have hinX12 : ∀ w ∈ u_ws RX12 TX12 69, w ∈ wsX12_endOf := (fun _ h9 => List.mem_cons_of_mem _ (List.mem_append_right _ h9))
  subst hsz
  have hD := hD0.self (sz := s.heap.size)
  generalize hAe : va_A (wM ad cA σ) s.heap.size = A at hD hT ⊢
  have hA : ∀ q : Nat, s.heap.size ≤ q → A q := fun q h => by rw [← hAe]; exact Or.inr h
  have hS : va_S A s.heap s.heap [] := va_S.rf
  have hl := lv_entry ([.ref (ad 0), .int p0, .int p1]) (n := 3) (Nat.le_of_ble_eq_true rfl)
  rw [lg_entry_eq]
  generalize (lg_sl ([.ref (ad 0), .int p0, .int p1]) ++ List.replicate (3 - (lg_sl ([.ref (ad 0), .int p0, .int p1])).length) Slot.unset).toArray = ls at hl ⊢
  have hl : lv_has ls 3 [(0, .ref (ad 0)), (1, .int p0), (2, .int p1)] := hl
  have hts := dr_words hts0 (s.drawn)
  have hK := gKd hK0 (s.drawn)
  have hown : (s.setDrawn (s.drawn)).vm.findClass RX12 = some m.cls := hown0
  refine lv_aload_n hx hb dX12_endOf_0 rfl (lv_at hl 0 rfl) ?_
  refine va_get (D := (dC, dI)) (ci := 11) (v := .ref (ad 18)) (C := RX12) (T := TX12) (N := 69) hx hb hts hinX12 hown hK hP 0 (mat_11 rfl) rfl 40 (by decide) (hts (.fieldLink RX12 67 "BondCalendarsModel" "ends" "[I") (by decide +kernel)) (fun _ h9 => h9) rfl dX12_endOf_1 ?_
  refine lv_bipush (v := 82) hx hb dX12_endOf_4 (by decide) ?_
  refine lv_iload_n hx hb dX12_endOf_6 rfl (lv_at hl 1 rfl) ?_
  refine lv_imul hx hb dX12_endOf_7 ?_
  refine lv_topi (fun x_1 ex_1 => ?_)
  refine lv_iload_n hx hb dX12_endOf_8 rfl (lv_at hl 2 rfl) ?_
  refine lv_iadd hx hb dX12_endOf_9 ?_
  refine lv_topi (fun x_2 ex_2 => ?_)
  have hi_3 : vp_in x_2 328 := by have ab1 : (0 : Int) ≤ p0.toInt := Int32.le_iff_toInt_le.mp hh0; have ab2 : p0.toInt ≤ (3 : Int) := Int32.le_iff_toInt_le.mp (gl2 (b := 3) hh1 (by decide)); have tt3 : x_1.toInt = (82 * p0.toInt) := (by rw [ex_1]; exact i3_mul (a := (82 : Int32)) (b := p0) (x := 82) (y := p0.toInt) rfl rfl (by omega) (by omega)); have ab4 : (0 : Int) ≤ p1.toInt := Int32.le_iff_toInt_le.mp hh2; have ab5 : p1.toInt ≤ (81 : Int) := Int32.le_iff_toInt_le.mp (gl2 (b := 81) hh3 (by decide)); have tt6 : x_2.toInt = ((82 * p0.toInt) + p1.toInt) := (by rw [ex_2]; exact i3_add (a := x_1) (b := p1) (x := (82 * p0.toInt)) (y := p1.toInt) tt3 rfl (by omega) (by omega)); have z0 : (0 : Int32).toInt = 0 := (by decide); have zn : (328 : Int32).toInt = 328 := (by decide); exact gin (N := 328) (by decide) (Int32.le_iff_toInt_le.mpr (by omega)) (Int32.lt_iff_toInt_lt.mpr (by omega))
  refine va_iald hx hb hK hP 18 18 (mat_58 rfl) (mty_58 rfl) hi_3 dX12_endOf_10 ?_
  refine lv_topi (fun x_4 ex_4 => ?_)
  have bd_5 := mrd_58 (c := 18) hI rfl x_2.toNatClampNeg
  refine W.endD hd0 ?_
  exact W.iret (v := x_4) hx hb hr (fun t ht hW => ⟨⟨x_4, σ, rfl, ⟨hI, rfl, ⟨(Int32.le_trans bd_5.1 (eq_le ex_4.symm)), (Int32.le_trans (eq_le ex_4) bd_5.2), (fun j hj => by have ab1 : (0 : Int) ≤ p0.toInt := Int32.le_iff_toInt_le.mp hh0; have ab2 : p0.toInt ≤ (3 : Int) := Int32.le_iff_toInt_le.mp (gl2 (b := 3) hh1 (by decide)); have tt3 : x_1.toInt = (82 * p0.toInt) := (by rw [ex_1]; exact i3_mul (a := (82 : Int32)) (b := p0) (x := 82) (y := p0.toInt) rfl rfl (by omega) (by omega)); have ab4 : (0 : Int) ≤ p1.toInt := Int32.le_iff_toInt_le.mp hh2; have ab5 : p1.toInt ≤ (81 : Int) := Int32.le_iff_toInt_le.mp (gl2 (b := 81) hh3 (by decide)); have tt6 : x_2.toInt = ((82 * p0.toInt) + p1.toInt) := (by rw [ex_2]; exact i3_add (a := x_1) (b := p1) (x := (82 * p0.toInt)) (y := p1.toInt) tt3 rfl (by omega) (by omega)); rw [ex_4, nat_at (x := x_2) (n := j) (by omega)])⟩⟩, ⟨by rw [ht]; exact hP, hD⟩⟩, hS.F ht⟩) hS.2.2 dX12_endOf_11
set_option maxHeartbeats 8000000 in
set_option maxRecDepth 100000 in
theorem n_X12_startOf (l : Launch) (dC : Nat → ClassId) (dI : Nat → Nat → Nat) (ad : Nat → Nat) (cA : Nat → ClassId) (adK adV : Nat → Nat) (sz : Nat) (σ : gs) (hI : InvM σ) (p0 : Int32) (p1 : Int32) (hh0 : 0 ≤ p0) (hh1 : p0 < 4) (hh2 : 0 ≤ p1) (hh3 : p1 < 82) : MetD lw_cs l yX12_startOf wsX12_startOf ({ frames := 0, cells := 0, slots := 0, locals := 0 }) (va_Pc [.ref (ad 0), .int p0, .int p1] (gPre adK adV (dC, dI) (wM ad cA σ) (tM cA) sz)) (va_Qi (fun (r : Int32) (τ : gs) => InvM τ ∧ σ = τ ∧ (True)) (fun τ t => gPost (dC, dI) (va_A (wM ad cA σ) sz) (wM ad cA τ) t) (va_A (wM ad cA σ) sz)) 0 0 (va_A (wM ad cA σ) sz) := by
  refine MetD.ofW (cc := cX12_startOf) (maxL := 3) (ret := (some .int)) (by decide) rfl ?_
  intro p e s m args below meth c s₁ B hml hv hd0
  obtain ⟨rfl, hsz, hP, hK, hD0, hT⟩ := hv
  have hx := B.exec
  have hb := B.bytes
  have hr := B.returns
  have hts0 := atoms_spec (ws := wsX12_startOf) B.pre
  have hK0 := hK
  have hown0 : s.vm.findClass RX12 = some m.cls := findClass_of_methodNamed B.named
  have hlocks := B.notSynchronized
  have hinX12 : ∀ w ∈ u_ws RX12 TX12 69, w ∈ wsX12_startOf := (fun _ h9 => List.mem_cons_of_mem _ (List.mem_append_right _ h9))
  subst hsz
  have hD := hD0.self (sz := s.heap.size)
  generalize hAe : va_A (wM ad cA σ) s.heap.size = A at hD hT ⊢
  have hA : ∀ q : Nat, s.heap.size ≤ q → A q := fun q h => by rw [← hAe]; exact Or.inr h
  have hS : va_S A s.heap s.heap [] := va_S.rf
  have hl := lv_entry ([.ref (ad 0), .int p0, .int p1]) (n := 3) (Nat.le_of_ble_eq_true rfl)
  rw [lg_entry_eq]
  generalize (lg_sl ([.ref (ad 0), .int p0, .int p1]) ++ List.replicate (3 - (lg_sl ([.ref (ad 0), .int p0, .int p1])).length) Slot.unset).toArray = ls at hl ⊢
  have hl : lv_has ls 3 [(0, .ref (ad 0)), (1, .int p0), (2, .int p1)] := hl
  have hts := dr_words hts0 (s.drawn)
  have hK := gKd hK0 (s.drawn)
  have hown : (s.setDrawn (s.drawn)).vm.findClass RX12 = some m.cls := hown0
  refine lv_iload_n hx hb dX12_startOf_0 rfl (lv_at hl 2 rfl) ?_
  refine lv_if_ne (tgt := 13) hx hb dX12_startOf_1 (by decide) (fun c_1 => ?_) (fun c_1 => ?_)
  · refine lv_aload_n hx hb dX12_startOf_13 rfl (lv_at hl 0 rfl) ?_
    refine va_get (D := (dC, dI)) (ci := 11) (v := .ref (ad 18)) (C := RX12) (T := TX12) (N := 69) hx hb hts hinX12 hown hK hP 0 (mat_11 rfl) rfl 40 (by decide) (hts (.fieldLink RX12 67 "BondCalendarsModel" "ends" "[I") (by decide +kernel)) (fun _ h9 => h9) rfl dX12_startOf_14 ?_
    refine lv_bipush (v := 82) hx hb dX12_startOf_17 (by decide) ?_
    refine lv_iload_n hx hb dX12_startOf_19 rfl (lv_at hl 1 rfl) ?_
    refine lv_imul hx hb dX12_startOf_20 ?_
    refine lv_topi (fun x_2 ex_2 => ?_)
    refine lv_iload_n hx hb dX12_startOf_21 rfl (lv_at hl 2 rfl) ?_
    refine lv_iadd hx hb dX12_startOf_22 ?_
    refine lv_topi (fun x_3 ex_3 => ?_)
    refine lv_iconst (v := 1) hx hb dX12_startOf_23 (by decide) ?_
    refine lv_isub hx hb dX12_startOf_24 ?_
    refine lv_topi (fun x_4 ex_4 => ?_)
    have hi_5 : vp_in x_4 328 := by have ab1 : (0 : Int) ≤ p0.toInt := Int32.le_iff_toInt_le.mp hh0; have ab2 : p0.toInt ≤ (3 : Int) := Int32.le_iff_toInt_le.mp (gl2 (b := 3) hh1 (by decide)); have tt3 : x_2.toInt = (82 * p0.toInt) := (by rw [ex_2]; exact i3_mul (a := (82 : Int32)) (b := p0) (x := 82) (y := p0.toInt) rfl rfl (by omega) (by omega)); have ab4 : (1 : Int) ≤ p1.toInt := Int32.le_iff_toInt_le.mp (gl1 (b := 1) (ne_lt hh2 c_1) (by decide)); have ab5 : p1.toInt ≤ (81 : Int) := Int32.le_iff_toInt_le.mp (gl2 (b := 81) hh3 (by decide)); have tt6 : x_3.toInt = ((82 * p0.toInt) + p1.toInt) := (by rw [ex_3]; exact i3_add (a := x_2) (b := p1) (x := (82 * p0.toInt)) (y := p1.toInt) tt3 rfl (by omega) (by omega)); have tt7 : x_4.toInt = (((82 * p0.toInt) + p1.toInt) - 1) := (by rw [ex_4]; exact i3_sub (a := x_3) (b := (1 : Int32)) (x := ((82 * p0.toInt) + p1.toInt)) (y := 1) tt6 rfl (by omega) (by omega)); have z0 : (0 : Int32).toInt = 0 := (by decide); have zn : (328 : Int32).toInt = 328 := (by decide); exact gin (N := 328) (by decide) (Int32.le_iff_toInt_le.mpr (by omega)) (Int32.lt_iff_toInt_lt.mpr (by omega))
    refine va_iald hx hb hK hP 18 18 (mat_58 rfl) (mty_58 rfl) hi_5 dX12_startOf_25 ?_
    refine lv_topi (fun x_6 ex_6 => ?_)
    have bd_7 := mrd_58 (c := 18) hI rfl x_4.toNatClampNeg
    refine W.endD hd0 ?_
    exact W.iret (v := x_6) hx hb hr (fun t ht hW => ⟨⟨x_6, σ, rfl, ⟨hI, rfl, trivial⟩, ⟨by rw [ht]; exact hP, hD⟩⟩, hS.F ht⟩) hS.2.2 dX12_startOf_26
  · refine lv_aload_n hx hb dX12_startOf_4 rfl (lv_at hl 0 rfl) ?_
    refine va_get (D := (dC, dI)) (ci := 11) (v := .ref (ad 6)) (C := RX12) (T := TX12) (N := 69) hx hb hts hinX12 hown hK hP 0 (mat_11 rfl) rfl 10 (by decide) (hts (.fieldLink RX12 29 "BondCalendarsModel" "issue" "[I") (by decide +kernel)) (fun _ h9 => h9) rfl dX12_startOf_5 ?_
    refine lv_iload_n hx hb dX12_startOf_8 rfl (lv_at hl 1 rfl) ?_
    refine va_iald hx hb hK hP 6 6 (mat_46 rfl) (mty_46 rfl) (gin (N := 8) (by decide) hh0 (Int32.lt_trans hh1 (show (4 : Int32) < 8 by decide))) dX12_startOf_9 ?_
    refine lv_topi (fun x_8 ex_8 => ?_)
    refine lv_goto (tgt := 26) hx hb dX12_startOf_10 (by decide) ?_
    refine W.endD hd0 ?_
    exact W.iret (v := x_8) hx hb hr (fun t ht hW => ⟨⟨x_8, σ, rfl, ⟨hI, rfl, trivial⟩, ⟨by rw [ht]; exact hP, hD⟩⟩, hS.F ht⟩) hS.2.2 dX12_startOf_26
