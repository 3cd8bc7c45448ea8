set_option maxHeartbeats 8000000 in
set_option maxRecDepth 100000 in
theorem n_X12_laysEnd (l : Launch) (dC : Nat → ClassId) (dI : Nat → Nat → Nat) (ad : Nat → Nat) (cA : Nat → ClassId) (adK adV : Nat → Nat) (sz : Nat) (σ : gs) (hI : InvM σ) (p0 : Int32) (p1 : Int32) (hh0 : 0 ≤ p0) (hh1 : p0 < 4) (hh2 : (σ 17).1 p0.toNatClampNeg < 82) (hh3 : 0 ≤ p1) (hh4 : p1 ≤ 30000000) : MetD lw_cs l yX12_laysEnd wsX12_laysEnd ({ frames := 0, cells := 0, slots := 0, locals := 0 }) (va_Pc [.ref (ad 0), .int p0, .int p1] (gPre adK adV (dC, dI) (wM ad cA σ) (tM cA) sz)) (va_Qv (fun (τ : gs) => InvM τ ∧ mFr [57, 58] [] σ τ ∧ (LE1 σ τ p0 p1)) (fun τ t => gPost (dC, dI) (va_A (wM ad cA σ) sz) (wM ad cA τ) t) (va_A (wM ad cA σ) sz)) 0 0 (va_A (wM ad cA σ) sz) := by
  refine MetD.ofW (cc := cX12_laysEnd) (maxL := 3) (ret := none) (by decide) rfl ?_
  intro p e s m args below meth c s₁ B hml hv hd0
  obtain ⟨rfl, hsz, hP, hK, hD0, hT⟩ := hv
  have hx := B.exec
  have hb := B.bytes
  have hr := B.returns
  have hts0 := atoms_spec (ws := wsX12_laysEnd) B.pre
  have hK0 := hK
  have hown0 : s.vm.findClass RX12 = some m.cls := findClass_of_methodNamed B.named
  have hlocks := B.notSynchronized
  have hinX12 : ∀ w ∈ u_ws RX12 TX12 69, w ∈ wsX12_laysEnd := (fun _ h9 => List.mem_cons_of_mem _ (List.mem_append_right _ h9))
  subst hsz
  have hD := hD0.self (sz := s.heap.size)
  generalize hAe : va_A (wM ad cA σ) s.heap.size = A at hD hT ⊢
  have hA : ∀ q : Nat, s.heap.size ≤ q → A q := fun q h => by rw [← hAe]; exact Or.inr h
  have hS : va_S A s.heap s.heap [] := va_S.rf
  have hl := lv_entry ([.ref (ad 0), .int p0, .int p1]) (n := 3) (Nat.le_of_ble_eq_true rfl)
  rw [lg_entry_eq]
  generalize (lg_sl ([.ref (ad 0), .int p0, .int p1]) ++ List.replicate (3 - (lg_sl ([.ref (ad 0), .int p0, .int p1])).length) Slot.unset).toArray = ls at hl ⊢
  have hl : lv_has ls 3 [(0, .ref (ad 0)), (1, .int p0), (2, .int p1)] := hl
  have hts := dr_words hts0 (s.drawn)
  have hK := gKd hK0 (s.drawn)
  have hown : (s.setDrawn (s.drawn)).vm.findClass RX12 = some m.cls := hown0
  refine lv_aload_n hx hb dX12_laysEnd_0 rfl (lv_at hl 0 rfl) ?_
  refine va_get (D := (dC, dI)) (ci := 11) (v := .ref (ad 18)) (C := RX12) (T := TX12) (N := 69) hx hb hts hinX12 hown hK hP 0 (mat_11 rfl) rfl 40 (by decide) (hts (.fieldLink RX12 67 "BondCalendarsModel" "ends" "[I") (by decide +kernel)) (fun _ h9 => h9) rfl dX12_laysEnd_1 ?_
  refine lv_bipush (v := 82) hx hb dX12_laysEnd_4 (by decide) ?_
  refine lv_iload_n hx hb dX12_laysEnd_6 rfl (lv_at hl 1 rfl) ?_
  refine lv_imul hx hb dX12_laysEnd_7 ?_
  refine lv_topi (fun x_1 ex_1 => ?_)
  refine lv_aload_n hx hb dX12_laysEnd_8 rfl (lv_at hl 0 rfl) ?_
  refine va_get (D := (dC, dI)) (ci := 11) (v := .ref (ad 17)) (C := RX12) (T := TX12) (N := 69) hx hb hts hinX12 hown hK hP 0 (mat_11 rfl) rfl 39 (by decide) (hts (.fieldLink RX12 64 "BondCalendarsModel" "periodMany" "[I") (by decide +kernel)) (fun _ h9 => h9) rfl dX12_laysEnd_9 ?_
  refine lv_iload_n hx hb dX12_laysEnd_12 rfl (lv_at hl 1 rfl) ?_
  refine va_iald hx hb hK hP 17 17 (mat_57 rfl) (mty_57 rfl) (gin (N := 4) (by decide) hh0 hh1) dX12_laysEnd_13 ?_
  refine lv_topi (fun x_2 ex_2 => ?_)
  have bd_3 := mrd_57 (c := 17) hI rfl p0.toNatClampNeg
  refine lv_iadd hx hb dX12_laysEnd_14 ?_
  refine lv_topi (fun x_4 ex_4 => ?_)
  refine lv_iload_n hx hb dX12_laysEnd_15 rfl (lv_at hl 2 rfl) ?_
  have hi_5 : vp_in x_4 328 := by have ab1 : (0 : Int) ≤ p0.toInt := Int32.le_iff_toInt_le.mp hh0; have ab2 : p0.toInt ≤ (3 : Int) := Int32.le_iff_toInt_le.mp (gl2 (b := 3) hh1 (by decide)); have tt3 : x_1.toInt = (82 * p0.toInt) := (by rw [ex_1]; exact i3_mul (a := (82 : Int32)) (b := p0) (x := 82) (y := p0.toInt) rfl rfl (by omega) (by omega)); have ab4 : (0 : Int) ≤ x_2.toInt := Int32.le_iff_toInt_le.mp (Int32.le_trans bd_3.1 (eq_le ex_2.symm)); have ab5 : x_2.toInt ≤ (81 : Int) := Int32.le_iff_toInt_le.mp (Int32.le_trans (eq_le ex_2) (gl2 (b := 81) hh2 (by decide))); have tt6 : x_4.toInt = ((82 * p0.toInt) + x_2.toInt) := (by rw [ex_4]; exact i3_add (a := x_1) (b := x_2) (x := (82 * p0.toInt)) (y := x_2.toInt) tt3 rfl (by omega) (by omega)); have z0 : (0 : Int32).toInt = 0 := (by decide); have zn : (328 : Int32).toInt = 328 := (by decide); exact gin (N := 328) (by decide) (Int32.le_iff_toInt_le.mpr (by omega)) (Int32.lt_iff_toInt_lt.mpr (by omega))
  refine va_iast hx hb hK hP hD hS 18 18 (mat_58 rfl) (mty_58 rfl) hi_5 dX12_laysEnd_16 (fun H locs hP hD hS => ?_)
  obtain ⟨σ1, eσ1, hP, hD⟩ := gPut (mse_58 rfl) hP hD
  have hIσ1 : InvM σ1 := by rw [eσ1]; exact minv_I hI (mok_58 rfl _ _ ⟨hh3, hh4⟩)
  have frσ1 : mFr [57, 58] [] σ σ1 := by rw [eσ1]; exact mFr.aI (mFr.rfl (L := [57, 58]) (F := []) (σ := σ)) (by decide) (by decide)
  refine lv_aload_n hx hb dX12_laysEnd_17 rfl (lv_at hl 0 rfl) ?_
  refine va_get (D := (dC, dI)) (ci := 11) (v := .ref (ad 17)) (C := RX12) (T := TX12) (N := 69) hx hb hts hinX12 hown hK hP 0 (mat_11 rfl) rfl 39 (by decide) (hts (.fieldLink RX12 64 "BondCalendarsModel" "periodMany" "[I") (by decide +kernel)) (fun _ h9 => h9) rfl dX12_laysEnd_18 ?_
  refine lv_iload_n hx hb dX12_laysEnd_21 rfl (lv_at hl 1 rfl) ?_
  refine lv_dup2_11 hx hb dX12_laysEnd_22 rfl rfl ?_
  refine va_iald hx hb hK hP 17 17 (mat_57 rfl) (mty_57 rfl) (gin (N := 4) (by decide) hh0 hh1) dX12_laysEnd_23 ?_
  refine lv_topi (fun x_6 ex_6 => ?_)
  have ex_6 : x_6 = ((σ 17).1 p0.toNatClampNeg) := by rw [ex_6, eσ1, gI_ne _ _ _ (by decide)]
  have bd_7 := mrd_57 (c := 17) hI rfl p0.toNatClampNeg
  refine lv_iconst (v := 1) hx hb dX12_laysEnd_24 (by decide) ?_
  refine lv_iadd hx hb dX12_laysEnd_25 ?_
  refine lv_topi (fun x_8 ex_8 => ?_)
  refine va_iast hx hb hK hP hD hS 17 17 (mat_57 rfl) (mty_57 rfl) (gin (N := 4) (by decide) hh0 hh1) dX12_laysEnd_26 (fun H locs hP hD hS => ?_)
  obtain ⟨σ2, eσ2, hP, hD⟩ := gPut (mse_57 rfl) hP hD
  have hIσ2 : InvM σ2 := by rw [eσ2]; exact minv_I hIσ1 (mok_57 rfl _ _ ⟨(cnt_0 (Int32.le_trans bd_3.1 (eq_le ex_6.symm)) (Int32.lt_of_le_of_lt (eq_le ex_6) hh2) ex_8), (cnt_N (Int32.le_trans bd_3.1 (eq_le ex_6.symm)) (Int32.lt_of_le_of_lt (eq_le ex_6) hh2) ex_8)⟩)
  have frσ2 : mFr [57, 58] [] σ σ2 := by rw [eσ2]; exact mFr.aI frσ1 (by decide) (by decide)
  refine W.endD hd0 ?_
  exact W.vret hx hb hr (fun t ht hW => ⟨⟨σ2, rfl, ⟨hIσ2, frσ2, (le1_of (n := x_2) (i := x_4) (n' := x_8) hh0 (Int32.le_trans bd_3.1 (eq_le ex_2.symm)) (Int32.lt_of_le_of_lt (eq_le ex_2) hh2) ex_2 (by have ab1 : (0 : Int) ≤ p0.toInt := Int32.le_iff_toInt_le.mp hh0; have ab2 : p0.toInt ≤ (3 : Int) := Int32.le_iff_toInt_le.mp (gl2 (b := 3) hh1 (by decide)); have tt3 : x_1.toInt = (82 * p0.toInt) := (by rw [ex_1]; exact i3_mul (a := (82 : Int32)) (b := p0) (x := 82) (y := p0.toInt) rfl rfl (by omega) (by omega)); have ab4 : (0 : Int) ≤ x_2.toInt := Int32.le_iff_toInt_le.mp (Int32.le_trans bd_3.1 (eq_le ex_2.symm)); have ab5 : x_2.toInt ≤ (81 : Int) := Int32.le_iff_toInt_le.mp (Int32.le_trans (eq_le ex_2) (gl2 (b := 81) hh2 (by decide))); have tt6 : x_4.toInt = ((82 * p0.toInt) + x_2.toInt) := (by rw [ex_4]; exact i3_add (a := x_1) (b := x_2) (x := (82 * p0.toInt)) (y := x_2.toInt) tt3 rfl (by omega) (by omega)); omega) (by rw [ex_8, show x_6 = x_2 from ex_6.trans ex_2.symm]) (by rw [eσ2, gI_at, eσ1, gI_ne _ _ _ (by decide)]) (by rw [eσ2, gI_ne _ _ _ (by decide), eσ1, gI_at]))⟩, ⟨by rw [ht]; exact hP, hD⟩⟩, hS.F ht⟩) hS.2.2 dX12_laysEnd_27
set_option maxHeartbeats 8000000 in
set_option maxRecDepth 100000 in
theorem n_X12_laysGrid (l : Launch) (dC : Nat → ClassId) (dI : Nat → Nat → Nat) (ad : Nat → Nat) (cA : Nat → ClassId) (adK adV : Nat → Nat) (sz : Nat) (σ : gs) (hI : InvM σ) (p0 : Int32) (hh0 : 0 ≤ p0) (hh1 : p0 < 4) (hh2 : oft ((σ 2).1 p0.toNatClampNeg)) (hh3 : 1 ≤ f_X12_isDate ((σ 5).1 p0.toNatClampNeg)) : MetD lw_cs l yX12_laysGrid wsX12_laysGrid ({ frames := 3, cells := 0, slots := 0, locals := 68 }) (va_Pc [.ref (ad 0), .int p0] (gPre adK adV (dC, dI) (wM ad cA σ) (tM cA) sz)) (va_Qv (fun (τ : gs) => InvM τ ∧ mFr [49] [] σ τ ∧ (GridOK τ p0.toNatClampNeg ∧ ∀ j : Nat, (j < 96 * p0.toNatClampNeg ∨ 96 * p0.toNatClampNeg + 96 ≤ j) → (τ 9).1 j = (σ 9).1 j)) (fun τ t => gPost (dC, dI) (va_A (wM ad cA σ) sz) (wM ad cA τ) t) (va_A (wM ad cA σ) sz)) 0 0 (va_A (wM ad cA σ) sz) := by
  refine MetD.ofW (cc := cX12_laysGrid) (maxL := 3) (ret := none) (by decide) rfl ?_
  intro p e s m args below meth c s₁ B hml hv hd0
  obtain ⟨rfl, hsz, hP, hK, hD0, hT⟩ := hv
  have hx := B.exec
  have hb := B.bytes
  have hr := B.returns
  have hts0 := atoms_spec (ws := wsX12_laysGrid) B.pre
  have hK0 := hK
  have hown0 : s.vm.findClass RX12 = some m.cls := findClass_of_methodNamed B.named
  have hlocks := B.notSynchronized
  have hinX12 : ∀ w ∈ u_ws RX12 TX12 69, w ∈ wsX12_laysGrid := (fun _ h9 => List.mem_cons_of_mem _ (List.mem_append_right _ h9))
  subst hsz
  have hD := hD0.self (sz := s.heap.size)
  generalize hAe : va_A (wM ad cA σ) s.heap.size = A at hD hT ⊢
  have hA : ∀ q : Nat, s.heap.size ≤ q → A q := fun q h => by rw [← hAe]; exact Or.inr h
  have hS : va_S A s.heap s.heap [] := va_S.rf
  have hl := lv_entry ([.ref (ad 0), .int p0]) (n := 3) (Nat.le_of_ble_eq_true rfl)
  rw [lg_entry_eq]
  generalize (lg_sl ([.ref (ad 0), .int p0]) ++ List.replicate (3 - (lg_sl ([.ref (ad 0), .int p0])).length) Slot.unset).toArray = ls at hl ⊢
  have hl : lv_has ls 3 [(0, .ref (ad 0)), (1, .int p0)] := hl
  have hts := dr_words hts0 (s.drawn)
  have hK := gKd hK0 (s.drawn)
  have hown : (s.setDrawn (s.drawn)).vm.findClass RX12 = some m.cls := hown0
  refine lv_bipush (v := (-91)) hx hb dX12_laysGrid_0 (by decide) ?_
  refine lv_istore_n (lv' := [(2, .int (-91)), (0, .ref (ad 0)), (1, .int p0)]) hx hb dX12_laysGrid_2 rfl hl (by decide) rfl (fun ls hl => ?_)
  refine (fun (h : ∀ (n : Nat) (k2 : Int32) (σ3x : gs) (d3 : Drawn) (H : Heap) (locs : List Loc) (ls : Array Slot), ((5 : Int32).toInt - k2.toInt).toNat < n → (-91) ≤ k2 → k2 ≤ 5 → LG σ σ3x p0.toNatClampNeg k2 → InvM σ3x → mFr [49] [] σ σ3x → s.drawn.sameBut d3 lw_cs → va_P (dC, dI) vwCl (wM ad cA σ3x) H → va_D A (wM ad cA σ3x) → va_S A s.heap H locs → lv_has ls 3 [(2, .int k2), (0, .ref (ad 0)), (1, .int p0)] → W p l e _ (s.setDrawn d3) m _ below meth c H locs _ _ _ (F0 m 3 ls [])) => h _ (-91) σ _ _ _ _ (Nat.lt_succ_self _) (by decide) (by decide) (lg_0 (σ := σ)) hI (mFr.rfl (L := [49]) (F := []) (σ := σ)) hd0 hP hD hS (lv_sub hl [0, 1, 2] rfl)) ?_
  intro n3
  induction n3 with
  | zero => intro k2 σ3x d3 H locs ls hm; exact absurd hm (Nat.not_lt_zero _)
  | succ n3 ih3 =>
    intro k2 σ3x d3 H locs ls hm3 iv3_0 iv3_1 iv3_2 hIσ3x frσ3x hd0 hP hD hS hl
    have hts := dr_words hts0 (d3)
    have hK := gKd hK0 (d3)
    have hown : (s.setDrawn (d3)).vm.findClass RX12 = some m.cls := hown0
    refine lv_iload_n hx hb dX12_laysGrid_3 rfl (lv_at hl 0 rfl) ?_
    refine lv_iconst (v := 4) hx hb dX12_laysGrid_4 (by decide) ?_
    refine lv_icmp_gt (tgt := 37) hx hb dX12_laysGrid_5 (by decide) (fun c_1 => ?_) (fun c_1 => ?_)
    · refine W.endD hd0 ?_
      exact W.vret hx hb hr (fun t ht hW => ⟨⟨σ3x, rfl, ⟨hIσ3x, frσ3x, ⟨lg_e iv3_2 c_1 hh2 hh3 (by rw [frσ3x.1 2 (by decide) (by decide)]), iv3_2.2⟩⟩, ⟨by rw [ht]; exact hP, hD⟩⟩, hS.F ht⟩) hS.2.2 dX12_laysGrid_37
    · refine lv_aload_n hx hb dX12_laysGrid_8 rfl (lv_at hl 1 rfl) ?_
      refine va_get (D := (dC, dI)) (ci := 11) (v := .ref (ad 9)) (C := RX12) (T := TX12) (N := 69) hx hb hts hinX12 hown hK hP 0 (mat_11 rfl) rfl 13 (by decide) (hts (.fieldLink RX12 38 "BondCalendarsModel" "grids" "[I") (by decide +kernel)) (fun _ h9 => h9) rfl dX12_laysGrid_9 ?_
      refine lv_bipush (v := 96) hx hb dX12_laysGrid_12 (by decide) ?_
      refine lv_iload_n hx hb dX12_laysGrid_14 rfl (lv_at hl 2 rfl) ?_
      refine lv_imul hx hb dX12_laysGrid_15 ?_
      refine lv_topi (fun x_2 ex_2 => ?_)
      refine lv_bipush (v := 91) hx hb dX12_laysGrid_16 (by decide) ?_
      refine lv_iadd hx hb dX12_laysGrid_18 ?_
      refine lv_topi (fun x_3 ex_3 => ?_)
      refine lv_iload_n hx hb dX12_laysGrid_19 rfl (lv_at hl 0 rfl) ?_
      refine lv_iadd hx hb dX12_laysGrid_20 ?_
      refine lv_topi (fun x_4 ex_4 => ?_)
      refine lv_aload_n hx hb dX12_laysGrid_21 rfl (lv_at hl 1 rfl) ?_
      refine lv_iload_n hx hb dX12_laysGrid_22 rfl (lv_at hl 2 rfl) ?_
      refine lv_iload_n hx hb dX12_laysGrid_23 rfl (lv_at hl 0 rfl) ?_
      have hF := gFree hD hS hA
      refine va_calliD hd0 (va_runV_D (As := [.int p0, .int k2]) (rest := [.int x_4, .ref (ad 9)]) ⟨hx, hb, hml, hown, hts⟩ (n_X12_gridDate l dC dI ad cA adK adV H.size σ3x hIσ3x p0 k2 hh0 (Int32.lt_trans hh1 (show (4 : Int32) < 8 by decide)) (by rw [frσ3x.1 2 (by decide) (by decide)]; exact (oft_1 hh2))) (cwV 2 hts gX12_laysGrid_X12_gridDate rfl rfl rfl (by decide +kernel) ⟨Nat.le_of_ble_eq_true rfl, Nat.le_of_ble_eq_true rfl⟩) ⟨gBlind, va_recv hK hP (ci := 11) (q0 := 0) rfl (mat_11 rfl), gStart (As := [.ref (ad 0), .int p0, .int k2]) hP hD hK0 hT hS hF (d3)⟩ rfl rfl hl.1 rfl (lv_room (Nat.le_of_ble_eq_true rfl)) dX12_laysGrid_24 ⟨Nat.le_of_ble_eq_true rfl, Nat.le_of_ble_eq_true rfl⟩) hS (fun q _ h => hF q h) hF (fun r_5 σ1 t H locs ht hvm hw hB hz1 hk1 hS d_6 hd0 => ?_)
      have hts := dr_words hts0 (d_6)
      have hK := gKd hK0 (d_6)
      have hown : (s.setDrawn (d_6)).vm.findClass RX12 = some m.cls := hown0
      obtain ⟨hP, hD⟩ := gBack hF ht hB
      obtain ⟨hIσ1, hro, hp_7⟩ := hw
      subst hro
      have gq_8 : r_5 = gdt ((σ 5).1 p0.toNatClampNeg) ((σ 2).1 p0.toNatClampNeg) ((σ 10).1 p0.toNatClampNeg) k2 := hp_7.trans (gdt_ch (show ((σ3x 5).1 p0.toNatClampNeg : Int32) = ((σ 5).1 p0.toNatClampNeg : Int32) from by rw [frσ3x.1 5 (by decide) (by decide)]) (show ((σ3x 2).1 p0.toNatClampNeg : Int32) = ((σ 2).1 p0.toNatClampNeg : Int32) from by rw [frσ3x.1 2 (by decide) (by decide)]) (show ((σ3x 10).1 p0.toNatClampNeg : Int32) = ((σ 10).1 p0.toNatClampNeg : Int32) from by rw [frσ3x.1 10 (by decide) (by decide)]))
      have gb_9 := gdt_b (A := (σ3x 5).1 p0.toNatClampNeg) (O := (σ3x 2).1 p0.toNatClampNeg) (E := (σ3x 10).1 p0.toNatClampNeg) (k := k2) (by rw [frσ3x.1 5 (by decide) (by decide)]; exact hh3) (by rw [frσ3x.1 2 (by decide) (by decide)]; exact hh2) iv3_0 (Int32.not_lt.mp c_1)
      rw [← hp_7] at gb_9
      have hF := gFree (w := []) (hx_D0 (A := A)) hS hA
      have hKe := hK.sub (tys' := []) [] rfl
      refine va_calli (va_runS (As := [.int r_5]) (rest := [.int x_4, .ref (ad 9)]) ⟨hx, hb, hml, hown, hts⟩ (k_X12_dayOf l dC dI H.size r_5 ) (va_cwS 1 hts gX12_laysGrid_X12_dayOf rfl rfl rfl (by decide +kernel) ⟨Nat.le_of_ble_eq_true rfl, Nat.le_of_ble_eq_true rfl⟩) ⟨fun a U g mk q => by obtain ⟨q0, q1, qP, qK, qD⟩ := q; exact ⟨q0, q1, qP, va_K.moved (u := U) (U := U.calling g mk a) (Vm.Alike.refl U.vm) qK, qD⟩, fun U hU hW => ⟨rfl, by rw [hU], hx_P0, va_K.moved hW.alike hKe, hx_D0⟩⟩ rfl rfl hl.1 rfl (lv_room (Nat.le_of_ble_eq_true rfl)) dX12_laysGrid_27 ⟨Nat.le_of_ble_eq_true rfl, Nat.le_of_ble_eq_true rfl⟩) hS (fun q _ h => hF q h) hF (fun r_10 u t H locs ht hvm hw hB hz1 hk1 hS => ?_)
      have hP := gKeep hP hk1
      have pu_11 : r_10 = f_X12_dayOf r_5 := hw
      have hi_12 : vp_in x_4 768 := by have ab1 : (0 : Int) ≤ p0.toInt := Int32.le_iff_toInt_le.mp hh0; have ab2 : p0.toInt ≤ (3 : Int) := Int32.le_iff_toInt_le.mp (gl2 (b := 3) hh1 (by decide)); have tt3 : x_2.toInt = (96 * p0.toInt) := (by rw [ex_2]; exact i3_mul (a := (96 : Int32)) (b := p0) (x := 96) (y := p0.toInt) rfl rfl (by omega) (by omega)); have tt4 : x_3.toInt = ((96 * p0.toInt) + 91) := (by rw [ex_3]; exact i3_add (a := x_2) (b := (91 : Int32)) (x := (96 * p0.toInt)) (y := 91) tt3 rfl (by omega) (by omega)); have ab5 : ((-91) : Int) ≤ k2.toInt := Int32.le_iff_toInt_le.mp iv3_0; have ab6 : k2.toInt ≤ (4 : Int) := Int32.le_iff_toInt_le.mp (Int32.not_lt.mp c_1); have tt7 : x_4.toInt = (((96 * p0.toInt) + 91) + k2.toInt) := (by rw [ex_4]; exact i3_add (a := x_3) (b := k2) (x := ((96 * p0.toInt) + 91)) (y := k2.toInt) tt4 rfl (by omega) (by omega)); have z0 : (0 : Int32).toInt = 0 := (by decide); have zn : (768 : Int32).toInt = 768 := (by decide); exact gin (N := 768) (by decide) (Int32.le_iff_toInt_le.mpr (by omega)) (Int32.lt_iff_toInt_lt.mpr (by omega))
      refine va_iast hx hb hK hP hD hS 9 9 (mat_49 rfl) (mty_49 rfl) hi_12 dX12_laysGrid_30 (fun H locs hP hD hS => ?_)
      obtain ⟨σ2, eσ2, hP, hD⟩ := gPut (mse_49 rfl) hP hD
      have hIσ2 : InvM σ2 := by rw [eσ2]; exact minv_I hIσ3x (mok_49 rfl _ _)
      have frσ2 : mFr [49] [] σ σ2 := by rw [eσ2]; exact mFr.aI frσ3x (by decide) (by decide)
      obtain ⟨x_13, ex_13⟩ : ∃ zz : Int32, zz = k2 + 1 := ⟨_, rfl⟩
      refine lv_iinc (v := x_13) (lv' := [(2, .int x_13), (0, .ref (ad 0)), (1, .int p0)]) hx hb dX12_laysGrid_31 hl (k := 0) rfl (by rw [ex_13]; rfl) (by decide) rfl (fun ls hl => ?_)
      refine lv_goto (tgt := 3) hx hb dX12_laysGrid_34 (by decide) ?_
      exact ih3 x_13 σ2 _ _ _ _ (nd_m (Int32.lt_of_le_of_lt (Int32.not_lt.mp c_1) (show (4 : Int32) < 5 by decide)) hm3 ex_13) (nd_lo (a := (-91)) (Int32.lt_of_le_of_lt (Int32.not_lt.mp c_1) (show (4 : Int32) < 5 by decide)) iv3_0 ex_13) (nd_hi (Int32.lt_of_le_of_lt (Int32.not_lt.mp c_1) (show (4 : Int32) < 5 by decide)) ex_13) (lg_s iv3_2 hh0 iv3_0 (Int32.not_lt.mp c_1) (i := x_4) (by have ab1 : (0 : Int) ≤ p0.toInt := Int32.le_iff_toInt_le.mp hh0; have ab2 : p0.toInt ≤ (3 : Int) := Int32.le_iff_toInt_le.mp (gl2 (b := 3) hh1 (by decide)); have tt3 : x_2.toInt = (96 * p0.toInt) := (by rw [ex_2]; exact i3_mul (a := (96 : Int32)) (b := p0) (x := 96) (y := p0.toInt) rfl rfl (by omega) (by omega)); have tt4 : x_3.toInt = ((96 * p0.toInt) + 91) := (by rw [ex_3]; exact i3_add (a := x_2) (b := (91 : Int32)) (x := (96 * p0.toInt)) (y := 91) tt3 rfl (by omega) (by omega)); have ab5 : ((-91) : Int) ≤ k2.toInt := Int32.le_iff_toInt_le.mp iv3_0; have ab6 : k2.toInt ≤ (4 : Int) := Int32.le_iff_toInt_le.mp (Int32.not_lt.mp c_1); have tt7 : x_4.toInt = (((96 * p0.toInt) + 91) + k2.toInt) := (by rw [ex_4]; exact i3_add (a := x_3) (b := k2) (x := ((96 * p0.toInt) + 91)) (y := k2.toInt) tt4 rfl (by omega) (by omega)); omega) gq_8 pu_11 (by rw [eσ2, gI_at]) ex_13) hIσ2 frσ2 hd0 hP hD hS (lv_sub hl [0, 1, 2] rfl)
set_option maxHeartbeats 8000000 in
set_option maxRecDepth 100000 in
theorem n_X12_laysPeriod (l : Launch) (dC : Nat → ClassId) (dI : Nat → Nat → Nat) (ad : Nat → Nat) (cA : Nat → ClassId) (adK adV : Nat → Nat) (sz : Nat) (σ : gs) (hI : InvM σ) (p0 : Int32) (p1 : Int32) (hh0 : 0 ≤ p0) (hh1 : p0 < 4) (hh2 : 0 ≤ p1) (hh3 : p1 < 82) (hh4 : GridOK σ p0.toNatClampNeg) (hh5 : 0 ≤ (σ 7).1 p0.toNatClampNeg) (hh6 : (σ 7).1 p0.toNatClampNeg ≤ 10) : MetD lw_cs l yX12_laysPeriod wsX12_laysPeriod ({ frames := 5, cells := 0, slots := 0, locals := 110 }) (va_Pc [.ref (ad 0), .int p0, .int p1] (gPre adK adV (dC, dI) (wM ad cA σ) (tM cA) sz)) (va_Qv (fun (τ : gs) => InvM τ ∧ mFr [59, 60, 61, 62] [] σ τ ∧ (True)) (fun τ t => gPost (dC, dI) (va_A (wM ad cA σ) sz) (wM ad cA τ) t) (va_A (wM ad cA σ) sz)) 0 0 (va_A (wM ad cA σ) sz) := by
  refine MetD.ofW (cc := cX12_laysPeriod) (maxL := 4) (ret := none) (by decide) rfl ?_
  intro p e s m args below meth c s₁ B hml hv hd0
  obtain ⟨rfl, hsz, hP, hK, hD0, hT⟩ := hv
  have hx := B.exec
  have hb := B.bytes
  have hr := B.returns
  have hts0 := atoms_spec (ws := wsX12_laysPeriod) B.pre
  have hK0 := hK
  have hown0 : s.vm.findClass RX12 = some m.cls := findClass_of_methodNamed B.named
  have hlocks := B.notSynchronized
  have hinX12 : ∀ w ∈ u_ws RX12 TX12 69, w ∈ wsX12_laysPeriod := (fun _ h9 => List.mem_cons_of_mem _ (List.mem_append_right _ h9))
  subst hsz
  have hD := hD0.self (sz := s.heap.size)
  generalize hAe : va_A (wM ad cA σ) s.heap.size = A at hD hT ⊢
  have hA : ∀ q : Nat, s.heap.size ≤ q → A q := fun q h => by rw [← hAe]; exact Or.inr h
  have hS : va_S A s.heap s.heap [] := va_S.rf
  have hl := lv_entry ([.ref (ad 0), .int p0, .int p1]) (n := 4) (Nat.le_of_ble_eq_true rfl)
  rw [lg_entry_eq]
  generalize (lg_sl ([.ref (ad 0), .int p0, .int p1]) ++ List.replicate (4 - (lg_sl ([.ref (ad 0), .int p0, .int p1])).length) Slot.unset).toArray = ls at hl ⊢
  have hl : lv_has ls 4 [(0, .ref (ad 0)), (1, .int p0), (2, .int p1)] := hl
  have hts := dr_words hts0 (s.drawn)
  have hK := gKd hK0 (s.drawn)
  have hown : (s.setDrawn (s.drawn)).vm.findClass RX12 = some m.cls := hown0
  refine lv_aload_n hx hb dX12_laysPeriod_0 rfl (lv_at hl 0 rfl) ?_
  refine lv_iload_n hx hb dX12_laysPeriod_1 rfl (lv_at hl 1 rfl) ?_
  refine lv_iload_n hx hb dX12_laysPeriod_2 rfl (lv_at hl 2 rfl) ?_
  have hF := gFree hD hS hA
  refine va_calliD hd0 (va_runV_D (As := [.int p0, .int p1]) (rest := []) ⟨hx, hb, hml, hown, hts⟩ (n_X12_endOf l dC dI ad cA adK adV s.heap.size σ hI p0 p1 hh0 hh1 hh2 hh3) (cwV 2 hts gX12_laysPeriod_X12_endOf rfl rfl rfl (by decide +kernel) ⟨Nat.le_of_ble_eq_true rfl, Nat.le_of_ble_eq_true rfl⟩) ⟨gBlind, va_recv hK hP (ci := 11) (q0 := 0) rfl (mat_11 rfl), gStart (As := [.ref (ad 0), .int p0, .int p1]) hP hD hK0 hT hS hF (s.drawn)⟩ rfl rfl hl.1 rfl (lv_room (Nat.le_of_ble_eq_true rfl)) dX12_laysPeriod_3 ⟨Nat.le_of_ble_eq_true rfl, Nat.le_of_ble_eq_true rfl⟩) hS (fun q _ h => hF q h) hF (fun r_1 σ1 t H locs ht hvm hw hB hz1 hk1 hS d_2 hd0 => ?_)
  have hts := dr_words hts0 (d_2)
  have hK := gKd hK0 (d_2)
  have hown : (s.setDrawn (d_2)).vm.findClass RX12 = some m.cls := hown0
  obtain ⟨hP, hD⟩ := gBack hF ht hB
  obtain ⟨hIσ1, hro, hp_3⟩ := hw
  subst hro
  have eo_4 : ∀ j : Nat, (j : Int) = 82 * p0.toInt + p1.toInt → r_1 = (σ 18).1 j := hp_3.2.2
  have hF := gFree (w := []) (hx_D0 (A := A)) hS hA
  have hKe := hK.sub (tys' := []) [] rfl
  refine va_calli (va_runS (As := [.int r_1]) (rest := []) ⟨hx, hb, hml, hown, hts⟩ (k_X12_dayOf l dC dI H.size r_1 ) (va_cwS 1 hts gX12_laysPeriod_X12_dayOf rfl rfl rfl (by decide +kernel) ⟨Nat.le_of_ble_eq_true rfl, Nat.le_of_ble_eq_true rfl⟩) ⟨fun a U g mk q => by obtain ⟨q0, q1, qP, qK, qD⟩ := q; exact ⟨q0, q1, qP, va_K.moved (u := U) (U := U.calling g mk a) (Vm.Alike.refl U.vm) qK, qD⟩, fun U hU hW => ⟨rfl, by rw [hU], hx_P0, va_K.moved hW.alike hKe, hx_D0⟩⟩ rfl rfl hl.1 rfl (lv_room (Nat.le_of_ble_eq_true rfl)) dX12_laysPeriod_6 ⟨Nat.le_of_ble_eq_true rfl, Nat.le_of_ble_eq_true rfl⟩) hS (fun q _ h => hF q h) hF (fun r_5 u t H locs ht hvm hw hB hz1 hk1 hS => ?_)
  have hP := gKeep hP hk1
  have pu_6 : r_5 = f_X12_dayOf r_1 := hw
  refine lv_istore_n (lv' := [(3, .int r_5), (0, .ref (ad 0)), (1, .int p0), (2, .int p1)]) hx hb dX12_laysPeriod_9 rfl hl (by decide) rfl (fun ls hl => ?_)
  refine lv_aload_n hx hb dX12_laysPeriod_10 rfl (lv_at hl 1 rfl) ?_
  refine va_get (D := (dC, dI)) (ci := 11) (v := .ref (ad 19)) (C := RX12) (T := TX12) (N := 69) hx hb hts hinX12 hown hK hP 0 (mat_11 rfl) rfl 41 (by decide) (hts (.fieldLink RX12 70 "BondCalendarsModel" "exDay" "[I") (by decide +kernel)) (fun _ h9 => h9) rfl dX12_laysPeriod_11 ?_
  refine lv_bipush (v := 82) hx hb dX12_laysPeriod_14 (by decide) ?_
  refine lv_iload_n hx hb dX12_laysPeriod_16 rfl (lv_at hl 2 rfl) ?_
  refine lv_imul hx hb dX12_laysPeriod_17 ?_
  refine lv_topi (fun x_7 ex_7 => ?_)
  refine lv_iload_n hx hb dX12_laysPeriod_18 rfl (lv_at hl 3 rfl) ?_
  refine lv_iadd hx hb dX12_laysPeriod_19 ?_
  refine lv_topi (fun x_8 ex_8 => ?_)
  refine lv_aload_n hx hb dX12_laysPeriod_20 rfl (lv_at hl 1 rfl) ?_
  refine lv_iload_n hx hb dX12_laysPeriod_21 rfl (lv_at hl 0 rfl) ?_
  refine lv_aload_n hx hb dX12_laysPeriod_22 rfl (lv_at hl 1 rfl) ?_
  refine va_get (D := (dC, dI)) (ci := 11) (v := .ref (ad 7)) (C := RX12) (T := TX12) (N := 69) hx hb hts hinX12 hown hK hP 0 (mat_11 rfl) rfl 11 (by decide) (hts (.fieldLink RX12 32 "BondCalendarsModel" "ex" "[I") (by decide +kernel)) (fun _ h9 => h9) rfl dX12_laysPeriod_23 ?_
  refine lv_iload_n hx hb dX12_laysPeriod_26 rfl (lv_at hl 2 rfl) ?_
  refine va_iald hx hb hK hP 7 7 (mat_47 rfl) (mty_47 rfl) (gin (N := 8) (by decide) hh0 (Int32.lt_trans hh1 (show (4 : Int32) < 8 by decide))) dX12_laysPeriod_27 ?_
  refine lv_topi (fun x_9 ex_9 => ?_)
  refine lv_ineg hx hb dX12_laysPeriod_28 ?_
  refine lv_topi (fun x_10 ex_10 => ?_)
  have hF := gFree hD hS hA
  refine va_calliD hd0 (va_runV_D (As := [.int r_5, .int x_10]) (rest := [.int x_8, .ref (ad 19)]) ⟨hx, hb, hml, hown, hts⟩ (n_X12_businessAfter l dC dI ad cA adK adV H.size σ hI r_5 x_10 (Int32.le_of_lt (Int32.lt_of_lt_of_le (show ((-1000000) : Int32) < (-400) by decide) (day_gl pu_6 hp_3.1 hp_3.2.1).1)) (Int32.le_of_lt (Int32.lt_of_le_of_lt (day_gl pu_6 hp_3.1 hp_3.2.1).2 (show (1200000 : Int32) < 5000000 by decide))) (Int32.le_of_lt (Int32.lt_of_lt_of_le (show ((-60) : Int32) < (-10) by decide) (neg_ge (a := 0) (b := 10) (Int32.le_trans hh5 (eq_le ex_9.symm)) (Int32.le_trans (eq_le ex_9) hh6) ex_10 (by decide) (by decide)))) (Int32.le_of_lt (Int32.lt_of_le_of_lt (neg_le (a := 0) (Int32.le_trans hh5 (eq_le ex_9.symm)) ex_10 (by decide)) (show (0 : Int32) < 60 by decide)))) (cwV 2 hts gX12_laysPeriod_X12_businessAfter rfl rfl rfl (by decide +kernel) ⟨Nat.le_of_ble_eq_true rfl, Nat.le_of_ble_eq_true rfl⟩) ⟨gBlind, va_recv hK hP (ci := 11) (q0 := 0) rfl (mat_11 rfl), gStart (As := [.ref (ad 0), .int r_5, .int x_10]) hP hD hK0 hT hS hF (d_2)⟩ rfl rfl hl.1 rfl (lv_room (Nat.le_of_ble_eq_true rfl)) dX12_laysPeriod_29 ⟨Nat.le_of_ble_eq_true rfl, Nat.le_of_ble_eq_true rfl⟩) hS (fun q _ h => hF q h) hF (fun r_11 σ2 t H locs ht hvm hw hB hz1 hk1 hS d_12 hd0 => ?_)
  have hts := dr_words hts0 (d_12)
  have hK := gKd hK0 (d_12)
  have hown : (s.setDrawn (d_12)).vm.findClass RX12 = some m.cls := hown0
  obtain ⟨hP, hD⟩ := gBack hF ht hB
  obtain ⟨hIσ2, hro, hp_13⟩ := hw
  subst hro
  have hi_14 : vp_in x_8 328 := by have ab1 : (0 : Int) ≤ p0.toInt := Int32.le_iff_toInt_le.mp hh0; have ab2 : p0.toInt ≤ (3 : Int) := Int32.le_iff_toInt_le.mp (gl2 (b := 3) hh1 (by decide)); have tt3 : x_7.toInt = (82 * p0.toInt) := (by rw [ex_7]; exact i3_mul (a := (82 : Int32)) (b := p0) (x := 82) (y := p0.toInt) rfl rfl (by omega) (by omega)); have ab4 : (0 : Int) ≤ p1.toInt := Int32.le_iff_toInt_le.mp hh2; have ab5 : p1.toInt ≤ (81 : Int) := Int32.le_iff_toInt_le.mp (gl2 (b := 81) hh3 (by decide)); have tt6 : x_8.toInt = ((82 * p0.toInt) + p1.toInt) := (by rw [ex_8]; exact i3_add (a := x_7) (b := p1) (x := (82 * p0.toInt)) (y := p1.toInt) tt3 rfl (by omega) (by omega)); have z0 : (0 : Int32).toInt = 0 := (by decide); have zn : (328 : Int32).toInt = 328 := (by decide); exact gin (N := 328) (by decide) (Int32.le_iff_toInt_le.mpr (by omega)) (Int32.lt_iff_toInt_lt.mpr (by omega))
  refine va_iast hx hb hK hP hD hS 19 19 (mat_59 rfl) (mty_59 rfl) hi_14 dX12_laysPeriod_32 (fun H locs hP hD hS => ?_)
  obtain ⟨σ3, eσ3, hP, hD⟩ := gPut (mse_59 rfl) hP hD
  have hIσ3 : InvM σ3 := by rw [eσ3]; exact minv_I hI (mok_59 rfl _ _ ⟨(Int32.le_of_lt (Int32.lt_of_lt_of_le (show ((-1000) : Int32) < (-612) by decide) (nr_lo (a := (-400)) (day_gl pu_6 hp_3.1 hp_3.2.1).1 hp_13 (by decide)))), (Int32.le_of_lt (Int32.lt_of_le_of_lt (nr_hi (a := 1200000) (day_gl pu_6 hp_3.1 hp_3.2.1).2 hp_13 (by decide)) (show (1200212 : Int32) < 4000000 by decide)))⟩)
  have frσ3 : mFr [59, 60, 61, 62] [] σ σ3 := by rw [eσ3]; exact mFr.aI (mFr.rfl (L := [59, 60, 61, 62]) (F := []) (σ := σ)) (by decide) (by decide)
  refine lv_aload_n hx hb dX12_laysPeriod_33 rfl (lv_at hl 1 rfl) ?_
  refine va_get (D := (dC, dI)) (ci := 11) (v := .ref (ad 20)) (C := RX12) (T := TX12) (N := 69) hx hb hts hinX12 hown hK hP 0 (mat_11 rfl) rfl 42 (by decide) (hts (.fieldLink RX12 73 "BondCalendarsModel" "payDay" "[I") (by decide +kernel)) (fun _ h9 => h9) rfl dX12_laysPeriod_34 ?_
  refine lv_bipush (v := 82) hx hb dX12_laysPeriod_37 (by decide) ?_
  refine lv_iload_n hx hb dX12_laysPeriod_39 rfl (lv_at hl 2 rfl) ?_
  refine lv_imul hx hb dX12_laysPeriod_40 ?_
  refine lv_topi (fun x_15 ex_15 => ?_)
  refine lv_iload_n hx hb dX12_laysPeriod_41 rfl (lv_at hl 3 rfl) ?_
  refine lv_iadd hx hb dX12_laysPeriod_42 ?_
  refine lv_topi (fun x_16 ex_16 => ?_)
  refine lv_aload_n hx hb dX12_laysPeriod_43 rfl (lv_at hl 1 rfl) ?_
  refine lv_iload_n hx hb dX12_laysPeriod_44 rfl (lv_at hl 0 rfl) ?_
  have hF := gFree hD hS hA
  refine va_calliD hd0 (va_runV_D (As := [.int r_5]) (rest := [.int x_16, .ref (ad 20)]) ⟨hx, hb, hml, hown, hts⟩ (n_X12_isBusiness l dC dI ad cA adK adV H.size σ3 hIσ3 r_5) (cwV 1 hts gX12_laysPeriod_X12_isBusiness rfl rfl rfl (by decide +kernel) ⟨Nat.le_of_ble_eq_true rfl, Nat.le_of_ble_eq_true rfl⟩) ⟨gBlind, va_recv hK hP (ci := 11) (q0 := 0) rfl (mat_11 rfl), gStart (As := [.ref (ad 0), .int r_5]) hP hD hK0 hT hS hF (d_12)⟩ rfl rfl hl.1 rfl (lv_room (Nat.le_of_ble_eq_true rfl)) dX12_laysPeriod_45 ⟨Nat.le_of_ble_eq_true rfl, Nat.le_of_ble_eq_true rfl⟩) hS (fun q _ h => hF q h) hF (fun r_17 σ4 t H locs ht hvm hw hB hz1 hk1 hS d_18 hd0 => ?_)
  have hts := dr_words hts0 (d_18)
  have hK := gKd hK0 (d_18)
  have hown : (s.setDrawn (d_18)).vm.findClass RX12 = some m.cls := hown0
  obtain ⟨hP, hD⟩ := gBack hF ht hB
  obtain ⟨hIσ4, hro, hp_19⟩ := hw
  subst hro
  refine lv_if_eq (tgt := 55) hx hb dX12_laysPeriod_48 (by decide) (fun c_20 => ?_) (fun c_20 => ?_)
  · refine lv_aload_n hx hb dX12_laysPeriod_55 rfl (lv_at hl 1 rfl) ?_
    refine lv_iload_n hx hb dX12_laysPeriod_56 rfl (lv_at hl 0 rfl) ?_
    refine lv_iconst (v := 1) hx hb dX12_laysPeriod_57 (by decide) ?_
    have hF := gFree hD hS hA
    refine va_calliD hd0 (va_runV_D (As := [.int r_5, .int 1]) (rest := [.int x_16, .ref (ad 20)]) ⟨hx, hb, hml, hown, hts⟩ (n_X12_businessAfter l dC dI ad cA adK adV H.size σ3 hIσ3 r_5 1 (Int32.le_of_lt (Int32.lt_of_lt_of_le (show ((-1000000) : Int32) < (-400) by decide) (day_gl pu_6 hp_3.1 hp_3.2.1).1)) (Int32.le_of_lt (Int32.lt_of_le_of_lt (day_gl pu_6 hp_3.1 hp_3.2.1).2 (show (1200000 : Int32) < 5000000 by decide))) (show ((-60) : Int32) ≤ 1 by decide) (show (1 : Int32) ≤ 60 by decide)) (cwV 2 hts gX12_laysPeriod_X12_businessAfter rfl rfl rfl (by decide +kernel) ⟨Nat.le_of_ble_eq_true rfl, Nat.le_of_ble_eq_true rfl⟩) ⟨gBlind, va_recv hK hP (ci := 11) (q0 := 0) rfl (mat_11 rfl), gStart (As := [.ref (ad 0), .int r_5, .int 1]) hP hD hK0 hT hS hF (d_18)⟩ rfl rfl hl.1 rfl (lv_room (Nat.le_of_ble_eq_true rfl)) dX12_laysPeriod_58 ⟨Nat.le_of_ble_eq_true rfl, Nat.le_of_ble_eq_true rfl⟩) hS (fun q _ h => hF q h) hF (fun r_21 σ5 t H locs ht hvm hw hB hz1 hk1 hS d_22 hd0 => ?_)
    have hts := dr_words hts0 (d_22)
    have hK := gKd hK0 (d_22)
    have hown : (s.setDrawn (d_22)).vm.findClass RX12 = some m.cls := hown0
    obtain ⟨hP, hD⟩ := gBack hF ht hB
    obtain ⟨hIσ5, hro, hp_23⟩ := hw
    subst hro
    have hi_24 : vp_in x_16 328 := by have ab1 : (0 : Int) ≤ p0.toInt := Int32.le_iff_toInt_le.mp hh0; have ab2 : p0.toInt ≤ (3 : Int) := Int32.le_iff_toInt_le.mp (gl2 (b := 3) hh1 (by decide)); have tt3 : x_15.toInt = (82 * p0.toInt) := (by rw [ex_15]; exact i3_mul (a := (82 : Int32)) (b := p0) (x := 82) (y := p0.toInt) rfl rfl (by omega) (by omega)); have ab4 : (0 : Int) ≤ p1.toInt := Int32.le_iff_toInt_le.mp hh2; have ab5 : p1.toInt ≤ (81 : Int) := Int32.le_iff_toInt_le.mp (gl2 (b := 81) hh3 (by decide)); have tt6 : x_16.toInt = ((82 * p0.toInt) + p1.toInt) := (by rw [ex_16]; exact i3_add (a := x_15) (b := p1) (x := (82 * p0.toInt)) (y := p1.toInt) tt3 rfl (by omega) (by omega)); have z0 : (0 : Int32).toInt = 0 := (by decide); have zn : (328 : Int32).toInt = 328 := (by decide); exact gin (N := 328) (by decide) (Int32.le_iff_toInt_le.mpr (by omega)) (Int32.lt_iff_toInt_lt.mpr (by omega))
    refine va_iast hx hb hK hP hD hS 20 20 (mat_60 rfl) (mty_60 rfl) hi_24 dX12_laysPeriod_61 (fun H locs hP hD hS => ?_)
    obtain ⟨σ6, eσ6, hP, hD⟩ := gPut (mse_60 rfl) hP hD
    have hIσ6 : InvM σ6 := by rw [eσ6]; exact minv_I hIσ3 (mok_60 rfl _ _ ⟨(Int32.le_of_lt (Int32.lt_of_lt_of_le (show ((-1000) : Int32) < (-612) by decide) (nr_lo (a := (-400)) (day_gl pu_6 hp_3.1 hp_3.2.1).1 hp_23 (by decide)))), (Int32.le_of_lt (Int32.lt_of_le_of_lt (nr_hi (a := 1200000) (day_gl pu_6 hp_3.1 hp_3.2.1).2 hp_23 (by decide)) (show (1200212 : Int32) < 4000000 by decide)))⟩)
    have frσ6 : mFr [59, 60, 61, 62] [] σ σ6 := by rw [eσ6]; exact mFr.aI frσ3 (by decide) (by decide)
    refine lv_aload_n hx hb dX12_laysPeriod_62 rfl (lv_at hl 1 rfl) ?_
    refine lv_iload_n hx hb dX12_laysPeriod_63 rfl (lv_at hl 2 rfl) ?_
    refine lv_aload_n hx hb dX12_laysPeriod_64 rfl (lv_at hl 1 rfl) ?_
    refine lv_iload_n hx hb dX12_laysPeriod_65 rfl (lv_at hl 2 rfl) ?_
    refine lv_iload_n hx hb dX12_laysPeriod_66 rfl (lv_at hl 3 rfl) ?_
    have hF := gFree hD hS hA
    refine va_calliD hd0 (va_runV_D (As := [.int p0, .int p1]) (rest := [.int p0, .ref (ad 0)]) ⟨hx, hb, hml, hown, hts⟩ (n_X12_startOf l dC dI ad cA adK adV H.size σ6 hIσ6 p0 p1 hh0 hh1 hh2 hh3) (cwV 2 hts gX12_laysPeriod_X12_startOf rfl rfl rfl (by decide +kernel) ⟨Nat.le_of_ble_eq_true rfl, Nat.le_of_ble_eq_true rfl⟩) ⟨gBlind, va_recv hK hP (ci := 11) (q0 := 0) rfl (mat_11 rfl), gStart (As := [.ref (ad 0), .int p0, .int p1]) hP hD hK0 hT hS hF (d_22)⟩ rfl rfl hl.1 rfl (lv_room (Nat.le_of_ble_eq_true rfl)) dX12_laysPeriod_67 ⟨Nat.le_of_ble_eq_true rfl, Nat.le_of_ble_eq_true rfl⟩) hS (fun q _ h => hF q h) hF (fun r_25 σ7 t H locs ht hvm hw hB hz1 hk1 hS d_26 hd0 => ?_)
    have hts := dr_words hts0 (d_26)
    have hK := gKd hK0 (d_26)
    have hown : (s.setDrawn (d_26)).vm.findClass RX12 = some m.cls := hown0
    obtain ⟨hP, hD⟩ := gBack hF ht hB
    obtain ⟨hIσ7, hro, hp_27⟩ := hw
    subst hro
    refine lv_aload_n hx hb dX12_laysPeriod_70 rfl (lv_at hl 1 rfl) ?_
    refine lv_iload_n hx hb dX12_laysPeriod_71 rfl (lv_at hl 2 rfl) ?_
    refine lv_iload_n hx hb dX12_laysPeriod_72 rfl (lv_at hl 3 rfl) ?_
    have hF := gFree hD hS hA
    refine va_calliD hd0 (va_runV_D (As := [.int p0, .int p1]) (rest := [.int r_25, .int p0, .ref (ad 0)]) ⟨hx, hb, hml, hown, hts⟩ (n_X12_endOf l dC dI ad cA adK adV H.size σ6 hIσ6 p0 p1 hh0 hh1 hh2 hh3) (cwV 2 hts gX12_laysPeriod_X12_endOf rfl rfl rfl (by decide +kernel) ⟨Nat.le_of_ble_eq_true rfl, Nat.le_of_ble_eq_true rfl⟩) ⟨gBlind, va_recv hK hP (ci := 11) (q0 := 0) rfl (mat_11 rfl), gStart (As := [.ref (ad 0), .int p0, .int p1]) hP hD hK0 hT hS hF (d_26)⟩ rfl rfl hl.1 rfl (lv_room (Nat.le_of_ble_eq_true rfl)) dX12_laysPeriod_73 ⟨Nat.le_of_ble_eq_true rfl, Nat.le_of_ble_eq_true rfl⟩) hS (fun q _ h => hF q h) hF (fun r_28 σ8 t H locs ht hvm hw hB hz1 hk1 hS d_29 hd0 => ?_)
    have hts := dr_words hts0 (d_29)
    have hK := gKd hK0 (d_29)
    have hown : (s.setDrawn (d_29)).vm.findClass RX12 = some m.cls := hown0
    obtain ⟨hP, hD⟩ := gBack hF ht hB
    obtain ⟨hIσ8, hro, hp_30⟩ := hw
    subst hro
    have eo_31 : ∀ j : Nat, (j : Int) = 82 * p0.toInt + p1.toInt → r_28 = (σ 18).1 j := fun j hj => by have h7 := hp_30.2.2 j hj; rw [eσ6, gI_ne _ _ _ (by decide), eσ3, gI_ne _ _ _ (by decide)] at h7; exact h7
    have hF := gFree hD hS hA
    refine va_callvD hd0 (va_runV_D (As := [.int p0, .int r_25, .int r_28]) (rest := []) ⟨hx, hb, hml, hown, hts⟩ (n_X12_counts l dC dI ad cA adK adV H.size σ6 hIσ6 p0 r_25 r_28 hh0 hh1 (GridOK.cells hh4 (by rw [eσ6, gI_ne _ _ _ (by decide), eσ3, gI_ne _ _ _ (by decide)]) (by rw [eσ6, gI_ne _ _ _ (by decide), eσ3, gI_ne _ _ _ (by decide)]))) (cwV 3 hts gX12_laysPeriod_X12_counts rfl rfl rfl (by decide +kernel) ⟨Nat.le_of_ble_eq_true rfl, Nat.le_of_ble_eq_true rfl⟩) ⟨gBlind, va_recv hK hP (ci := 11) (q0 := 0) rfl (mat_11 rfl), gStart (As := [.ref (ad 0), .int p0, .int r_25, .int r_28]) hP hD hK0 hT hS hF (d_29)⟩ rfl rfl hl.1 rfl (lv_room (Nat.le_of_ble_eq_true rfl)) dX12_laysPeriod_76 ⟨Nat.le_of_ble_eq_true rfl, Nat.le_of_ble_eq_true rfl⟩) hS (fun q _ h => hF q h) hF (fun σ9 t H locs ht hvm hw hB hz1 hk1 hS d_33 hd0 => ?_)
    have hts := dr_words hts0 (d_33)
    have hK := gKd hK0 (d_33)
    have hown : (s.setDrawn (d_33)).vm.findClass RX12 = some m.cls := hown0
    obtain ⟨hP, hD⟩ := gBack hF ht hB
    obtain ⟨hIσ9, fcσ9, hp_34⟩ := hw
    refine lv_aload_n hx hb dX12_laysPeriod_79 rfl (lv_at hl 1 rfl) ?_
    refine va_get (D := (dC, dI)) (ci := 11) (v := .ref (ad 21)) (C := RX12) (T := TX12) (N := 69) hx hb hts hinX12 hown hK hP 0 (mat_11 rfl) rfl 43 (by decide) (hts (.fieldLink RX12 76 "BondCalendarsModel" "fractionOf" "[D") (by decide +kernel)) (fun _ h9 => h9) rfl dX12_laysPeriod_80 ?_
    refine lv_bipush (v := 82) hx hb dX12_laysPeriod_83 (by decide) ?_
    refine lv_iload_n hx hb dX12_laysPeriod_85 rfl (lv_at hl 2 rfl) ?_
    refine lv_imul hx hb dX12_laysPeriod_86 ?_
    refine lv_topi (fun x_35 ex_35 => ?_)
    refine lv_iload_n hx hb dX12_laysPeriod_87 rfl (lv_at hl 3 rfl) ?_
    refine lv_iadd hx hb dX12_laysPeriod_88 ?_
    refine lv_topi (fun x_36 ex_36 => ?_)
    refine lv_aload_n hx hb dX12_laysPeriod_89 rfl (lv_at hl 1 rfl) ?_
    have hF := gFree hD hS hA
    refine va_calldD hd0 (va_runV_D (As := []) (rest := [.int x_36, .ref (ad 21)]) ⟨hx, hb, hml, hown, hts⟩ (n_X12_asDouble l dC dI ad cA adK adV H.size σ9 hIσ9 ) (cwV 0 hts gX12_laysPeriod_X12_asDouble rfl rfl rfl (by decide +kernel) ⟨Nat.le_of_ble_eq_true rfl, Nat.le_of_ble_eq_true rfl⟩) ⟨gBlind, va_recv hK hP (ci := 11) (q0 := 0) rfl (mat_11 rfl), gStart (As := [.ref (ad 0)]) hP hD hK0 hT hS hF (d_33)⟩ rfl rfl hl.1 rfl (lv_room (Nat.le_of_ble_eq_true rfl)) dX12_laysPeriod_90 ⟨Nat.le_of_ble_eq_true rfl, Nat.le_of_ble_eq_true rfl⟩) hS (fun q _ h => hF q h) hF (fun r_37 σ10 t H locs ht hvm hw hB hz1 hk1 hS d_38 hd0 => ?_)
    have hts := dr_words hts0 (d_38)
    have hK := gKd hK0 (d_38)
    have hown : (s.setDrawn (d_38)).vm.findClass RX12 = some m.cls := hown0
    obtain ⟨hP, hD⟩ := gBack hF ht hB
    obtain ⟨hIσ10, hro, hp_39⟩ := hw
    subst hro
    have hi_40 : vp_in x_36 328 := by have ab1 : (0 : Int) ≤ p0.toInt := Int32.le_iff_toInt_le.mp hh0; have ab2 : p0.toInt ≤ (3 : Int) := Int32.le_iff_toInt_le.mp (gl2 (b := 3) hh1 (by decide)); have tt3 : x_35.toInt = (82 * p0.toInt) := (by rw [ex_35]; exact i3_mul (a := (82 : Int32)) (b := p0) (x := 82) (y := p0.toInt) rfl rfl (by omega) (by omega)); have ab4 : (0 : Int) ≤ p1.toInt := Int32.le_iff_toInt_le.mp hh2; have ab5 : p1.toInt ≤ (81 : Int) := Int32.le_iff_toInt_le.mp (gl2 (b := 81) hh3 (by decide)); have tt6 : x_36.toInt = ((82 * p0.toInt) + p1.toInt) := (by rw [ex_36]; exact i3_add (a := x_35) (b := p1) (x := (82 * p0.toInt)) (y := p1.toInt) tt3 rfl (by omega) (by omega)); have z0 : (0 : Int32).toInt = 0 := (by decide); have zn : (328 : Int32).toInt = 328 := (by decide); exact gin (N := 328) (by decide) (Int32.le_iff_toInt_le.mpr (by omega)) (Int32.lt_iff_toInt_lt.mpr (by omega))
    refine va_dast hx hb hK hP hD hS 21 21 (mat_61 rfl) (mty_61 rfl) hi_40 dX12_laysPeriod_93 (fun H locs hP hD hS => ?_)
    obtain ⟨σ11, eσ11, hP, hD⟩ := gPut (mse_61 rfl) hP hD
    have hIσ11 : InvM σ11 := by rw [eσ11]; exact minv_D hIσ9
    have frσ11 : mFr [59, 60, 61, 62] [] σ σ11 := by rw [eσ11]; exact mFr.aD (mFr.tr frσ6 fcσ9 (by decide) (by decide)) (by decide) (by decide)
    refine lv_aload_n hx hb dX12_laysPeriod_94 rfl (lv_at hl 1 rfl) ?_
    refine lv_aload_n hx hb dX12_laysPeriod_95 rfl (lv_at hl 1 rfl) ?_
    refine va_get (D := (dC, dI)) (ci := 11) (v := .ref (ad 1)) (C := RX12) (T := TX12) (N := 69) hx hb hts hinX12 hown hK hP 0 (mat_11 rfl) rfl 5 (by decide) (hts (.fieldLink RX12 13 "BondCalendarsModel" "rate" "[I") (by decide +kernel)) (fun _ h9 => h9) rfl dX12_laysPeriod_96 ?_
    refine lv_iload_n hx hb dX12_laysPeriod_99 rfl (lv_at hl 2 rfl) ?_
    refine va_iald hx hb hK hP 1 1 (mat_41 rfl) (mty_41 rfl) (gin (N := 8) (by decide) hh0 (Int32.lt_trans hh1 (show (4 : Int32) < 8 by decide))) dX12_laysPeriod_100 ?_
    refine lv_topi (fun x_41 ex_41 => ?_)
    have ex_41 : x_41 = ((σ 1).1 p0.toNatClampNeg) := by rw [ex_41, eσ11, gD_ne _ _ _ (by decide), fcσ9.1 1 (by decide) (by decide), eσ6, gI_ne _ _ _ (by decide), eσ3, gI_ne _ _ _ (by decide)]
    refine lv_i2l hx hb dX12_laysPeriod_101 rfl ?_
    refine lv_ldc2 (v := 100) hx hb hown (hts (.constantLong RX12 408 (100)) (by decide +kernel)) dX12_laysPeriod_102 ?_
    have hF := gFree hD hS hA
    refine va_callvD hd0 (va_runV_D (As := [.long (x_41.toInt64), .long 100]) (rest := []) ⟨hx, hb, hml, hown, hts⟩ (n_X12_times l dC dI ad cA adK adV H.size σ11 hIσ11 (x_41.toInt64) 100 (tm_100 (by rw [eσ11, gD_ne _ _ _ (by decide)]; exact hp_34))) (cwV 2 hts gX12_laysPeriod_X12_times rfl rfl rfl (by decide +kernel) ⟨Nat.le_of_ble_eq_true rfl, Nat.le_of_ble_eq_true rfl⟩) ⟨gBlind, va_recv hK hP (ci := 11) (q0 := 0) rfl (mat_11 rfl), gStart (As := [.ref (ad 0), .long (x_41.toInt64), .long 100]) hP hD hK0 hT hS hF (d_38)⟩ rfl rfl hl.1 rfl (lv_room (Nat.le_of_ble_eq_true rfl)) dX12_laysPeriod_105 ⟨Nat.le_of_ble_eq_true rfl, Nat.le_of_ble_eq_true rfl⟩) hS (fun q _ h => hF q h) hF (fun σ12 t H locs ht hvm hw hB hz1 hk1 hS d_43 hd0 => ?_)
    have hts := dr_words hts0 (d_43)
    have hK := gKd hK0 (d_43)
    have hown : (s.setDrawn (d_43)).vm.findClass RX12 = some m.cls := hown0
    obtain ⟨hP, hD⟩ := gBack hF ht hB
    obtain ⟨hIσ12, fcσ12, hp_44⟩ := hw
    refine lv_aload_n hx hb dX12_laysPeriod_108 rfl (lv_at hl 1 rfl) ?_
    refine va_get (D := (dC, dI)) (ci := 11) (v := .ref (ad 22)) (C := RX12) (T := TX12) (N := 69) hx hb hts hinX12 hown hK hP 0 (mat_11 rfl) rfl 44 (by decide) (hts (.fieldLink RX12 80 "BondCalendarsModel" "couponOf" "[D") (by decide +kernel)) (fun _ h9 => h9) rfl dX12_laysPeriod_109 ?_
    refine lv_bipush (v := 82) hx hb dX12_laysPeriod_112 (by decide) ?_
    refine lv_iload_n hx hb dX12_laysPeriod_114 rfl (lv_at hl 2 rfl) ?_
    refine lv_imul hx hb dX12_laysPeriod_115 ?_
    refine lv_topi (fun x_45 ex_45 => ?_)
    refine lv_iload_n hx hb dX12_laysPeriod_116 rfl (lv_at hl 3 rfl) ?_
    refine lv_iadd hx hb dX12_laysPeriod_117 ?_
    refine lv_topi (fun x_46 ex_46 => ?_)
    refine lv_aload_n hx hb dX12_laysPeriod_118 rfl (lv_at hl 1 rfl) ?_
    have hF := gFree hD hS hA
    refine va_calldD hd0 (va_runV_D (As := []) (rest := [.int x_46, .ref (ad 22)]) ⟨hx, hb, hml, hown, hts⟩ (n_X12_asDouble l dC dI ad cA adK adV H.size σ12 hIσ12 ) (cwV 0 hts gX12_laysPeriod_X12_asDouble rfl rfl rfl (by decide +kernel) ⟨Nat.le_of_ble_eq_true rfl, Nat.le_of_ble_eq_true rfl⟩) ⟨gBlind, va_recv hK hP (ci := 11) (q0 := 0) rfl (mat_11 rfl), gStart (As := [.ref (ad 0)]) hP hD hK0 hT hS hF (d_43)⟩ rfl rfl hl.1 rfl (lv_room (Nat.le_of_ble_eq_true rfl)) dX12_laysPeriod_119 ⟨Nat.le_of_ble_eq_true rfl, Nat.le_of_ble_eq_true rfl⟩) hS (fun q _ h => hF q h) hF (fun r_47 σ13 t H locs ht hvm hw hB hz1 hk1 hS d_48 hd0 => ?_)
    have hts := dr_words hts0 (d_48)
    have hK := gKd hK0 (d_48)
    have hown : (s.setDrawn (d_48)).vm.findClass RX12 = some m.cls := hown0
    obtain ⟨hP, hD⟩ := gBack hF ht hB
    obtain ⟨hIσ13, hro, hp_49⟩ := hw
    subst hro
    have hi_50 : vp_in x_46 328 := by have ab1 : (0 : Int) ≤ p0.toInt := Int32.le_iff_toInt_le.mp hh0; have ab2 : p0.toInt ≤ (3 : Int) := Int32.le_iff_toInt_le.mp (gl2 (b := 3) hh1 (by decide)); have tt3 : x_45.toInt = (82 * p0.toInt) := (by rw [ex_45]; exact i3_mul (a := (82 : Int32)) (b := p0) (x := 82) (y := p0.toInt) rfl rfl (by omega) (by omega)); have ab4 : (0 : Int) ≤ p1.toInt := Int32.le_iff_toInt_le.mp hh2; have ab5 : p1.toInt ≤ (81 : Int) := Int32.le_iff_toInt_le.mp (gl2 (b := 81) hh3 (by decide)); have tt6 : x_46.toInt = ((82 * p0.toInt) + p1.toInt) := (by rw [ex_46]; exact i3_add (a := x_45) (b := p1) (x := (82 * p0.toInt)) (y := p1.toInt) tt3 rfl (by omega) (by omega)); have z0 : (0 : Int32).toInt = 0 := (by decide); have zn : (328 : Int32).toInt = 328 := (by decide); exact gin (N := 328) (by decide) (Int32.le_iff_toInt_le.mpr (by omega)) (Int32.lt_iff_toInt_lt.mpr (by omega))
    refine va_dast hx hb hK hP hD hS 22 22 (mat_62 rfl) (mty_62 rfl) hi_50 dX12_laysPeriod_122 (fun H locs hP hD hS => ?_)
    obtain ⟨σ14, eσ14, hP, hD⟩ := gPut (mse_62 rfl) hP hD
    have hIσ14 : InvM σ14 := by rw [eσ14]; exact minv_D hIσ12
    have frσ14 : mFr [59, 60, 61, 62] [] σ σ14 := by rw [eσ14]; exact mFr.aD (mFr.tr frσ11 fcσ12 (by decide) (by decide)) (by decide) (by decide)
    refine W.endD hd0 ?_
    exact W.vret hx hb hr (fun t ht hW => ⟨⟨σ14, rfl, ⟨hIσ14, frσ14, trivial⟩, ⟨by rw [ht]; exact hP, hD⟩⟩, hS.F ht⟩) hS.2.2 dX12_laysPeriod_123
  · refine lv_iload_n hx hb dX12_laysPeriod_51 rfl (lv_at hl 0 rfl) ?_
    refine lv_goto (tgt := 61) hx hb dX12_laysPeriod_52 (by decide) ?_
    have hi_51 : vp_in x_16 328 := by have ab1 : (0 : Int) ≤ p0.toInt := Int32.le_iff_toInt_le.mp hh0; have ab2 : p0.toInt ≤ (3 : Int) := Int32.le_iff_toInt_le.mp (gl2 (b := 3) hh1 (by decide)); have tt3 : x_15.toInt = (82 * p0.toInt) := (by rw [ex_15]; exact i3_mul (a := (82 : Int32)) (b := p0) (x := 82) (y := p0.toInt) rfl rfl (by omega) (by omega)); have ab4 : (0 : Int) ≤ p1.toInt := Int32.le_iff_toInt_le.mp hh2; have ab5 : p1.toInt ≤ (81 : Int) := Int32.le_iff_toInt_le.mp (gl2 (b := 81) hh3 (by decide)); have tt6 : x_16.toInt = ((82 * p0.toInt) + p1.toInt) := (by rw [ex_16]; exact i3_add (a := x_15) (b := p1) (x := (82 * p0.toInt)) (y := p1.toInt) tt3 rfl (by omega) (by omega)); have z0 : (0 : Int32).toInt = 0 := (by decide); have zn : (328 : Int32).toInt = 328 := (by decide); exact gin (N := 328) (by decide) (Int32.le_iff_toInt_le.mpr (by omega)) (Int32.lt_iff_toInt_lt.mpr (by omega))
    refine va_iast hx hb hK hP hD hS 20 20 (mat_60 rfl) (mty_60 rfl) hi_51 dX12_laysPeriod_61 (fun H locs hP hD hS => ?_)
    obtain ⟨σ15, eσ15, hP, hD⟩ := gPut (mse_60 rfl) hP hD
    have hIσ15 : InvM σ15 := by rw [eσ15]; exact minv_I hIσ3 (mok_60 rfl _ _ ⟨(Int32.le_of_lt (Int32.lt_of_lt_of_le (show ((-1000) : Int32) < (-400) by decide) (day_gl pu_6 hp_3.1 hp_3.2.1).1)), (Int32.le_of_lt (Int32.lt_of_le_of_lt (day_gl pu_6 hp_3.1 hp_3.2.1).2 (show (1200000 : Int32) < 4000000 by decide)))⟩)
    have frσ15 : mFr [59, 60, 61, 62] [] σ σ15 := by rw [eσ15]; exact mFr.aI frσ3 (by decide) (by decide)
    refine lv_aload_n hx hb dX12_laysPeriod_62 rfl (lv_at hl 1 rfl) ?_
    refine lv_iload_n hx hb dX12_laysPeriod_63 rfl (lv_at hl 2 rfl) ?_
    refine lv_aload_n hx hb dX12_laysPeriod_64 rfl (lv_at hl 1 rfl) ?_
    refine lv_iload_n hx hb dX12_laysPeriod_65 rfl (lv_at hl 2 rfl) ?_
    refine lv_iload_n hx hb dX12_laysPeriod_66 rfl (lv_at hl 3 rfl) ?_
    have hF := gFree hD hS hA
    refine va_calliD hd0 (va_runV_D (As := [.int p0, .int p1]) (rest := [.int p0, .ref (ad 0)]) ⟨hx, hb, hml, hown, hts⟩ (n_X12_startOf l dC dI ad cA adK adV H.size σ15 hIσ15 p0 p1 hh0 hh1 hh2 hh3) (cwV 2 hts gX12_laysPeriod_X12_startOf rfl rfl rfl (by decide +kernel) ⟨Nat.le_of_ble_eq_true rfl, Nat.le_of_ble_eq_true rfl⟩) ⟨gBlind, va_recv hK hP (ci := 11) (q0 := 0) rfl (mat_11 rfl), gStart (As := [.ref (ad 0), .int p0, .int p1]) hP hD hK0 hT hS hF (d_18)⟩ rfl rfl hl.1 rfl (lv_room (Nat.le_of_ble_eq_true rfl)) dX12_laysPeriod_67 ⟨Nat.le_of_ble_eq_true rfl, Nat.le_of_ble_eq_true rfl⟩) hS (fun q _ h => hF q h) hF (fun r_52 σ16 t H locs ht hvm hw hB hz1 hk1 hS d_53 hd0 => ?_)
    have hts := dr_words hts0 (d_53)
    have hK := gKd hK0 (d_53)
    have hown : (s.setDrawn (d_53)).vm.findClass RX12 = some m.cls := hown0
    obtain ⟨hP, hD⟩ := gBack hF ht hB
    obtain ⟨hIσ16, hro, hp_54⟩ := hw
    subst hro
    refine lv_aload_n hx hb dX12_laysPeriod_70 rfl (lv_at hl 1 rfl) ?_
    refine lv_iload_n hx hb dX12_laysPeriod_71 rfl (lv_at hl 2 rfl) ?_
    refine lv_iload_n hx hb dX12_laysPeriod_72 rfl (lv_at hl 3 rfl) ?_
    have hF := gFree hD hS hA
    refine va_calliD hd0 (va_runV_D (As := [.int p0, .int p1]) (rest := [.int r_52, .int p0, .ref (ad 0)]) ⟨hx, hb, hml, hown, hts⟩ (n_X12_endOf l dC dI ad cA adK adV H.size σ15 hIσ15 p0 p1 hh0 hh1 hh2 hh3) (cwV 2 hts gX12_laysPeriod_X12_endOf rfl rfl rfl (by decide +kernel) ⟨Nat.le_of_ble_eq_true rfl, Nat.le_of_ble_eq_true rfl⟩) ⟨gBlind, va_recv hK hP (ci := 11) (q0 := 0) rfl (mat_11 rfl), gStart (As := [.ref (ad 0), .int p0, .int p1]) hP hD hK0 hT hS hF (d_53)⟩ rfl rfl hl.1 rfl (lv_room (Nat.le_of_ble_eq_true rfl)) dX12_laysPeriod_73 ⟨Nat.le_of_ble_eq_true rfl, Nat.le_of_ble_eq_true rfl⟩) hS (fun q _ h => hF q h) hF (fun r_55 σ17 t H locs ht hvm hw hB hz1 hk1 hS d_56 hd0 => ?_)
    have hts := dr_words hts0 (d_56)
    have hK := gKd hK0 (d_56)
    have hown : (s.setDrawn (d_56)).vm.findClass RX12 = some m.cls := hown0
    obtain ⟨hP, hD⟩ := gBack hF ht hB
    obtain ⟨hIσ17, hro, hp_57⟩ := hw
    subst hro
    have eo_58 : ∀ j : Nat, (j : Int) = 82 * p0.toInt + p1.toInt → r_55 = (σ 18).1 j := fun j hj => by have h7 := hp_57.2.2 j hj; rw [eσ15, gI_ne _ _ _ (by decide), eσ3, gI_ne _ _ _ (by decide)] at h7; exact h7
    have hF := gFree hD hS hA
    refine va_callvD hd0 (va_runV_D (As := [.int p0, .int r_52, .int r_55]) (rest := []) ⟨hx, hb, hml, hown, hts⟩ (n_X12_counts l dC dI ad cA adK adV H.size σ15 hIσ15 p0 r_52 r_55 hh0 hh1 (GridOK.cells hh4 (by rw [eσ15, gI_ne _ _ _ (by decide), eσ3, gI_ne _ _ _ (by decide)]) (by rw [eσ15, gI_ne _ _ _ (by decide), eσ3, gI_ne _ _ _ (by decide)]))) (cwV 3 hts gX12_laysPeriod_X12_counts rfl rfl rfl (by decide +kernel) ⟨Nat.le_of_ble_eq_true rfl, Nat.le_of_ble_eq_true rfl⟩) ⟨gBlind, va_recv hK hP (ci := 11) (q0 := 0) rfl (mat_11 rfl), gStart (As := [.ref (ad 0), .int p0, .int r_52, .int r_55]) hP hD hK0 hT hS hF (d_56)⟩ rfl rfl hl.1 rfl (lv_room (Nat.le_of_ble_eq_true rfl)) dX12_laysPeriod_76 ⟨Nat.le_of_ble_eq_true rfl, Nat.le_of_ble_eq_true rfl⟩) hS (fun q _ h => hF q h) hF (fun σ18 t H locs ht hvm hw hB hz1 hk1 hS d_60 hd0 => ?_)
    have hts := dr_words hts0 (d_60)
    have hK := gKd hK0 (d_60)
    have hown : (s.setDrawn (d_60)).vm.findClass RX12 = some m.cls := hown0
    obtain ⟨hP, hD⟩ := gBack hF ht hB
    obtain ⟨hIσ18, fcσ18, hp_61⟩ := hw
    refine lv_aload_n hx hb dX12_laysPeriod_79 rfl (lv_at hl 1 rfl) ?_
    refine va_get (D := (dC, dI)) (ci := 11) (v := .ref (ad 21)) (C := RX12) (T := TX12) (N := 69) hx hb hts hinX12 hown hK hP 0 (mat_11 rfl) rfl 43 (by decide) (hts (.fieldLink RX12 76 "BondCalendarsModel" "fractionOf" "[D") (by decide +kernel)) (fun _ h9 => h9) rfl dX12_laysPeriod_80 ?_
    refine lv_bipush (v := 82) hx hb dX12_laysPeriod_83 (by decide) ?_
    refine lv_iload_n hx hb dX12_laysPeriod_85 rfl (lv_at hl 2 rfl) ?_
    refine lv_imul hx hb dX12_laysPeriod_86 ?_
    refine lv_topi (fun x_62 ex_62 => ?_)
    refine lv_iload_n hx hb dX12_laysPeriod_87 rfl (lv_at hl 3 rfl) ?_
    refine lv_iadd hx hb dX12_laysPeriod_88 ?_
    refine lv_topi (fun x_63 ex_63 => ?_)
    refine lv_aload_n hx hb dX12_laysPeriod_89 rfl (lv_at hl 1 rfl) ?_
    have hF := gFree hD hS hA
    refine va_calldD hd0 (va_runV_D (As := []) (rest := [.int x_63, .ref (ad 21)]) ⟨hx, hb, hml, hown, hts⟩ (n_X12_asDouble l dC dI ad cA adK adV H.size σ18 hIσ18 ) (cwV 0 hts gX12_laysPeriod_X12_asDouble rfl rfl rfl (by decide +kernel) ⟨Nat.le_of_ble_eq_true rfl, Nat.le_of_ble_eq_true rfl⟩) ⟨gBlind, va_recv hK hP (ci := 11) (q0 := 0) rfl (mat_11 rfl), gStart (As := [.ref (ad 0)]) hP hD hK0 hT hS hF (d_60)⟩ rfl rfl hl.1 rfl (lv_room (Nat.le_of_ble_eq_true rfl)) dX12_laysPeriod_90 ⟨Nat.le_of_ble_eq_true rfl, Nat.le_of_ble_eq_true rfl⟩) hS (fun q _ h => hF q h) hF (fun r_64 σ19 t H locs ht hvm hw hB hz1 hk1 hS d_65 hd0 => ?_)
    have hts := dr_words hts0 (d_65)
    have hK := gKd hK0 (d_65)
    have hown : (s.setDrawn (d_65)).vm.findClass RX12 = some m.cls := hown0
    obtain ⟨hP, hD⟩ := gBack hF ht hB
    obtain ⟨hIσ19, hro, hp_66⟩ := hw
    subst hro
    have hi_67 : vp_in x_63 328 := by have ab1 : (0 : Int) ≤ p0.toInt := Int32.le_iff_toInt_le.mp hh0; have ab2 : p0.toInt ≤ (3 : Int) := Int32.le_iff_toInt_le.mp (gl2 (b := 3) hh1 (by decide)); have tt3 : x_62.toInt = (82 * p0.toInt) := (by rw [ex_62]; exact i3_mul (a := (82 : Int32)) (b := p0) (x := 82) (y := p0.toInt) rfl rfl (by omega) (by omega)); have ab4 : (0 : Int) ≤ p1.toInt := Int32.le_iff_toInt_le.mp hh2; have ab5 : p1.toInt ≤ (81 : Int) := Int32.le_iff_toInt_le.mp (gl2 (b := 81) hh3 (by decide)); have tt6 : x_63.toInt = ((82 * p0.toInt) + p1.toInt) := (by rw [ex_63]; exact i3_add (a := x_62) (b := p1) (x := (82 * p0.toInt)) (y := p1.toInt) tt3 rfl (by omega) (by omega)); have z0 : (0 : Int32).toInt = 0 := (by decide); have zn : (328 : Int32).toInt = 328 := (by decide); exact gin (N := 328) (by decide) (Int32.le_iff_toInt_le.mpr (by omega)) (Int32.lt_iff_toInt_lt.mpr (by omega))
    refine va_dast hx hb hK hP hD hS 21 21 (mat_61 rfl) (mty_61 rfl) hi_67 dX12_laysPeriod_93 (fun H locs hP hD hS => ?_)
    obtain ⟨σ20, eσ20, hP, hD⟩ := gPut (mse_61 rfl) hP hD
    have hIσ20 : InvM σ20 := by rw [eσ20]; exact minv_D hIσ18
    have frσ20 : mFr [59, 60, 61, 62] [] σ σ20 := by rw [eσ20]; exact mFr.aD (mFr.tr frσ15 fcσ18 (by decide) (by decide)) (by decide) (by decide)
    refine lv_aload_n hx hb dX12_laysPeriod_94 rfl (lv_at hl 1 rfl) ?_
    refine lv_aload_n hx hb dX12_laysPeriod_95 rfl (lv_at hl 1 rfl) ?_
    refine va_get (D := (dC, dI)) (ci := 11) (v := .ref (ad 1)) (C := RX12) (T := TX12) (N := 69) hx hb hts hinX12 hown hK hP 0 (mat_11 rfl) rfl 5 (by decide) (hts (.fieldLink RX12 13 "BondCalendarsModel" "rate" "[I") (by decide +kernel)) (fun _ h9 => h9) rfl dX12_laysPeriod_96 ?_
    refine lv_iload_n hx hb dX12_laysPeriod_99 rfl (lv_at hl 2 rfl) ?_
    refine va_iald hx hb hK hP 1 1 (mat_41 rfl) (mty_41 rfl) (gin (N := 8) (by decide) hh0 (Int32.lt_trans hh1 (show (4 : Int32) < 8 by decide))) dX12_laysPeriod_100 ?_
    refine lv_topi (fun x_68 ex_68 => ?_)
    have ex_68 : x_68 = ((σ 1).1 p0.toNatClampNeg) := by rw [ex_68, eσ20, gD_ne _ _ _ (by decide), fcσ18.1 1 (by decide) (by decide), eσ15, gI_ne _ _ _ (by decide), eσ3, gI_ne _ _ _ (by decide)]
    refine lv_i2l hx hb dX12_laysPeriod_101 rfl ?_
    refine lv_ldc2 (v := 100) hx hb hown (hts (.constantLong RX12 408 (100)) (by decide +kernel)) dX12_laysPeriod_102 ?_
    have hF := gFree hD hS hA
    refine va_callvD hd0 (va_runV_D (As := [.long (x_68.toInt64), .long 100]) (rest := []) ⟨hx, hb, hml, hown, hts⟩ (n_X12_times l dC dI ad cA adK adV H.size σ20 hIσ20 (x_68.toInt64) 100 (tm_100 (by rw [eσ20, gD_ne _ _ _ (by decide)]; exact hp_61))) (cwV 2 hts gX12_laysPeriod_X12_times rfl rfl rfl (by decide +kernel) ⟨Nat.le_of_ble_eq_true rfl, Nat.le_of_ble_eq_true rfl⟩) ⟨gBlind, va_recv hK hP (ci := 11) (q0 := 0) rfl (mat_11 rfl), gStart (As := [.ref (ad 0), .long (x_68.toInt64), .long 100]) hP hD hK0 hT hS hF (d_65)⟩ rfl rfl hl.1 rfl (lv_room (Nat.le_of_ble_eq_true rfl)) dX12_laysPeriod_105 ⟨Nat.le_of_ble_eq_true rfl, Nat.le_of_ble_eq_true rfl⟩) hS (fun q _ h => hF q h) hF (fun σ21 t H locs ht hvm hw hB hz1 hk1 hS d_70 hd0 => ?_)
    have hts := dr_words hts0 (d_70)
    have hK := gKd hK0 (d_70)
    have hown : (s.setDrawn (d_70)).vm.findClass RX12 = some m.cls := hown0
    obtain ⟨hP, hD⟩ := gBack hF ht hB
    obtain ⟨hIσ21, fcσ21, hp_71⟩ := hw
    refine lv_aload_n hx hb dX12_laysPeriod_108 rfl (lv_at hl 1 rfl) ?_
    refine va_get (D := (dC, dI)) (ci := 11) (v := .ref (ad 22)) (C := RX12) (T := TX12) (N := 69) hx hb hts hinX12 hown hK hP 0 (mat_11 rfl) rfl 44 (by decide) (hts (.fieldLink RX12 80 "BondCalendarsModel" "couponOf" "[D") (by decide +kernel)) (fun _ h9 => h9) rfl dX12_laysPeriod_109 ?_
    refine lv_bipush (v := 82) hx hb dX12_laysPeriod_112 (by decide) ?_
    refine lv_iload_n hx hb dX12_laysPeriod_114 rfl (lv_at hl 2 rfl) ?_
    refine lv_imul hx hb dX12_laysPeriod_115 ?_
    refine lv_topi (fun x_72 ex_72 => ?_)
    refine lv_iload_n hx hb dX12_laysPeriod_116 rfl (lv_at hl 3 rfl) ?_
    refine lv_iadd hx hb dX12_laysPeriod_117 ?_
    refine lv_topi (fun x_73 ex_73 => ?_)
    refine lv_aload_n hx hb dX12_laysPeriod_118 rfl (lv_at hl 1 rfl) ?_
    have hF := gFree hD hS hA
    refine va_calldD hd0 (va_runV_D (As := []) (rest := [.int x_73, .ref (ad 22)]) ⟨hx, hb, hml, hown, hts⟩ (n_X12_asDouble l dC dI ad cA adK adV H.size σ21 hIσ21 ) (cwV 0 hts gX12_laysPeriod_X12_asDouble rfl rfl rfl (by decide +kernel) ⟨Nat.le_of_ble_eq_true rfl, Nat.le_of_ble_eq_true rfl⟩) ⟨gBlind, va_recv hK hP (ci := 11) (q0 := 0) rfl (mat_11 rfl), gStart (As := [.ref (ad 0)]) hP hD hK0 hT hS hF (d_70)⟩ rfl rfl hl.1 rfl (lv_room (Nat.le_of_ble_eq_true rfl)) dX12_laysPeriod_119 ⟨Nat.le_of_ble_eq_true rfl, Nat.le_of_ble_eq_true rfl⟩) hS (fun q _ h => hF q h) hF (fun r_74 σ22 t H locs ht hvm hw hB hz1 hk1 hS d_75 hd0 => ?_)
    have hts := dr_words hts0 (d_75)
    have hK := gKd hK0 (d_75)
    have hown : (s.setDrawn (d_75)).vm.findClass RX12 = some m.cls := hown0
    obtain ⟨hP, hD⟩ := gBack hF ht hB
    obtain ⟨hIσ22, hro, hp_76⟩ := hw
    subst hro
    have hi_77 : vp_in x_73 328 := by have ab1 : (0 : Int) ≤ p0.toInt := Int32.le_iff_toInt_le.mp hh0; have ab2 : p0.toInt ≤ (3 : Int) := Int32.le_iff_toInt_le.mp (gl2 (b := 3) hh1 (by decide)); have tt3 : x_72.toInt = (82 * p0.toInt) := (by rw [ex_72]; exact i3_mul (a := (82 : Int32)) (b := p0) (x := 82) (y := p0.toInt) rfl rfl (by omega) (by omega)); have ab4 : (0 : Int) ≤ p1.toInt := Int32.le_iff_toInt_le.mp hh2; have ab5 : p1.toInt ≤ (81 : Int) := Int32.le_iff_toInt_le.mp (gl2 (b := 81) hh3 (by decide)); have tt6 : x_73.toInt = ((82 * p0.toInt) + p1.toInt) := (by rw [ex_73]; exact i3_add (a := x_72) (b := p1) (x := (82 * p0.toInt)) (y := p1.toInt) tt3 rfl (by omega) (by omega)); have z0 : (0 : Int32).toInt = 0 := (by decide); have zn : (328 : Int32).toInt = 328 := (by decide); exact gin (N := 328) (by decide) (Int32.le_iff_toInt_le.mpr (by omega)) (Int32.lt_iff_toInt_lt.mpr (by omega))
    refine va_dast hx hb hK hP hD hS 22 22 (mat_62 rfl) (mty_62 rfl) hi_77 dX12_laysPeriod_122 (fun H locs hP hD hS => ?_)
    obtain ⟨σ23, eσ23, hP, hD⟩ := gPut (mse_62 rfl) hP hD
    have hIσ23 : InvM σ23 := by rw [eσ23]; exact minv_D hIσ21
    have frσ23 : mFr [59, 60, 61, 62] [] σ σ23 := by rw [eσ23]; exact mFr.aD (mFr.tr frσ20 fcσ21 (by decide) (by decide)) (by decide) (by decide)
    refine W.endD hd0 ?_
    exact W.vret hx hb hr (fun t ht hW => ⟨⟨σ23, rfl, ⟨hIσ23, frσ23, trivial⟩, ⟨by rw [ht]; exact hP, hD⟩⟩, hS.F ht⟩) hS.2.2 dX12_laysPeriod_123
set_option maxHeartbeats 8000000 in
set_option maxRecDepth 100000 in
theorem n_X12_laysPeriods (l : Launch) (dC : Nat → ClassId) (dI : Nat → Nat → Nat) (ad : Nat → Nat) (cA : Nat → ClassId) (adK adV : Nat → Nat) (sz : Nat) (σ : gs) (hI : InvM σ) (p0 : Int32) (hh0 : 0 ≤ p0) (hh1 : p0 < 4) (hh2 : GridOK σ p0.toNatClampNeg) (hh3 : mRow σ p0.toNatClampNeg) : MetD lw_cs l yX12_laysPeriods wsX12_laysPeriods ({ frames := 6, cells := 0, slots := 0, locals := 133 }) (va_Pc [.ref (ad 0), .int p0] (gPre adK adV (dC, dI) (wM ad cA σ) (tM cA) sz)) (va_Qv (fun (τ : gs) => InvM τ ∧ mFr [57, 58, 59, 60, 61, 62] [] σ τ ∧ (EndOK τ p0.toNatClampNeg ∧ PP σ τ p0.toNatClampNeg)) (fun τ t => gPost (dC, dI) (va_A (wM ad cA σ) sz) (wM ad cA τ) t) (va_A (wM ad cA σ) sz)) 0 0 (va_A (wM ad cA σ) sz) := by
  refine MetD.ofW (cc := cX12_laysPeriods) (maxL := 4) (ret := none) (by decide) rfl ?_
  intro p e s m args below meth c s₁ B hml hv hd0
  obtain ⟨rfl, hsz, hP, hK, hD0, hT⟩ := hv
  have hx := B.exec
  have hb := B.bytes
  have hr := B.returns
  have hts0 := atoms_spec (ws := wsX12_laysPeriods) B.pre
  have hK0 := hK
  have hown0 : s.vm.findClass RX12 = some m.cls := findClass_of_methodNamed B.named
  have hlocks := B.notSynchronized
  have hinX12 : ∀ w ∈ u_ws RX12 TX12 69, w ∈ wsX12_laysPeriods := (fun _ h9 => List.mem_cons_of_mem _ (List.mem_append_right _ h9))
  subst hsz
  have hD := hD0.self (sz := s.heap.size)
  generalize hAe : va_A (wM ad cA σ) s.heap.size = A at hD hT ⊢
  have hA : ∀ q : Nat, s.heap.size ≤ q → A q := fun q h => by rw [← hAe]; exact Or.inr h
  have hS : va_S A s.heap s.heap [] := va_S.rf
  have hl := lv_entry ([.ref (ad 0), .int p0]) (n := 4) (Nat.le_of_ble_eq_true rfl)
  rw [lg_entry_eq]
  generalize (lg_sl ([.ref (ad 0), .int p0]) ++ List.replicate (4 - (lg_sl ([.ref (ad 0), .int p0])).length) Slot.unset).toArray = ls at hl ⊢
  have hl : lv_has ls 4 [(0, .ref (ad 0)), (1, .int p0)] := hl
  have hts := dr_words hts0 (s.drawn)
  have hK := gKd hK0 (s.drawn)
  have hown : (s.setDrawn (s.drawn)).vm.findClass RX12 = some m.cls := hown0
  refine lv_aload_n hx hb dX12_laysPeriods_0 rfl (lv_at hl 0 rfl) ?_
  refine va_get (D := (dC, dI)) (ci := 11) (v := .ref (ad 17)) (C := RX12) (T := TX12) (N := 69) hx hb hts hinX12 hown hK hP 0 (mat_11 rfl) rfl 39 (by decide) (hts (.fieldLink RX12 64 "BondCalendarsModel" "periodMany" "[I") (by decide +kernel)) (fun _ h9 => h9) rfl dX12_laysPeriods_1 ?_
  refine lv_iload_n hx hb dX12_laysPeriods_4 rfl (lv_at hl 1 rfl) ?_
  refine lv_iconst (v := 0) hx hb dX12_laysPeriods_5 (by decide) ?_
  refine va_iast hx hb hK hP hD hS 17 17 (mat_57 rfl) (mty_57 rfl) (gin (N := 4) (by decide) hh0 hh1) dX12_laysPeriods_6 (fun H locs hP hD hS => ?_)
  obtain ⟨σ1, eσ1, hP, hD⟩ := gPut (mse_57 rfl) hP hD
  have hIσ1 : InvM σ1 := by rw [eσ1]; exact minv_I hI (mok_57 rfl _ _ ⟨(show (0 : Int32) ≤ 0 by decide), (show (0 : Int32) ≤ 82 by decide)⟩)
  have frσ1 : mFr [57, 58, 59, 60, 61, 62] [] σ σ1 := by rw [eσ1]; exact mFr.aI (mFr.rfl (L := [57, 58, 59, 60, 61, 62]) (F := []) (σ := σ)) (by decide) (by decide)
  refine lv_bipush (v := (-80)) hx hb dX12_laysPeriods_7 (by decide) ?_
  refine lv_istore_n (lv' := [(2, .int (-80)), (0, .ref (ad 0)), (1, .int p0)]) hx hb dX12_laysPeriods_9 rfl hl (by decide) rfl (fun ls hl => ?_)
  refine (fun (h : ∀ (n : Nat) (k2 : Int32) (σ10x : gs) (d10 : Drawn) (H : Heap) (locs : List Loc) (ls : Array Slot), ((1 : Int32).toInt - k2.toInt).toNat < n → (-80) ≤ k2 → k2 ≤ 1 → LPr σ σ10x p0.toNatClampNeg k2 → InvM σ10x → mFr [57, 58, 59, 60, 61, 62] [] σ σ10x → s.drawn.sameBut d10 lw_cs → va_P (dC, dI) vwCl (wM ad cA σ10x) H → va_D A (wM ad cA σ10x) → va_S A s.heap H locs → lv_has ls 4 [(2, .int k2), (0, .ref (ad 0)), (1, .int p0)] → W p l e _ (s.setDrawn d10) m _ below meth c H locs _ _ _ (F0 m 10 ls [])) => h _ (-80) σ1 _ _ _ _ (Nat.lt_succ_self _) (by decide) (by decide) (lp_0 (by rw [eσ1, gI_at]) (by rw [eσ1, gI_ne _ _ _ (by decide)])) hIσ1 frσ1 hd0 hP hD hS (lv_sub hl [0, 1, 2] rfl)) ?_
  intro n10
  induction n10 with
  | zero => intro k2 σ10x d10 H locs ls hm; exact absurd hm (Nat.not_lt_zero _)
  | succ n10 ih10 =>
    intro k2 σ10x d10 H locs ls hm10 iv10_0 iv10_1 iv10_2 hIσ10x frσ10x hd0 hP hD hS hl
    have hts := dr_words hts0 (d10)
    have hK := gKd hK0 (d10)
    have hown : (s.setDrawn (d10)).vm.findClass RX12 = some m.cls := hown0
    refine lv_iload_n hx hb dX12_laysPeriods_10 rfl (lv_at hl 0 rfl) ?_
    refine lv_if_gt (tgt := 53) hx hb dX12_laysPeriods_11 (by decide) (fun c_1 => ?_) (fun c_1 => ?_)
    · refine lv_aload_n hx hb dX12_laysPeriods_53 rfl (lv_at hl 1 rfl) ?_
      refine va_get (D := (dC, dI)) (ci := 11) (v := .ref (ad 5)) (C := RX12) (T := TX12) (N := 69) hx hb hts hinX12 hown hK hP 0 (mat_11 rfl) rfl 9 (by decide) (hts (.fieldLink RX12 26 "BondCalendarsModel" "anchor" "[I") (by decide +kernel)) (fun _ h9 => h9) rfl dX12_laysPeriods_54 ?_
      refine lv_iload_n hx hb dX12_laysPeriods_57 rfl (lv_at hl 2 rfl) ?_
      refine va_iald hx hb hK hP 5 5 (mat_45 rfl) (mty_45 rfl) (gin (N := 8) (by decide) hh0 (Int32.lt_trans hh1 (show (4 : Int32) < 8 by decide))) dX12_laysPeriods_58 ?_
      refine lv_topi (fun x_2 ex_2 => ?_)
      have ex_2 : x_2 = ((σ 5).1 p0.toNatClampNeg) := by rw [ex_2, frσ10x.1 5 (by decide) (by decide)]
      refine lv_aload_n hx hb dX12_laysPeriods_59 rfl (lv_at hl 1 rfl) ?_
      refine va_get (D := (dC, dI)) (ci := 11) (v := .ref (ad 4)) (C := RX12) (T := TX12) (N := 69) hx hb hts hinX12 hown hK hP 0 (mat_11 rfl) rfl 8 (by decide) (hts (.fieldLink RX12 23 "BondCalendarsModel" "mature" "[I") (by decide +kernel)) (fun _ h9 => h9) rfl dX12_laysPeriods_60 ?_
      refine lv_iload_n hx hb dX12_laysPeriods_63 rfl (lv_at hl 2 rfl) ?_
      refine va_iald hx hb hK hP 4 4 (mat_44 rfl) (mty_44 rfl) (gin (N := 8) (by decide) hh0 (Int32.lt_trans hh1 (show (4 : Int32) < 8 by decide))) dX12_laysPeriods_64 ?_
      refine lv_topi (fun x_3 ex_3 => ?_)
      have ex_3 : x_3 = ((σ 4).1 p0.toNatClampNeg) := by rw [ex_3, frσ10x.1 4 (by decide) (by decide)]
      refine lv_icmp_ge (tgt := 79) hx hb dX12_laysPeriods_65 (by decide) (fun c_4 => ?_) (fun c_4 => ?_)
      · refine lv_iconst (v := 0) hx hb dX12_laysPeriods_79 (by decide) ?_
        refine lv_istore_n (lv' := [(2, .int 0), (0, .ref (ad 0)), (1, .int p0)]) hx hb dX12_laysPeriods_80 rfl hl (by decide) rfl (fun ls hl => ?_)
        refine (fun (h : ∀ (n : Nat) (k3 : Int32) (σ81x : gs) (d81 : Drawn) (H : Heap) (locs : List Loc) (ls : Array Slot), ((82 : Int32).toInt - k3.toInt).toNat < n → 0 ≤ k3 → EndOK σ81x p0.toNatClampNeg → PP σ σ81x p0.toNatClampNeg → InvM σ81x → mFr [57, 58, 59, 60, 61, 62] [] σ σ81x → s.drawn.sameBut d81 lw_cs → va_P (dC, dI) vwCl (wM ad cA σ81x) H → va_D A (wM ad cA σ81x) → va_S A s.heap H locs → lv_has ls 4 [(2, .int k3), (0, .ref (ad 0)), (1, .int p0)] → W p l e _ (s.setDrawn d81) m _ below meth c H locs _ _ _ (F0 m 81 ls [])) => h _ 0 σ10x _ _ _ _ (Nat.lt_succ_self _) (by decide) (lp_end0 iv10_2 (gl1 (b := 1) c_1 (by decide)) hh3 (by rw [frσ10x.1 4 (by decide) (by decide)]) (Int32.not_lt.mpr (Int32.le_trans (Int32.le_trans (eq_le ex_3.symm) c_4) (eq_le ex_2)))) iv10_2.2.1 hIσ10x frσ10x hd0 hP hD hS (lv_sub hl [0, 1, 2] rfl)) ?_
        intro n81
        induction n81 with
        | zero => intro k3 σ81x d81 H locs ls hm; exact absurd hm (Nat.not_lt_zero _)
        | succ n81 ih81 =>
          intro k3 σ81x d81 H locs ls hm81 iv81_0 iv81_1 iv81_2 hIσ81x frσ81x hd0 hP hD hS hl
          have hts := dr_words hts0 (d81)
          have hK := gKd hK0 (d81)
          have hown : (s.setDrawn (d81)).vm.findClass RX12 = some m.cls := hown0
          refine lv_iload_n hx hb dX12_laysPeriods_81 rfl (lv_at hl 0 rfl) ?_
          refine lv_aload_n hx hb dX12_laysPeriods_82 rfl (lv_at hl 1 rfl) ?_
          refine va_get (D := (dC, dI)) (ci := 11) (v := .ref (ad 17)) (C := RX12) (T := TX12) (N := 69) hx hb hts hinX12 hown hK hP 0 (mat_11 rfl) rfl 39 (by decide) (hts (.fieldLink RX12 64 "BondCalendarsModel" "periodMany" "[I") (by decide +kernel)) (fun _ h9 => h9) rfl dX12_laysPeriods_83 ?_
          refine lv_iload_n hx hb dX12_laysPeriods_86 rfl (lv_at hl 2 rfl) ?_
          refine va_iald hx hb hK hP 17 17 (mat_57 rfl) (mty_57 rfl) (gin (N := 4) (by decide) hh0 hh1) dX12_laysPeriods_87 ?_
          refine lv_topi (fun x_5 ex_5 => ?_)
          have bd_6 := mrd_57 (c := 17) hIσ81x rfl p0.toNatClampNeg
          refine lv_icmp_ge (tgt := 103) hx hb dX12_laysPeriods_88 (by decide) (fun c_7 => ?_) (fun c_7 => ?_)
          · refine W.endD hd0 ?_
            exact W.vret hx hb hr (fun t ht hW => ⟨⟨σ81x, rfl, ⟨hIσ81x, frσ81x, ⟨iv81_1, iv81_2⟩⟩, ⟨by rw [ht]; exact hP, hD⟩⟩, hS.F ht⟩) hS.2.2 dX12_laysPeriods_103
          · refine lv_aload_n hx hb dX12_laysPeriods_91 rfl (lv_at hl 1 rfl) ?_
            refine lv_iload_n hx hb dX12_laysPeriods_92 rfl (lv_at hl 2 rfl) ?_
            refine lv_iload_n hx hb dX12_laysPeriods_93 rfl (lv_at hl 0 rfl) ?_
            have hF := gFree hD hS hA
            refine va_callvD hd0 (va_runV_D (As := [.int p0, .int k3]) (rest := []) ⟨hx, hb, hml, hown, hts⟩ (n_X12_laysPeriod l dC dI ad cA adK adV H.size σ81x hIσ81x p0 k3 hh0 hh1 iv81_0 (Int32.lt_of_lt_of_le (Int32.lt_of_lt_of_le (Int32.not_le.mp c_7) (eq_le ex_5)) bd_6.2) (GridOK.cells hh2 (by rw [frσ81x.1 2 (by decide) (by decide)]) (by rw [frσ81x.1 9 (by decide) (by decide)])) (le_ch (Eq.refl _) (show ((σ81x 7).1 p0.toNatClampNeg : Int32) = ((σ 7).1 p0.toNatClampNeg : Int32) from by rw [frσ81x.1 7 (by decide) (by decide)]) hh3.2.2.2.2.2.1) (le_ch (show ((σ81x 7).1 p0.toNatClampNeg : Int32) = ((σ 7).1 p0.toNatClampNeg : Int32) from by rw [frσ81x.1 7 (by decide) (by decide)]) (Eq.refl _) hh3.2.2.2.2.2.2.1)) (cwV 2 hts gX12_laysPeriods_X12_laysPeriod rfl rfl rfl (by decide +kernel) ⟨Nat.le_of_ble_eq_true rfl, Nat.le_of_ble_eq_true rfl⟩) ⟨gBlind, va_recv hK hP (ci := 11) (q0 := 0) rfl (mat_11 rfl), gStart (As := [.ref (ad 0), .int p0, .int k3]) hP hD hK0 hT hS hF (d81)⟩ rfl rfl hl.1 rfl (lv_room (Nat.le_of_ble_eq_true rfl)) dX12_laysPeriods_94 ⟨Nat.le_of_ble_eq_true rfl, Nat.le_of_ble_eq_true rfl⟩) hS (fun q _ h => hF q h) hF (fun σ2 t H locs ht hvm hw hB hz1 hk1 hS d_9 hd0 => ?_)
            have hts := dr_words hts0 (d_9)
            have hK := gKd hK0 (d_9)
            have hown : (s.setDrawn (d_9)).vm.findClass RX12 = some m.cls := hown0
            obtain ⟨hP, hD⟩ := gBack hF ht hB
            obtain ⟨hIσ2, fcσ2, hp_10⟩ := hw
            obtain ⟨x_11, ex_11⟩ : ∃ zz : Int32, zz = k3 + 1 := ⟨_, rfl⟩
            refine lv_iinc (v := x_11) (lv' := [(2, .int x_11), (0, .ref (ad 0)), (1, .int p0)]) hx hb dX12_laysPeriods_97 hl (k := 0) rfl (by rw [ex_11]; rfl) (by decide) rfl (fun ls hl => ?_)
            refine lv_goto (tgt := 81) hx hb dX12_laysPeriods_100 (by decide) ?_
            exact ih81 x_11 σ2 _ _ _ _ (cnt_m iv81_0 (Int32.lt_of_lt_of_le (cnt_lt iv81_0 (Int32.lt_of_lt_of_le (Int32.lt_of_lt_of_le (Int32.not_le.mp c_7) (eq_le ex_5)) bd_6.2) ex_11) (cnt_N iv81_0 (Int32.lt_of_lt_of_le (Int32.lt_of_lt_of_le (Int32.not_le.mp c_7) (eq_le ex_5)) bd_6.2) ex_11)) hm81 ex_11) (cnt_0 iv81_0 (Int32.lt_of_lt_of_le (cnt_lt iv81_0 (Int32.lt_of_lt_of_le (Int32.lt_of_lt_of_le (Int32.not_le.mp c_7) (eq_le ex_5)) bd_6.2) ex_11) (cnt_N iv81_0 (Int32.lt_of_lt_of_le (Int32.lt_of_lt_of_le (Int32.not_le.mp c_7) (eq_le ex_5)) bd_6.2) ex_11)) ex_11) (EndOK.cells iv81_1 (by rw [fcσ2.1 4 (by decide) (by decide)]) (by rw [fcσ2.1 17 (by decide) (by decide)]) (by rw [fcσ2.1 18 (by decide) (by decide)])) (PP.cells iv81_2 (by rw [fcσ2.1 17 (by decide) (by decide)]) (by rw [fcσ2.1 18 (by decide) (by decide)])) hIσ2 (mFr.tr frσ81x fcσ2 (by decide) (by decide)) hd0 hP hD hS (lv_sub hl [0, 1, 2] rfl)
      · refine lv_aload_n hx hb dX12_laysPeriods_68 rfl (lv_at hl 1 rfl) ?_
        refine lv_iload_n hx hb dX12_laysPeriods_69 rfl (lv_at hl 2 rfl) ?_
        refine lv_aload_n hx hb dX12_laysPeriods_70 rfl (lv_at hl 1 rfl) ?_
        refine va_get (D := (dC, dI)) (ci := 11) (v := .ref (ad 4)) (C := RX12) (T := TX12) (N := 69) hx hb hts hinX12 hown hK hP 0 (mat_11 rfl) rfl 8 (by decide) (hts (.fieldLink RX12 23 "BondCalendarsModel" "mature" "[I") (by decide +kernel)) (fun _ h9 => h9) rfl dX12_laysPeriods_71 ?_
        refine lv_iload_n hx hb dX12_laysPeriods_74 rfl (lv_at hl 2 rfl) ?_
        refine va_iald hx hb hK hP 4 4 (mat_44 rfl) (mty_44 rfl) (gin (N := 8) (by decide) hh0 (Int32.lt_trans hh1 (show (4 : Int32) < 8 by decide))) dX12_laysPeriods_75 ?_
        refine lv_topi (fun x_12 ex_12 => ?_)
        have ex_12 : x_12 = ((σ 4).1 p0.toNatClampNeg) := by rw [ex_12, frσ10x.1 4 (by decide) (by decide)]
        have hF := gFree hD hS hA
        refine va_callvD hd0 (va_runV_D (As := [.int p0, .int x_12]) (rest := []) ⟨hx, hb, hml, hown, hts⟩ (n_X12_laysEnd l dC dI ad cA adK adV H.size σ10x hIσ10x p0 x_12 hh0 hh1 (lp_lt iv10_2 iv10_1) (Int32.le_of_lt (Int32.lt_of_lt_of_le (Int32.lt_of_lt_of_le (Int32.lt_of_lt_of_le (show (0 : Int32) < 19800101 by decide) (date_ge hh3.2.1)) hh3.2.2.1) (eq_le ex_12.symm))) (Int32.le_of_lt (Int32.lt_of_le_of_lt (Int32.le_trans (eq_le ex_12) hh3.2.2.2.2.2.2.2) (show (20791231 : Int32) < 30000000 by decide)))) (cwV 2 hts gX12_laysPeriods_X12_laysEnd rfl rfl rfl (by decide +kernel) ⟨Nat.le_of_ble_eq_true rfl, Nat.le_of_ble_eq_true rfl⟩) ⟨gBlind, va_recv hK hP (ci := 11) (q0 := 0) rfl (mat_11 rfl), gStart (As := [.ref (ad 0), .int p0, .int x_12]) hP hD hK0 hT hS hF (d10)⟩ rfl rfl hl.1 rfl (lv_room (Nat.le_of_ble_eq_true rfl)) dX12_laysPeriods_76 ⟨Nat.le_of_ble_eq_true rfl, Nat.le_of_ble_eq_true rfl⟩) hS (fun q _ h => hF q h) hF (fun σ3 t H locs ht hvm hw hB hz1 hk1 hS d_14 hd0 => ?_)
        have hts := dr_words hts0 (d_14)
        have hK := gKd hK0 (d_14)
        have hown : (s.setDrawn (d_14)).vm.findClass RX12 = some m.cls := hown0
        obtain ⟨hP, hD⟩ := gBack hF ht hB
        obtain ⟨hIσ3, fcσ3, hp_15⟩ := hw
        refine lv_iconst (v := 0) hx hb dX12_laysPeriods_79 (by decide) ?_
        refine lv_istore_n (lv' := [(2, .int 0), (0, .ref (ad 0)), (1, .int p0)]) hx hb dX12_laysPeriods_80 rfl hl (by decide) rfl (fun ls hl => ?_)
        refine (fun (h : ∀ (n : Nat) (k3 : Int32) (σ81x : gs) (d81 : Drawn) (H : Heap) (locs : List Loc) (ls : Array Slot), ((82 : Int32).toInt - k3.toInt).toNat < n → 0 ≤ k3 → EndOK σ81x p0.toNatClampNeg → PP σ σ81x p0.toNatClampNeg → InvM σ81x → mFr [57, 58, 59, 60, 61, 62] [] σ σ81x → s.drawn.sameBut d81 lw_cs → va_P (dC, dI) vwCl (wM ad cA σ81x) H → va_D A (wM ad cA σ81x) → va_S A s.heap H locs → lv_has ls 4 [(2, .int k3), (0, .ref (ad 0)), (1, .int p0)] → W p l e _ (s.setDrawn d81) m _ below meth c H locs _ _ _ (F0 m 81 ls [])) => h _ 0 σ3 _ _ _ _ (Nat.lt_succ_self _) (by decide) (lp_end1 hIσ10x hp_15 (by rw [ex_12, fcσ3.1 4 (by decide) (by decide), frσ10x.1 4 (by decide) (by decide)])) (iv10_2.2.1.tr hp_15.2.2) hIσ3 (mFr.tr frσ10x fcσ3 (by decide) (by decide)) hd0 hP hD hS (lv_sub hl [0, 1, 2] rfl)) ?_
        intro n81
        induction n81 with
        | zero => intro k3 σ81x d81 H locs ls hm; exact absurd hm (Nat.not_lt_zero _)
        | succ n81 ih81 =>
          intro k3 σ81x d81 H locs ls hm81 iv81_0 iv81_1 iv81_2 hIσ81x frσ81x hd0 hP hD hS hl
          have hts := dr_words hts0 (d81)
          have hK := gKd hK0 (d81)
          have hown : (s.setDrawn (d81)).vm.findClass RX12 = some m.cls := hown0
          refine lv_iload_n hx hb dX12_laysPeriods_81 rfl (lv_at hl 0 rfl) ?_
          refine lv_aload_n hx hb dX12_laysPeriods_82 rfl (lv_at hl 1 rfl) ?_
          refine va_get (D := (dC, dI)) (ci := 11) (v := .ref (ad 17)) (C := RX12) (T := TX12) (N := 69) hx hb hts hinX12 hown hK hP 0 (mat_11 rfl) rfl 39 (by decide) (hts (.fieldLink RX12 64 "BondCalendarsModel" "periodMany" "[I") (by decide +kernel)) (fun _ h9 => h9) rfl dX12_laysPeriods_83 ?_
          refine lv_iload_n hx hb dX12_laysPeriods_86 rfl (lv_at hl 2 rfl) ?_
          refine va_iald hx hb hK hP 17 17 (mat_57 rfl) (mty_57 rfl) (gin (N := 4) (by decide) hh0 hh1) dX12_laysPeriods_87 ?_
          refine lv_topi (fun x_16 ex_16 => ?_)
          have bd_17 := mrd_57 (c := 17) hIσ81x rfl p0.toNatClampNeg
          refine lv_icmp_ge (tgt := 103) hx hb dX12_laysPeriods_88 (by decide) (fun c_18 => ?_) (fun c_18 => ?_)
          · refine W.endD hd0 ?_
            exact W.vret hx hb hr (fun t ht hW => ⟨⟨σ81x, rfl, ⟨hIσ81x, frσ81x, ⟨iv81_1, iv81_2⟩⟩, ⟨by rw [ht]; exact hP, hD⟩⟩, hS.F ht⟩) hS.2.2 dX12_laysPeriods_103
          · refine lv_aload_n hx hb dX12_laysPeriods_91 rfl (lv_at hl 1 rfl) ?_
            refine lv_iload_n hx hb dX12_laysPeriods_92 rfl (lv_at hl 2 rfl) ?_
            refine lv_iload_n hx hb dX12_laysPeriods_93 rfl (lv_at hl 0 rfl) ?_
            have hF := gFree hD hS hA
            refine va_callvD hd0 (va_runV_D (As := [.int p0, .int k3]) (rest := []) ⟨hx, hb, hml, hown, hts⟩ (n_X12_laysPeriod l dC dI ad cA adK adV H.size σ81x hIσ81x p0 k3 hh0 hh1 iv81_0 (Int32.lt_of_lt_of_le (Int32.lt_of_lt_of_le (Int32.not_le.mp c_18) (eq_le ex_16)) bd_17.2) (GridOK.cells hh2 (by rw [frσ81x.1 2 (by decide) (by decide)]) (by rw [frσ81x.1 9 (by decide) (by decide)])) (le_ch (Eq.refl _) (show ((σ81x 7).1 p0.toNatClampNeg : Int32) = ((σ 7).1 p0.toNatClampNeg : Int32) from by rw [frσ81x.1 7 (by decide) (by decide)]) hh3.2.2.2.2.2.1) (le_ch (show ((σ81x 7).1 p0.toNatClampNeg : Int32) = ((σ 7).1 p0.toNatClampNeg : Int32) from by rw [frσ81x.1 7 (by decide) (by decide)]) (Eq.refl _) hh3.2.2.2.2.2.2.1)) (cwV 2 hts gX12_laysPeriods_X12_laysPeriod rfl rfl rfl (by decide +kernel) ⟨Nat.le_of_ble_eq_true rfl, Nat.le_of_ble_eq_true rfl⟩) ⟨gBlind, va_recv hK hP (ci := 11) (q0 := 0) rfl (mat_11 rfl), gStart (As := [.ref (ad 0), .int p0, .int k3]) hP hD hK0 hT hS hF (d81)⟩ rfl rfl hl.1 rfl (lv_room (Nat.le_of_ble_eq_true rfl)) dX12_laysPeriods_94 ⟨Nat.le_of_ble_eq_true rfl, Nat.le_of_ble_eq_true rfl⟩) hS (fun q _ h => hF q h) hF (fun σ4 t H locs ht hvm hw hB hz1 hk1 hS d_20 hd0 => ?_)
            have hts := dr_words hts0 (d_20)
            have hK := gKd hK0 (d_20)
            have hown : (s.setDrawn (d_20)).vm.findClass RX12 = some m.cls := hown0
            obtain ⟨hP, hD⟩ := gBack hF ht hB
            obtain ⟨hIσ4, fcσ4, hp_21⟩ := hw
            obtain ⟨x_22, ex_22⟩ : ∃ zz : Int32, zz = k3 + 1 := ⟨_, rfl⟩
            refine lv_iinc (v := x_22) (lv' := [(2, .int x_22), (0, .ref (ad 0)), (1, .int p0)]) hx hb dX12_laysPeriods_97 hl (k := 0) rfl (by rw [ex_22]; rfl) (by decide) rfl (fun ls hl => ?_)
            refine lv_goto (tgt := 81) hx hb dX12_laysPeriods_100 (by decide) ?_
            exact ih81 x_22 σ4 _ _ _ _ (cnt_m iv81_0 (Int32.lt_of_lt_of_le (cnt_lt iv81_0 (Int32.lt_of_lt_of_le (Int32.lt_of_lt_of_le (Int32.not_le.mp c_18) (eq_le ex_16)) bd_17.2) ex_22) (cnt_N iv81_0 (Int32.lt_of_lt_of_le (Int32.lt_of_lt_of_le (Int32.not_le.mp c_18) (eq_le ex_16)) bd_17.2) ex_22)) hm81 ex_22) (cnt_0 iv81_0 (Int32.lt_of_lt_of_le (cnt_lt iv81_0 (Int32.lt_of_lt_of_le (Int32.lt_of_lt_of_le (Int32.not_le.mp c_18) (eq_le ex_16)) bd_17.2) ex_22) (cnt_N iv81_0 (Int32.lt_of_lt_of_le (Int32.lt_of_lt_of_le (Int32.not_le.mp c_18) (eq_le ex_16)) bd_17.2) ex_22)) ex_22) (EndOK.cells iv81_1 (by rw [fcσ4.1 4 (by decide) (by decide)]) (by rw [fcσ4.1 17 (by decide) (by decide)]) (by rw [fcσ4.1 18 (by decide) (by decide)])) (PP.cells iv81_2 (by rw [fcσ4.1 17 (by decide) (by decide)]) (by rw [fcσ4.1 18 (by decide) (by decide)])) hIσ4 (mFr.tr frσ81x fcσ4 (by decide) (by decide)) hd0 hP hD hS (lv_sub hl [0, 1, 2] rfl)
    · refine lv_aload_n hx hb dX12_laysPeriods_14 rfl (lv_at hl 1 rfl) ?_
      refine lv_iload_n hx hb dX12_laysPeriods_15 rfl (lv_at hl 2 rfl) ?_
      refine lv_iload_n hx hb dX12_laysPeriods_16 rfl (lv_at hl 0 rfl) ?_
      have hF := gFree hD hS hA
      refine va_calliD hd0 (va_runV_D (As := [.int p0, .int k2]) (rest := []) ⟨hx, hb, hml, hown, hts⟩ (n_X12_gridDate l dC dI ad cA adK adV H.size σ10x hIσ10x p0 k2 hh0 (Int32.lt_trans hh1 (show (4 : Int32) < 8 by decide)) (by rw [frσ10x.1 2 (by decide) (by decide)]; exact (oft_1 hh3.1))) (cwV 2 hts gX12_laysPeriods_X12_gridDate rfl rfl rfl (by decide +kernel) ⟨Nat.le_of_ble_eq_true rfl, Nat.le_of_ble_eq_true rfl⟩) ⟨gBlind, va_recv hK hP (ci := 11) (q0 := 0) rfl (mat_11 rfl), gStart (As := [.ref (ad 0), .int p0, .int k2]) hP hD hK0 hT hS hF (d10)⟩ rfl rfl hl.1 rfl (lv_room (Nat.le_of_ble_eq_true rfl)) dX12_laysPeriods_17 ⟨Nat.le_of_ble_eq_true rfl, Nat.le_of_ble_eq_true rfl⟩) hS (fun q _ h => hF q h) hF (fun r_23 σ5 t H locs ht hvm hw hB hz1 hk1 hS d_24 hd0 => ?_)
      have hts := dr_words hts0 (d_24)
      have hK := gKd hK0 (d_24)
      have hown : (s.setDrawn (d_24)).vm.findClass RX12 = some m.cls := hown0
      obtain ⟨hP, hD⟩ := gBack hF ht hB
      obtain ⟨hIσ5, hro, hp_25⟩ := hw
      subst hro
      have gq_26 : r_23 = gdt ((σ 5).1 p0.toNatClampNeg) ((σ 2).1 p0.toNatClampNeg) ((σ 10).1 p0.toNatClampNeg) k2 := hp_25.trans (gdt_ch (show ((σ10x 5).1 p0.toNatClampNeg : Int32) = ((σ 5).1 p0.toNatClampNeg : Int32) from by rw [frσ10x.1 5 (by decide) (by decide)]) (show ((σ10x 2).1 p0.toNatClampNeg : Int32) = ((σ 2).1 p0.toNatClampNeg : Int32) from by rw [frσ10x.1 2 (by decide) (by decide)]) (show ((σ10x 10).1 p0.toNatClampNeg : Int32) = ((σ 10).1 p0.toNatClampNeg : Int32) from by rw [frσ10x.1 10 (by decide) (by decide)]))
      have gb_27 := gdt_b (A := (σ10x 5).1 p0.toNatClampNeg) (O := (σ10x 2).1 p0.toNatClampNeg) (E := (σ10x 10).1 p0.toNatClampNeg) (k := k2) (by rw [frσ10x.1 5 (by decide) (by decide)]; exact hh3.2.1) (by rw [frσ10x.1 2 (by decide) (by decide)]; exact hh3.1) (Int32.le_of_lt (Int32.lt_of_lt_of_le (show ((-91) : Int32) < (-80) by decide) iv10_0)) (Int32.le_of_lt (Int32.lt_of_le_of_lt iv10_1 (show (1 : Int32) < 4 by decide)))
      rw [← hp_25] at gb_27
      have gl_28 : r_23 ≤ ((σ 5).1 p0.toNatClampNeg) := le_ch hp_25 (show ((σ10x 5).1 p0.toNatClampNeg : Int32) = ((σ 5).1 p0.toNatClampNeg : Int32) from by rw [frσ10x.1 5 (by decide) (by decide)]).symm (gdt_le (A := (σ10x 5).1 p0.toNatClampNeg) (O := (σ10x 2).1 p0.toNatClampNeg) (E := (σ10x 10).1 p0.toNatClampNeg) (k := k2) (by rw [frσ10x.1 5 (by decide) (by decide)]; exact hh3.2.1) (by rw [frσ10x.1 2 (by decide) (by decide)]; exact hh3.1) (Int32.le_of_lt (Int32.lt_of_lt_of_le (show ((-91) : Int32) < (-80) by decide) iv10_0)) (Int32.not_lt.mp c_1))
      refine lv_istore_n (lv' := [(3, .int r_23), (2, .int k2), (0, .ref (ad 0)), (1, .int p0)]) hx hb dX12_laysPeriods_20 rfl hl (by decide) rfl (fun ls hl => ?_)
      refine lv_iload_n hx hb dX12_laysPeriods_21 rfl (lv_at hl 0 rfl) ?_
      refine lv_aload_n hx hb dX12_laysPeriods_22 rfl (lv_at hl 2 rfl) ?_
      refine va_get (D := (dC, dI)) (ci := 11) (v := .ref (ad 6)) (C := RX12) (T := TX12) (N := 69) hx hb hts hinX12 hown hK hP 0 (mat_11 rfl) rfl 10 (by decide) (hts (.fieldLink RX12 29 "BondCalendarsModel" "issue" "[I") (by decide +kernel)) (fun _ h9 => h9) rfl dX12_laysPeriods_23 ?_
      refine lv_iload_n hx hb dX12_laysPeriods_26 rfl (lv_at hl 3 rfl) ?_
      refine va_iald hx hb hK hP 6 6 (mat_46 rfl) (mty_46 rfl) (gin (N := 8) (by decide) hh0 (Int32.lt_trans hh1 (show (4 : Int32) < 8 by decide))) dX12_laysPeriods_27 ?_
      refine lv_topi (fun x_29 ex_29 => ?_)
      have ex_29 : x_29 = ((σ 6).1 p0.toNatClampNeg) := by rw [ex_29, frσ10x.1 6 (by decide) (by decide)]
      refine lv_icmp_le (tgt := 47) hx hb dX12_laysPeriods_28 (by decide) (fun c_30 => ?_) (fun c_30 => ?_)
      · obtain ⟨x_31, ex_31⟩ : ∃ zz : Int32, zz = k2 + 1 := ⟨_, rfl⟩
        refine lv_iinc (v := x_31) (lv' := [(2, .int x_31), (3, .int r_23), (0, .ref (ad 0)), (1, .int p0)]) hx hb dX12_laysPeriods_47 hl (k := 1) rfl (by rw [ex_31]; rfl) (by decide) rfl (fun ls hl => ?_)
        refine lv_goto (tgt := 10) hx hb dX12_laysPeriods_50 (by decide) ?_
        exact ih10 x_31 σ10x _ _ _ _ (nd_m (Int32.lt_of_le_of_lt (Int32.not_lt.mp c_1) (show (0 : Int32) < 1 by decide)) hm10 ex_31) (nd_lo (a := (-80)) (Int32.lt_of_le_of_lt (Int32.not_lt.mp c_1) (show (0 : Int32) < 1 by decide)) iv10_0 ex_31) (nd_hi (Int32.lt_of_le_of_lt (Int32.not_lt.mp c_1) (show (0 : Int32) < 1 by decide)) ex_31) (lp_skip iv10_2 hh3 gq_26 (Or.inl (Int32.le_trans c_30 (eq_le ex_29))) (Int32.not_lt.mp c_1) iv10_0 ex_31) hIσ10x frσ10x hd0 hP hD hS (lv_sub hl [0, 2, 3] rfl)
      · refine lv_iload_n hx hb dX12_laysPeriods_31 rfl (lv_at hl 0 rfl) ?_
        refine lv_aload_n hx hb dX12_laysPeriods_32 rfl (lv_at hl 2 rfl) ?_
        refine va_get (D := (dC, dI)) (ci := 11) (v := .ref (ad 8)) (C := RX12) (T := TX12) (N := 69) hx hb hts hinX12 hown hK hP 0 (mat_11 rfl) rfl 12 (by decide) (hts (.fieldLink RX12 35 "BondCalendarsModel" "first" "[I") (by decide +kernel)) (fun _ h9 => h9) rfl dX12_laysPeriods_33 ?_
        refine lv_iload_n hx hb dX12_laysPeriods_36 rfl (lv_at hl 3 rfl) ?_
        refine va_iald hx hb hK hP 8 8 (mat_48 rfl) (mty_48 rfl) (gin (N := 8) (by decide) hh0 (Int32.lt_trans hh1 (show (4 : Int32) < 8 by decide))) dX12_laysPeriods_37 ?_
        refine lv_topi (fun x_32 ex_32 => ?_)
        have ex_32 : x_32 = ((σ 8).1 p0.toNatClampNeg) := by rw [ex_32, frσ10x.1 8 (by decide) (by decide)]
        refine lv_icmp_lt (tgt := 47) hx hb dX12_laysPeriods_38 (by decide) (fun c_33 => ?_) (fun c_33 => ?_)
        · obtain ⟨x_34, ex_34⟩ : ∃ zz : Int32, zz = k2 + 1 := ⟨_, rfl⟩
          refine lv_iinc (v := x_34) (lv' := [(2, .int x_34), (3, .int r_23), (0, .ref (ad 0)), (1, .int p0)]) hx hb dX12_laysPeriods_47 hl (k := 1) rfl (by rw [ex_34]; rfl) (by decide) rfl (fun ls hl => ?_)
          refine lv_goto (tgt := 10) hx hb dX12_laysPeriods_50 (by decide) ?_
          exact ih10 x_34 σ10x _ _ _ _ (nd_m (Int32.lt_of_le_of_lt (Int32.not_lt.mp c_1) (show (0 : Int32) < 1 by decide)) hm10 ex_34) (nd_lo (a := (-80)) (Int32.lt_of_le_of_lt (Int32.not_lt.mp c_1) (show (0 : Int32) < 1 by decide)) iv10_0 ex_34) (nd_hi (Int32.lt_of_le_of_lt (Int32.not_lt.mp c_1) (show (0 : Int32) < 1 by decide)) ex_34) (lp_skip iv10_2 hh3 gq_26 (Or.inr (Int32.lt_of_lt_of_le c_33 (eq_le ex_32))) (Int32.not_lt.mp c_1) iv10_0 ex_34) hIσ10x frσ10x hd0 hP hD hS (lv_sub hl [0, 2, 3] rfl)
        · refine lv_aload_n hx hb dX12_laysPeriods_41 rfl (lv_at hl 2 rfl) ?_
          refine lv_iload_n hx hb dX12_laysPeriods_42 rfl (lv_at hl 3 rfl) ?_
          refine lv_iload_n hx hb dX12_laysPeriods_43 rfl (lv_at hl 0 rfl) ?_
          have hF := gFree hD hS hA
          refine va_callvD hd0 (va_runV_D (As := [.int p0, .int r_23]) (rest := []) ⟨hx, hb, hml, hown, hts⟩ (n_X12_laysEnd l dC dI ad cA adK adV H.size σ10x hIσ10x p0 r_23 hh0 hh1 (lp_lt iv10_2 iv10_1) gb_27.1 gb_27.2) (cwV 2 hts gX12_laysPeriods_X12_laysEnd rfl rfl rfl (by decide +kernel) ⟨Nat.le_of_ble_eq_true rfl, Nat.le_of_ble_eq_true rfl⟩) ⟨gBlind, va_recv hK hP (ci := 11) (q0 := 0) rfl (mat_11 rfl), gStart (As := [.ref (ad 0), .int p0, .int r_23]) hP hD hK0 hT hS hF (d_24)⟩ rfl rfl hl.1 rfl (lv_room (Nat.le_of_ble_eq_true rfl)) dX12_laysPeriods_44 ⟨Nat.le_of_ble_eq_true rfl, Nat.le_of_ble_eq_true rfl⟩) hS (fun q _ h => hF q h) hF (fun σ6 t H locs ht hvm hw hB hz1 hk1 hS d_36 hd0 => ?_)
          have hts := dr_words hts0 (d_36)
          have hK := gKd hK0 (d_36)
          have hown : (s.setDrawn (d_36)).vm.findClass RX12 = some m.cls := hown0
          obtain ⟨hP, hD⟩ := gBack hF ht hB
          obtain ⟨hIσ6, fcσ6, hp_37⟩ := hw
          obtain ⟨x_38, ex_38⟩ : ∃ zz : Int32, zz = k2 + 1 := ⟨_, rfl⟩
          refine lv_iinc (v := x_38) (lv' := [(2, .int x_38), (3, .int r_23), (0, .ref (ad 0)), (1, .int p0)]) hx hb dX12_laysPeriods_47 hl (k := 1) rfl (by rw [ex_38]; rfl) (by decide) rfl (fun ls hl => ?_)
          refine lv_goto (tgt := 10) hx hb dX12_laysPeriods_50 (by decide) ?_
          exact ih10 x_38 σ6 _ _ _ _ (nd_m (Int32.lt_of_le_of_lt (Int32.not_lt.mp c_1) (show (0 : Int32) < 1 by decide)) hm10 ex_38) (nd_lo (a := (-80)) (Int32.lt_of_le_of_lt (Int32.not_lt.mp c_1) (show (0 : Int32) < 1 by decide)) iv10_0 ex_38) (nd_hi (Int32.lt_of_le_of_lt (Int32.not_lt.mp c_1) (show (0 : Int32) < 1 by decide)) ex_38) (lp_lay iv10_2 hIσ10x hh3 gq_26 hp_37 (Int32.not_lt.mp c_1) iv10_0 ex_38) hIσ6 (mFr.tr frσ10x fcσ6 (by decide) (by decide)) hd0 hP hD hS (lv_sub hl [0, 2, 3] rfl)
set_option maxHeartbeats 8000000 in
set_option maxRecDepth 100000 in
theorem n_X12_takesBond (l : Launch) (dC : Nat → ClassId) (dI : Nat → Nat → Nat) (ad : Nat → Nat) (cA : Nat → ClassId) (adK adV : Nat → Nat) (sz : Nat) (σ : gs) (hI : InvM σ) (p0 : Int32) (p1 : Int32) (hh0 : 0 ≤ p0) (hh1 : p0 < 8) (hh2 : 0 ≤ p1) (hh3 : p1 < 8) : MetD lw_cs l yX12_takesBond wsX12_takesBond ({ frames := 0, cells := 0, slots := 0, locals := 0 }) (va_Pc [.ref (ad 0), .int p0, .int p1] (gPre adK adV (dC, dI) (wM ad cA σ) (tM cA) sz)) (va_Qv (fun (τ : gs) => InvM τ ∧ mFr [41, 42, 43, 44, 45, 46, 47, 48, 50] [] σ τ ∧ (TB σ τ p0.toNatClampNeg p1.toNatClampNeg ∧ ∀ j : Nat, j ≠ p0.toNatClampNeg → mSame σ τ j)) (fun τ t => gPost (dC, dI) (va_A (wM ad cA σ) sz) (wM ad cA τ) t) (va_A (wM ad cA σ) sz)) 0 0 (va_A (wM ad cA σ) sz) := by
  refine MetD.ofW (cc := cX12_takesBond) (maxL := 3) (ret := none) (by decide) rfl ?_
  intro p e s m args below meth c s₁ B hml hv hd0
  obtain ⟨rfl, hsz, hP, hK, hD0, hT⟩ := hv
  have hx := B.exec
  have hb := B.bytes
  have hr := B.returns
  have hts0 := atoms_spec (ws := wsX12_takesBond) B.pre
  have hK0 := hK
  have hown0 : s.vm.findClass RX12 = some m.cls := findClass_of_methodNamed B.named
  have hlocks := B.notSynchronized
  have hinX12 : ∀ w ∈ u_ws RX12 TX12 69, w ∈ wsX12_takesBond := (fun _ h9 => List.mem_cons_of_mem _ (List.mem_append_right _ h9))
  subst hsz
  have hD := hD0.self (sz := s.heap.size)
  generalize hAe : va_A (wM ad cA σ) s.heap.size = A at hD hT ⊢
  have hA : ∀ q : Nat, s.heap.size ≤ q → A q := fun q h => by rw [← hAe]; exact Or.inr h
  have hS : va_S A s.heap s.heap [] := va_S.rf
  have hl := lv_entry ([.ref (ad 0), .int p0, .int p1]) (n := 3) (Nat.le_of_ble_eq_true rfl)
  rw [lg_entry_eq]
  generalize (lg_sl ([.ref (ad 0), .int p0, .int p1]) ++ List.replicate (3 - (lg_sl ([.ref (ad 0), .int p0, .int p1])).length) Slot.unset).toArray = ls at hl ⊢
  have hl : lv_has ls 3 [(0, .ref (ad 0)), (1, .int p0), (2, .int p1)] := hl
  have hts := dr_words hts0 (s.drawn)
  have hK := gKd hK0 (s.drawn)
  have hown : (s.setDrawn (s.drawn)).vm.findClass RX12 = some m.cls := hown0
  refine lv_aload_n hx hb dX12_takesBond_0 rfl (lv_at hl 0 rfl) ?_
  refine va_get (D := (dC, dI)) (ci := 11) (v := .ref (ad 1)) (C := RX12) (T := TX12) (N := 69) hx hb hts hinX12 hown hK hP 0 (mat_11 rfl) rfl 5 (by decide) (hts (.fieldLink RX12 13 "BondCalendarsModel" "rate" "[I") (by decide +kernel)) (fun _ h9 => h9) rfl dX12_takesBond_1 ?_
  refine lv_iload_n hx hb dX12_takesBond_4 rfl (lv_at hl 1 rfl) ?_
  refine lv_aload_n hx hb dX12_takesBond_5 rfl (lv_at hl 0 rfl) ?_
  refine va_get (D := (dC, dI)) (ci := 11) (v := .ref (ad 1)) (C := RX12) (T := TX12) (N := 69) hx hb hts hinX12 hown hK hP 0 (mat_11 rfl) rfl 5 (by decide) (hts (.fieldLink RX12 13 "BondCalendarsModel" "rate" "[I") (by decide +kernel)) (fun _ h9 => h9) rfl dX12_takesBond_6 ?_
  refine lv_iload_n hx hb dX12_takesBond_9 rfl (lv_at hl 2 rfl) ?_
  refine va_iald hx hb hK hP 1 1 (mat_41 rfl) (mty_41 rfl) (gin (N := 8) (by decide) hh2 hh3) dX12_takesBond_10 ?_
  refine lv_topi (fun x_1 ex_1 => ?_)
  refine va_iast hx hb hK hP hD hS 1 1 (mat_41 rfl) (mty_41 rfl) (gin (N := 8) (by decide) hh0 hh1) dX12_takesBond_11 (fun H locs hP hD hS => ?_)
  obtain ⟨σ1, eσ1, hP, hD⟩ := gPut (mse_41 rfl) hP hD
  have hIσ1 : InvM σ1 := by rw [eσ1]; exact minv_I hI (mok_41 rfl _ _)
  have frσ1 : mFr [41, 42, 43, 44, 45, 46, 47, 48, 50] [] σ σ1 := by rw [eσ1]; exact mFr.aI (mFr.rfl (L := [41, 42, 43, 44, 45, 46, 47, 48, 50]) (F := []) (σ := σ)) (by decide) (by decide)
  refine lv_aload_n hx hb dX12_takesBond_12 rfl (lv_at hl 0 rfl) ?_
  refine va_get (D := (dC, dI)) (ci := 11) (v := .ref (ad 2)) (C := RX12) (T := TX12) (N := 69) hx hb hts hinX12 hown hK hP 0 (mat_11 rfl) rfl 6 (by decide) (hts (.fieldLink RX12 17 "BondCalendarsModel" "often" "[I") (by decide +kernel)) (fun _ h9 => h9) rfl dX12_takesBond_13 ?_
  refine lv_iload_n hx hb dX12_takesBond_16 rfl (lv_at hl 1 rfl) ?_
  refine lv_aload_n hx hb dX12_takesBond_17 rfl (lv_at hl 0 rfl) ?_
  refine va_get (D := (dC, dI)) (ci := 11) (v := .ref (ad 2)) (C := RX12) (T := TX12) (N := 69) hx hb hts hinX12 hown hK hP 0 (mat_11 rfl) rfl 6 (by decide) (hts (.fieldLink RX12 17 "BondCalendarsModel" "often" "[I") (by decide +kernel)) (fun _ h9 => h9) rfl dX12_takesBond_18 ?_
  refine lv_iload_n hx hb dX12_takesBond_21 rfl (lv_at hl 2 rfl) ?_
  refine va_iald hx hb hK hP 2 2 (mat_42 rfl) (mty_42 rfl) (gin (N := 8) (by decide) hh2 hh3) dX12_takesBond_22 ?_
  refine lv_topi (fun x_2 ex_2 => ?_)
  have ex_2 : x_2 = ((σ 2).1 p1.toNatClampNeg) := by rw [ex_2, eσ1, gI_ne _ _ _ (by decide)]
  refine va_iast hx hb hK hP hD hS 2 2 (mat_42 rfl) (mty_42 rfl) (gin (N := 8) (by decide) hh0 hh1) dX12_takesBond_23 (fun H locs hP hD hS => ?_)
  obtain ⟨σ2, eσ2, hP, hD⟩ := gPut (mse_42 rfl) hP hD
  have hIσ2 : InvM σ2 := by rw [eσ2]; exact minv_I hIσ1 (mok_42 rfl _ _)
  have frσ2 : mFr [41, 42, 43, 44, 45, 46, 47, 48, 50] [] σ σ2 := by rw [eσ2]; exact mFr.aI frσ1 (by decide) (by decide)
  refine lv_aload_n hx hb dX12_takesBond_24 rfl (lv_at hl 0 rfl) ?_
  refine va_get (D := (dC, dI)) (ci := 11) (v := .ref (ad 3)) (C := RX12) (T := TX12) (N := 69) hx hb hts hinX12 hown hK hP 0 (mat_11 rfl) rfl 7 (by decide) (hts (.fieldLink RX12 20 "BondCalendarsModel" "rule" "[I") (by decide +kernel)) (fun _ h9 => h9) rfl dX12_takesBond_25 ?_
  refine lv_iload_n hx hb dX12_takesBond_28 rfl (lv_at hl 1 rfl) ?_
  refine lv_aload_n hx hb dX12_takesBond_29 rfl (lv_at hl 0 rfl) ?_
  refine va_get (D := (dC, dI)) (ci := 11) (v := .ref (ad 3)) (C := RX12) (T := TX12) (N := 69) hx hb hts hinX12 hown hK hP 0 (mat_11 rfl) rfl 7 (by decide) (hts (.fieldLink RX12 20 "BondCalendarsModel" "rule" "[I") (by decide +kernel)) (fun _ h9 => h9) rfl dX12_takesBond_30 ?_
  refine lv_iload_n hx hb dX12_takesBond_33 rfl (lv_at hl 2 rfl) ?_
  refine va_iald hx hb hK hP 3 3 (mat_43 rfl) (mty_43 rfl) (gin (N := 8) (by decide) hh2 hh3) dX12_takesBond_34 ?_
  refine lv_topi (fun x_3 ex_3 => ?_)
  have ex_3 : x_3 = ((σ 3).1 p1.toNatClampNeg) := by rw [ex_3, eσ2, gI_ne _ _ _ (by decide), eσ1, gI_ne _ _ _ (by decide)]
  refine va_iast hx hb hK hP hD hS 3 3 (mat_43 rfl) (mty_43 rfl) (gin (N := 8) (by decide) hh0 hh1) dX12_takesBond_35 (fun H locs hP hD hS => ?_)
  obtain ⟨σ3, eσ3, hP, hD⟩ := gPut (mse_43 rfl) hP hD
  have hIσ3 : InvM σ3 := by rw [eσ3]; exact minv_I hIσ2 (mok_43 rfl _ _)
  have frσ3 : mFr [41, 42, 43, 44, 45, 46, 47, 48, 50] [] σ σ3 := by rw [eσ3]; exact mFr.aI frσ2 (by decide) (by decide)
  refine lv_aload_n hx hb dX12_takesBond_36 rfl (lv_at hl 0 rfl) ?_
  refine va_get (D := (dC, dI)) (ci := 11) (v := .ref (ad 4)) (C := RX12) (T := TX12) (N := 69) hx hb hts hinX12 hown hK hP 0 (mat_11 rfl) rfl 8 (by decide) (hts (.fieldLink RX12 23 "BondCalendarsModel" "mature" "[I") (by decide +kernel)) (fun _ h9 => h9) rfl dX12_takesBond_37 ?_
  refine lv_iload_n hx hb dX12_takesBond_40 rfl (lv_at hl 1 rfl) ?_
  refine lv_aload_n hx hb dX12_takesBond_41 rfl (lv_at hl 0 rfl) ?_
  refine va_get (D := (dC, dI)) (ci := 11) (v := .ref (ad 4)) (C := RX12) (T := TX12) (N := 69) hx hb hts hinX12 hown hK hP 0 (mat_11 rfl) rfl 8 (by decide) (hts (.fieldLink RX12 23 "BondCalendarsModel" "mature" "[I") (by decide +kernel)) (fun _ h9 => h9) rfl dX12_takesBond_42 ?_
  refine lv_iload_n hx hb dX12_takesBond_45 rfl (lv_at hl 2 rfl) ?_
  refine va_iald hx hb hK hP 4 4 (mat_44 rfl) (mty_44 rfl) (gin (N := 8) (by decide) hh2 hh3) dX12_takesBond_46 ?_
  refine lv_topi (fun x_4 ex_4 => ?_)
  have ex_4 : x_4 = ((σ 4).1 p1.toNatClampNeg) := by rw [ex_4, eσ3, gI_ne _ _ _ (by decide), eσ2, gI_ne _ _ _ (by decide), eσ1, gI_ne _ _ _ (by decide)]
  refine va_iast hx hb hK hP hD hS 4 4 (mat_44 rfl) (mty_44 rfl) (gin (N := 8) (by decide) hh0 hh1) dX12_takesBond_47 (fun H locs hP hD hS => ?_)
  obtain ⟨σ4, eσ4, hP, hD⟩ := gPut (mse_44 rfl) hP hD
  have hIσ4 : InvM σ4 := by rw [eσ4]; exact minv_I hIσ3 (mok_44 rfl _ _)
  have frσ4 : mFr [41, 42, 43, 44, 45, 46, 47, 48, 50] [] σ σ4 := by rw [eσ4]; exact mFr.aI frσ3 (by decide) (by decide)
  refine lv_aload_n hx hb dX12_takesBond_48 rfl (lv_at hl 0 rfl) ?_
  refine va_get (D := (dC, dI)) (ci := 11) (v := .ref (ad 5)) (C := RX12) (T := TX12) (N := 69) hx hb hts hinX12 hown hK hP 0 (mat_11 rfl) rfl 9 (by decide) (hts (.fieldLink RX12 26 "BondCalendarsModel" "anchor" "[I") (by decide +kernel)) (fun _ h9 => h9) rfl dX12_takesBond_49 ?_
  refine lv_iload_n hx hb dX12_takesBond_52 rfl (lv_at hl 1 rfl) ?_
  refine lv_aload_n hx hb dX12_takesBond_53 rfl (lv_at hl 0 rfl) ?_
  refine va_get (D := (dC, dI)) (ci := 11) (v := .ref (ad 5)) (C := RX12) (T := TX12) (N := 69) hx hb hts hinX12 hown hK hP 0 (mat_11 rfl) rfl 9 (by decide) (hts (.fieldLink RX12 26 "BondCalendarsModel" "anchor" "[I") (by decide +kernel)) (fun _ h9 => h9) rfl dX12_takesBond_54 ?_
  refine lv_iload_n hx hb dX12_takesBond_57 rfl (lv_at hl 2 rfl) ?_
  refine va_iald hx hb hK hP 5 5 (mat_45 rfl) (mty_45 rfl) (gin (N := 8) (by decide) hh2 hh3) dX12_takesBond_58 ?_
  refine lv_topi (fun x_5 ex_5 => ?_)
  have ex_5 : x_5 = ((σ 5).1 p1.toNatClampNeg) := by rw [ex_5, eσ4, gI_ne _ _ _ (by decide), eσ3, gI_ne _ _ _ (by decide), eσ2, gI_ne _ _ _ (by decide), eσ1, gI_ne _ _ _ (by decide)]
  refine va_iast hx hb hK hP hD hS 5 5 (mat_45 rfl) (mty_45 rfl) (gin (N := 8) (by decide) hh0 hh1) dX12_takesBond_59 (fun H locs hP hD hS => ?_)
  obtain ⟨σ5, eσ5, hP, hD⟩ := gPut (mse_45 rfl) hP hD
  have hIσ5 : InvM σ5 := by rw [eσ5]; exact minv_I hIσ4 (mok_45 rfl _ _)
  have frσ5 : mFr [41, 42, 43, 44, 45, 46, 47, 48, 50] [] σ σ5 := by rw [eσ5]; exact mFr.aI frσ4 (by decide) (by decide)
  refine lv_aload_n hx hb dX12_takesBond_60 rfl (lv_at hl 0 rfl) ?_
  refine va_get (D := (dC, dI)) (ci := 11) (v := .ref (ad 6)) (C := RX12) (T := TX12) (N := 69) hx hb hts hinX12 hown hK hP 0 (mat_11 rfl) rfl 10 (by decide) (hts (.fieldLink RX12 29 "BondCalendarsModel" "issue" "[I") (by decide +kernel)) (fun _ h9 => h9) rfl dX12_takesBond_61 ?_
  refine lv_iload_n hx hb dX12_takesBond_64 rfl (lv_at hl 1 rfl) ?_
  refine lv_aload_n hx hb dX12_takesBond_65 rfl (lv_at hl 0 rfl) ?_
  refine va_get (D := (dC, dI)) (ci := 11) (v := .ref (ad 6)) (C := RX12) (T := TX12) (N := 69) hx hb hts hinX12 hown hK hP 0 (mat_11 rfl) rfl 10 (by decide) (hts (.fieldLink RX12 29 "BondCalendarsModel" "issue" "[I") (by decide +kernel)) (fun _ h9 => h9) rfl dX12_takesBond_66 ?_
  refine lv_iload_n hx hb dX12_takesBond_69 rfl (lv_at hl 2 rfl) ?_
  refine va_iald hx hb hK hP 6 6 (mat_46 rfl) (mty_46 rfl) (gin (N := 8) (by decide) hh2 hh3) dX12_takesBond_70 ?_
  refine lv_topi (fun x_6 ex_6 => ?_)
  have ex_6 : x_6 = ((σ 6).1 p1.toNatClampNeg) := by rw [ex_6, eσ5, gI_ne _ _ _ (by decide), eσ4, gI_ne _ _ _ (by decide), eσ3, gI_ne _ _ _ (by decide), eσ2, gI_ne _ _ _ (by decide), eσ1, gI_ne _ _ _ (by decide)]
  refine va_iast hx hb hK hP hD hS 6 6 (mat_46 rfl) (mty_46 rfl) (gin (N := 8) (by decide) hh0 hh1) dX12_takesBond_71 (fun H locs hP hD hS => ?_)
  obtain ⟨σ6, eσ6, hP, hD⟩ := gPut (mse_46 rfl) hP hD
  have hIσ6 : InvM σ6 := by rw [eσ6]; exact minv_I hIσ5 (mok_46 rfl _ _)
  have frσ6 : mFr [41, 42, 43, 44, 45, 46, 47, 48, 50] [] σ σ6 := by rw [eσ6]; exact mFr.aI frσ5 (by decide) (by decide)
  refine lv_aload_n hx hb dX12_takesBond_72 rfl (lv_at hl 0 rfl) ?_
  refine va_get (D := (dC, dI)) (ci := 11) (v := .ref (ad 7)) (C := RX12) (T := TX12) (N := 69) hx hb hts hinX12 hown hK hP 0 (mat_11 rfl) rfl 11 (by decide) (hts (.fieldLink RX12 32 "BondCalendarsModel" "ex" "[I") (by decide +kernel)) (fun _ h9 => h9) rfl dX12_takesBond_73 ?_
  refine lv_iload_n hx hb dX12_takesBond_76 rfl (lv_at hl 1 rfl) ?_
  refine lv_aload_n hx hb dX12_takesBond_77 rfl (lv_at hl 0 rfl) ?_
  refine va_get (D := (dC, dI)) (ci := 11) (v := .ref (ad 7)) (C := RX12) (T := TX12) (N := 69) hx hb hts hinX12 hown hK hP 0 (mat_11 rfl) rfl 11 (by decide) (hts (.fieldLink RX12 32 "BondCalendarsModel" "ex" "[I") (by decide +kernel)) (fun _ h9 => h9) rfl dX12_takesBond_78 ?_
  refine lv_iload_n hx hb dX12_takesBond_81 rfl (lv_at hl 2 rfl) ?_
  refine va_iald hx hb hK hP 7 7 (mat_47 rfl) (mty_47 rfl) (gin (N := 8) (by decide) hh2 hh3) dX12_takesBond_82 ?_
  refine lv_topi (fun x_7 ex_7 => ?_)
  have ex_7 : x_7 = ((σ 7).1 p1.toNatClampNeg) := by rw [ex_7, eσ6, gI_ne _ _ _ (by decide), eσ5, gI_ne _ _ _ (by decide), eσ4, gI_ne _ _ _ (by decide), eσ3, gI_ne _ _ _ (by decide), eσ2, gI_ne _ _ _ (by decide), eσ1, gI_ne _ _ _ (by decide)]
  refine va_iast hx hb hK hP hD hS 7 7 (mat_47 rfl) (mty_47 rfl) (gin (N := 8) (by decide) hh0 hh1) dX12_takesBond_83 (fun H locs hP hD hS => ?_)
  obtain ⟨σ7, eσ7, hP, hD⟩ := gPut (mse_47 rfl) hP hD
  have hIσ7 : InvM σ7 := by rw [eσ7]; exact minv_I hIσ6 (mok_47 rfl _ _)
  have frσ7 : mFr [41, 42, 43, 44, 45, 46, 47, 48, 50] [] σ σ7 := by rw [eσ7]; exact mFr.aI frσ6 (by decide) (by decide)
  refine lv_aload_n hx hb dX12_takesBond_84 rfl (lv_at hl 0 rfl) ?_
  refine va_get (D := (dC, dI)) (ci := 11) (v := .ref (ad 8)) (C := RX12) (T := TX12) (N := 69) hx hb hts hinX12 hown hK hP 0 (mat_11 rfl) rfl 12 (by decide) (hts (.fieldLink RX12 35 "BondCalendarsModel" "first" "[I") (by decide +kernel)) (fun _ h9 => h9) rfl dX12_takesBond_85 ?_
  refine lv_iload_n hx hb dX12_takesBond_88 rfl (lv_at hl 1 rfl) ?_
  refine lv_aload_n hx hb dX12_takesBond_89 rfl (lv_at hl 0 rfl) ?_
  refine va_get (D := (dC, dI)) (ci := 11) (v := .ref (ad 8)) (C := RX12) (T := TX12) (N := 69) hx hb hts hinX12 hown hK hP 0 (mat_11 rfl) rfl 12 (by decide) (hts (.fieldLink RX12 35 "BondCalendarsModel" "first" "[I") (by decide +kernel)) (fun _ h9 => h9) rfl dX12_takesBond_90 ?_
  refine lv_iload_n hx hb dX12_takesBond_93 rfl (lv_at hl 2 rfl) ?_
  refine va_iald hx hb hK hP 8 8 (mat_48 rfl) (mty_48 rfl) (gin (N := 8) (by decide) hh2 hh3) dX12_takesBond_94 ?_
  refine lv_topi (fun x_8 ex_8 => ?_)
  have ex_8 : x_8 = ((σ 8).1 p1.toNatClampNeg) := by rw [ex_8, eσ7, gI_ne _ _ _ (by decide), eσ6, gI_ne _ _ _ (by decide), eσ5, gI_ne _ _ _ (by decide), eσ4, gI_ne _ _ _ (by decide), eσ3, gI_ne _ _ _ (by decide), eσ2, gI_ne _ _ _ (by decide), eσ1, gI_ne _ _ _ (by decide)]
  refine va_iast hx hb hK hP hD hS 8 8 (mat_48 rfl) (mty_48 rfl) (gin (N := 8) (by decide) hh0 hh1) dX12_takesBond_95 (fun H locs hP hD hS => ?_)
  obtain ⟨σ8, eσ8, hP, hD⟩ := gPut (mse_48 rfl) hP hD
  have hIσ8 : InvM σ8 := by rw [eσ8]; exact minv_I hIσ7 (mok_48 rfl _ _)
  have frσ8 : mFr [41, 42, 43, 44, 45, 46, 47, 48, 50] [] σ σ8 := by rw [eσ8]; exact mFr.aI frσ7 (by decide) (by decide)
  refine lv_aload_n hx hb dX12_takesBond_96 rfl (lv_at hl 0 rfl) ?_
  refine va_get (D := (dC, dI)) (ci := 11) (v := .ref (ad 10)) (C := RX12) (T := TX12) (N := 69) hx hb hts hinX12 hown hK hP 0 (mat_11 rfl) rfl 14 (by decide) (hts (.fieldLink RX12 41 "BondCalendarsModel" "eom" "[Z") (by decide +kernel)) (fun _ h9 => h9) rfl dX12_takesBond_97 ?_
  refine lv_iload_n hx hb dX12_takesBond_100 rfl (lv_at hl 1 rfl) ?_
  refine lv_aload_n hx hb dX12_takesBond_101 rfl (lv_at hl 0 rfl) ?_
  refine va_get (D := (dC, dI)) (ci := 11) (v := .ref (ad 10)) (C := RX12) (T := TX12) (N := 69) hx hb hts hinX12 hown hK hP 0 (mat_11 rfl) rfl 14 (by decide) (hts (.fieldLink RX12 41 "BondCalendarsModel" "eom" "[Z") (by decide +kernel)) (fun _ h9 => h9) rfl dX12_takesBond_102 ?_
  refine lv_iload_n hx hb dX12_takesBond_105 rfl (lv_at hl 2 rfl) ?_
  refine va_zald hx hb hK hP 10 10 (mat_50 rfl) (mty_50 rfl) (gin (N := 8) (by decide) hh2 hh3) dX12_takesBond_106 ?_
  refine lv_topi (fun x_9 ex_9 => ?_)
  have ex_9 : x_9 = ((σ 10).1 p1.toNatClampNeg) := by rw [ex_9, eσ8, gI_ne _ _ _ (by decide), eσ7, gI_ne _ _ _ (by decide), eσ6, gI_ne _ _ _ (by decide), eσ5, gI_ne _ _ _ (by decide), eσ4, gI_ne _ _ _ (by decide), eσ3, gI_ne _ _ _ (by decide), eσ2, gI_ne _ _ _ (by decide), eσ1, gI_ne _ _ _ (by decide)]
  refine va_zast hx hb hK hP hD hS 10 10 (mat_50 rfl) (mty_50 rfl) (gin (N := 8) (by decide) hh0 hh1) dX12_takesBond_107 (fun H locs hP hD hS => ?_)
  obtain ⟨σ9, eσ9, hP, hD⟩ := gPut (mse_50 rfl) hP hD
  have hIσ9 : InvM σ9 := by rw [eσ9]; exact minv_I hIσ8 (mok_50 rfl _ _)
  have frσ9 : mFr [41, 42, 43, 44, 45, 46, 47, 48, 50] [] σ σ9 := by rw [eσ9]; exact mFr.aI frσ8 (by decide) (by decide)
  refine W.endD hd0 ?_
  exact W.vret hx hb hr (fun t ht hW => ⟨⟨σ9, rfl, ⟨hIσ9, frσ9, ⟨⟨by rw [eσ9, gI_ne _ _ _ (by decide), eσ8, gI_ne _ _ _ (by decide), eσ7, gI_ne _ _ _ (by decide), eσ6, gI_ne _ _ _ (by decide), eσ5, gI_ne _ _ _ (by decide), eσ4, gI_ne _ _ _ (by decide), eσ3, gI_ne _ _ _ (by decide), eσ2, gI_self, ex_2], by rw [eσ9, gI_ne _ _ _ (by decide), eσ8, gI_ne _ _ _ (by decide), eσ7, gI_ne _ _ _ (by decide), eσ6, gI_ne _ _ _ (by decide), eσ5, gI_ne _ _ _ (by decide), eσ4, gI_self, ex_4], by rw [eσ9, gI_ne _ _ _ (by decide), eσ8, gI_ne _ _ _ (by decide), eσ7, gI_ne _ _ _ (by decide), eσ6, gI_ne _ _ _ (by decide), eσ5, gI_self, ex_5], by rw [eσ9, gI_ne _ _ _ (by decide), eσ8, gI_ne _ _ _ (by decide), eσ7, gI_ne _ _ _ (by decide), eσ6, gI_self, ex_6], by rw [eσ9, gI_ne _ _ _ (by decide), eσ8, gI_ne _ _ _ (by decide), eσ7, gI_self, ex_7], by rw [eσ9, gI_ne _ _ _ (by decide), eσ8, gI_self, ex_8]⟩, fun j hj => ⟨by rw [eσ9, gI_ne _ _ _ (by decide), eσ8, gI_ne _ _ _ (by decide), eσ7, gI_ne _ _ _ (by decide), eσ6, gI_ne _ _ _ (by decide), eσ5, gI_ne _ _ _ (by decide), eσ4, gI_ne _ _ _ (by decide), eσ3, gI_ne _ _ _ (by decide), eσ2, gI_oth _ _ _ hj, eσ1, gI_ne _ _ _ (by decide)], by rw [eσ9, gI_ne _ _ _ (by decide), eσ8, gI_ne _ _ _ (by decide), eσ7, gI_ne _ _ _ (by decide), eσ6, gI_ne _ _ _ (by decide), eσ5, gI_ne _ _ _ (by decide), eσ4, gI_oth _ _ _ hj, eσ3, gI_ne _ _ _ (by decide), eσ2, gI_ne _ _ _ (by decide), eσ1, gI_ne _ _ _ (by decide)], by rw [eσ9, gI_ne _ _ _ (by decide), eσ8, gI_ne _ _ _ (by decide), eσ7, gI_ne _ _ _ (by decide), eσ6, gI_ne _ _ _ (by decide), eσ5, gI_oth _ _ _ hj, eσ4, gI_ne _ _ _ (by decide), eσ3, gI_ne _ _ _ (by decide), eσ2, gI_ne _ _ _ (by decide), eσ1, gI_ne _ _ _ (by decide)], by rw [eσ9, gI_ne _ _ _ (by decide), eσ8, gI_ne _ _ _ (by decide), eσ7, gI_ne _ _ _ (by decide), eσ6, gI_oth _ _ _ hj, eσ5, gI_ne _ _ _ (by decide), eσ4, gI_ne _ _ _ (by decide), eσ3, gI_ne _ _ _ (by decide), eσ2, gI_ne _ _ _ (by decide), eσ1, gI_ne _ _ _ (by decide)], by rw [eσ9, gI_ne _ _ _ (by decide), eσ8, gI_ne _ _ _ (by decide), eσ7, gI_oth _ _ _ hj, eσ6, gI_ne _ _ _ (by decide), eσ5, gI_ne _ _ _ (by decide), eσ4, gI_ne _ _ _ (by decide), eσ3, gI_ne _ _ _ (by decide), eσ2, gI_ne _ _ _ (by decide), eσ1, gI_ne _ _ _ (by decide)], by rw [eσ9, gI_ne _ _ _ (by decide), eσ8, gI_oth _ _ _ hj, eσ7, gI_ne _ _ _ (by decide), eσ6, gI_ne _ _ _ (by decide), eσ5, gI_ne _ _ _ (by decide), eσ4, gI_ne _ _ _ (by decide), eσ3, gI_ne _ _ _ (by decide), eσ2, gI_ne _ _ _ (by decide), eσ1, gI_ne _ _ _ (by decide)]⟩⟩⟩, ⟨by rw [ht]; exact hP, hD⟩⟩, hS.F ht⟩) hS.2.2 dX12_takesBond_108
