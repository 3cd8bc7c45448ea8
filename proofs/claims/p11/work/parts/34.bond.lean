set_option maxHeartbeats 8000000 in
set_option maxRecDepth 100000 in
theorem n_X0_stepMonths (l : Launch) (dC : Nat → ClassId) (dI : Nat → Nat → Nat) (ad : Nat → Nat) (cA : Nat → ClassId) (adK adV : Nat → Nat) (sz : Nat) (σ : gs) (hI : InvX σ) (o : Nat) (ho : kX o = 0) : MetD lw_cs l yX0_stepMonths wsX0_stepMonths ({ frames := 0, cells := 0, slots := 0, locals := 0 }) (va_Pc [.ref (ad o)] (gPre adK adV (dC, dI) (wX ad cA σ) (tX cA) sz)) (va_Qi (fun (r : Int32) (τ : gs) => InvX τ ∧ σ = τ ∧ (True)) (fun τ t => gPost (dC, dI) (va_A (wX ad cA σ) sz) (wX ad cA τ) t) (va_A (wX ad cA σ) sz)) 0 0 (va_A (wX ad cA σ) sz) := by
  refine MetD.ofW (cc := cX0_stepMonths) (maxL := 1) (ret := (some .int)) (by decide) rfl ?_
  intro p e s m args below meth c s₁ B hml hv hd0
  obtain ⟨rfl, hsz, hP, hK, hD0, hT⟩ := hv
  have hx := B.exec
  have hb := B.bytes
  have hr := B.returns
  have hts0 := atoms_spec (ws := wsX0_stepMonths) B.pre
  have hK0 := hK
  have hown0 : s.vm.findClass RX0 = some m.cls := findClass_of_methodNamed B.named
  have hlocks := B.notSynchronized
  have hinX0 : ∀ w ∈ u_ws RX0 TX0 16, w ∈ wsX0_stepMonths := (fun _ h9 => List.mem_cons_of_mem _ (List.mem_append_right _ h9))
  subst hsz
  have hD := hD0.self (sz := s.heap.size)
  generalize hAe : va_A (wX ad cA σ) s.heap.size = A at hD hT ⊢
  have hA : ∀ q : Nat, s.heap.size ≤ q → A q := fun q h => by rw [← hAe]; exact Or.inr h
  have hS : va_S A s.heap s.heap [] := va_S.rf
  have hl := lv_entry ([.ref (ad o)]) (n := 1) (Nat.le_of_ble_eq_true rfl)
  rw [lg_entry_eq]
  generalize (lg_sl ([.ref (ad o)]) ++ List.replicate (1 - (lg_sl ([.ref (ad o)])).length) Slot.unset).toArray = ls at hl ⊢
  have hl : lv_has ls 1 [(0, .ref (ad o))] := hl
  have hts := dr_words hts0 (s.drawn)
  have hK := gKd hK0 (s.drawn)
  have hown : (s.setDrawn (s.drawn)).vm.findClass RX0 = some m.cls := hown0
  refine lv_aload_n hx hb dX0_stepMonths_0 rfl (lv_at hl 0 rfl) ?_
  refine va_get (D := (dC, dI)) (ci := 0) (v := .int ((σ o).1 1)) (C := RX0) (T := TX0) (N := 16) hx hb hts hinX0 hown hK hP o (at_0 ho) rfl 1 (by decide) (hts (.fieldLink RX0 15 "BondCalendars$Bond" "frequency" "I") (by decide +kernel)) (fun _ h9 => h9) rfl dX0_stepMonths_1 ?_
  refine lv_iconst (v := 1) hx hb dX0_stepMonths_4 (by decide) ?_
  refine lv_icmp_ge (tgt := 13) hx hb dX0_stepMonths_5 (by decide) (fun c_1 => ?_) (fun c_1 => ?_)
  · refine lv_bipush (v := 12) hx hb dX0_stepMonths_13 (by decide) ?_
    refine lv_aload_n hx hb dX0_stepMonths_15 rfl (lv_at hl 0 rfl) ?_
    refine va_get (D := (dC, dI)) (ci := 0) (v := .int ((σ o).1 1)) (C := RX0) (T := TX0) (N := 16) hx hb hts hinX0 hown hK hP o (at_0 ho) rfl 1 (by decide) (hts (.fieldLink RX0 15 "BondCalendars$Bond" "frequency" "I") (by decide +kernel)) (fun _ h9 => h9) rfl dX0_stepMonths_16 ?_
    refine lv_idiv hx hb dX0_stepMonths_19 (ne_i c_1) ?_
    refine lv_topi (fun x_2 ex_2 => ?_)
    refine W.endD hd0 ?_
    exact W.iret (v := x_2) hx hb hr (fun t ht hW => ⟨⟨x_2, σ, rfl, ⟨hI, rfl, trivial⟩, ⟨by rw [ht]; exact hP, hD⟩⟩, hS.F ht⟩) hS.2.2 dX0_stepMonths_20
  · refine lv_bipush (v := 12) hx hb dX0_stepMonths_8 (by decide) ?_
    refine lv_goto (tgt := 20) hx hb dX0_stepMonths_10 (by decide) ?_
    refine W.endD hd0 ?_
    exact W.iret (v := 12) hx hb hr (fun t ht hW => ⟨⟨12, σ, rfl, ⟨hI, rfl, trivial⟩, ⟨by rw [ht]; exact hP, hD⟩⟩, hS.F ht⟩) hS.2.2 dX0_stepMonths_20
set_option maxHeartbeats 8000000 in
set_option maxRecDepth 100000 in
theorem n_X0_layGrid (l : Launch) (dC : Nat → ClassId) (dI : Nat → Nat → Nat) (ad : Nat → Nat) (cA : Nat → ClassId) (adK adV : Nat → Nat) (sz : Nat) (σ : gs) (hI : InvX σ) (o : Nat) (ho : kX o = 0) : MetD lw_cs l yX0_layGrid wsX0_layGrid ({ frames := 2, cells := 0, slots := 0, locals := 52 }) (va_Pc [.ref (ad o)] (gPre adK adV (dC, dI) (wX ad cA σ) (tX cA) sz)) (va_Qv (fun (τ : gs) => InvX τ ∧ gFr [27] σ τ ∧ (True)) (fun τ t => gPost (dC, dI) (va_A (wX ad cA σ) sz) (wX ad cA τ) t) (va_A (wX ad cA σ) sz)) 0 0 (va_A (wX ad cA σ) sz) := by
  refine MetD.ofW (cc := cX0_layGrid) (maxL := 4) (ret := none) (by decide) rfl ?_
  intro p e s m args below meth c s₁ B hml hv hd0
  obtain ⟨rfl, hsz, hP, hK, hD0, hT⟩ := hv
  have hx := B.exec
  have hb := B.bytes
  have hr := B.returns
  have hts0 := atoms_spec (ws := wsX0_layGrid) B.pre
  have hK0 := hK
  have hown0 : s.vm.findClass RX0 = some m.cls := findClass_of_methodNamed B.named
  have hlocks := B.notSynchronized
  have hinX0 : ∀ w ∈ u_ws RX0 TX0 16, w ∈ wsX0_layGrid := (fun _ h9 => List.mem_cons_of_mem _ (List.mem_append_right _ h9))
  subst hsz
  have hD := hD0.self (sz := s.heap.size)
  generalize hAe : va_A (wX ad cA σ) s.heap.size = A at hD hT ⊢
  have hA : ∀ q : Nat, s.heap.size ≤ q → A q := fun q h => by rw [← hAe]; exact Or.inr h
  have hS : va_S A s.heap s.heap [] := va_S.rf
  have hl := lv_entry ([.ref (ad o)]) (n := 4) (Nat.le_of_ble_eq_true rfl)
  rw [lg_entry_eq]
  generalize (lg_sl ([.ref (ad o)]) ++ List.replicate (4 - (lg_sl ([.ref (ad o)])).length) Slot.unset).toArray = ls at hl ⊢
  have hl : lv_has ls 4 [(0, .ref (ad o))] := hl
  have hts := dr_words hts0 (s.drawn)
  have hK := gKd hK0 (s.drawn)
  have hown : (s.setDrawn (s.drawn)).vm.findClass RX0 = some m.cls := hown0
  refine lv_aload_n hx hb dX0_layGrid_0 rfl (lv_at hl 0 rfl) ?_
  refine va_get (D := (dC, dI)) (ci := 0) (v := .int ((σ o).1 5)) (C := RX0) (T := TX0) (N := 16) hx hb hts hinX0 hown hK hP o (at_0 ho) rfl 5 (by decide) (hts (.fieldLink RX0 28 "BondCalendars$Bond" "anchorDay" "I") (by decide +kernel)) (fun _ h9 => h9) rfl dX0_layGrid_1 ?_
  have hF := gFree (w := []) (hx_D0 (A := A)) hS hA
  have hKe := hK.sub (tys' := []) [] rfl
  refine va_calli (va_runS (As := [.int ((σ o).1 5)]) (rest := []) ⟨hx, hb, hml, hown, hts⟩ (k_X3_numberOf l dC dI s.heap.size ((σ o).1 5) ) (va_cwS 1 hts gX0_layGrid_X3_numberOf rfl rfl rfl (by decide +kernel) ⟨Nat.le_of_ble_eq_true rfl, Nat.le_of_ble_eq_true rfl⟩) ⟨fun a U g mk q => by obtain ⟨q0, q1, qP, qK, qD⟩ := q; exact ⟨q0, q1, qP, va_K.moved (u := U) (U := U.calling g mk a) (Vm.Alike.refl U.vm) qK, qD⟩, fun U hU hW => ⟨rfl, by rw [hU], hx_P0, va_K.moved hW.alike hKe, hx_D0⟩⟩ rfl rfl hl.1 rfl (lv_room (Nat.le_of_ble_eq_true rfl)) dX0_layGrid_4 ⟨Nat.le_of_ble_eq_true rfl, Nat.le_of_ble_eq_true rfl⟩) hS (fun q _ h => hF q h) hF (fun r_1 u t H locs ht hvm hw hB hz1 hk1 hS => ?_)
  have hP := gKeep hP hk1
  refine lv_istore_n (lv' := [(1, .int r_1), (0, .ref (ad o))]) hx hb dX0_layGrid_7 rfl hl (by decide) rfl (fun ls hl => ?_)
  refine lv_iconst (v := 0) hx hb dX0_layGrid_8 (by decide) ?_
  refine lv_istore_n (lv' := [(2, .int 0), (1, .int r_1), (0, .ref (ad o))]) hx hb dX0_layGrid_9 rfl hl (by decide) rfl (fun ls hl => ?_)
  refine (fun (h : ∀ (n : Nat) (i2 : Int32) (σ10x : gs) (d10 : Drawn) (H : Heap) (locs : List Loc) (ls : Array Slot), ((94 : Int32).toInt - i2.toInt).toNat < n → 0 ≤ i2 → InvX σ10x → gFr [27] σ σ10x → s.drawn.sameBut d10 lw_cs → va_P (dC, dI) vwCl (wX ad cA σ10x) H → va_D A (wX ad cA σ10x) → va_S A s.heap H locs → lv_has ls 4 [(2, .int i2), (1, .int r_1), (0, .ref (ad o))] → W p l e _ (s.setDrawn d10) m _ below meth c H locs _ _ _ (F0 m 10 ls [])) => h _ 0 σ _ _ _ _ (Nat.lt_succ_self _) (by decide) hI (gFr.rfl (L := [27]) (σ := σ)) hd0 hP hD hS (lv_sub hl [0, 1, 2] rfl)) ?_
  intro n10
  induction n10 with
  | zero => intro i2 σ10x d10 H locs ls hm; exact absurd hm (Nat.not_lt_zero _)
  | succ n10 ih10 =>
    intro i2 σ10x d10 H locs ls hm10 iv10_0 hIσ10x frσ10x hd0 hP hD hS hl
    have hts := dr_words hts0 (d10)
    have hK := gKd hK0 (d10)
    have hown : (s.setDrawn (d10)).vm.findClass RX0 = some m.cls := hown0
    refine lv_iload_n hx hb dX0_layGrid_10 rfl (lv_at hl 0 rfl) ?_
    refine lv_aload_n hx hb dX0_layGrid_11 rfl (lv_at hl 2 rfl) ?_
    refine va_get (D := (dC, dI)) (ci := 0) (v := .ref (ad (o + 1))) (C := RX0) (T := TX0) (N := 16) hx hb hts hinX0 hown hK hP o (at_0 ho) rfl 10 (by decide) (hts (.fieldLink RX0 43 "BondCalendars$Bond" "gridDays" "[I") (by decide +kernel)) (fun _ h9 => h9) rfl dX0_layGrid_12 ?_
    refine va_alen (v := 94) hx hb hK hP ((o + 1)) ((o + 1)) (at_27 (kk_0_1 ho)) (ty_27 (kk_0_1 ho)) rfl dX0_layGrid_15 ?_
    refine lv_icmp_ge (tgt := 53) hx hb dX0_layGrid_16 (by decide) (fun c_2 => ?_) (fun c_2 => ?_)
    · refine W.endD hd0 ?_
      exact W.vret hx hb hr (fun t ht hW => ⟨⟨σ10x, rfl, ⟨hIσ10x, frσ10x, trivial⟩, ⟨by rw [ht]; exact hP, hD⟩⟩, hS.F ht⟩) hS.2.2 dX0_layGrid_53
    · refine lv_iload_n hx hb dX0_layGrid_19 rfl (lv_at hl 0 rfl) ?_
      refine lv_bipush (v := 90) hx hb dX0_layGrid_20 (by decide) ?_
      refine lv_isub hx hb dX0_layGrid_22 ?_
      refine lv_topi (fun x_3 ex_3 => ?_)
      refine lv_aload_n hx hb dX0_layGrid_23 rfl (lv_at hl 2 rfl) ?_
      have hF := gFree hD hS hA
      refine va_calliD hd0 (va_runV_D (As := []) (rest := [.int x_3]) ⟨hx, hb, hml, hown, hts⟩ (n_X0_stepMonths l dC dI ad cA adK adV H.size σ10x hIσ10x o ho) (cwV 0 hts gX0_layGrid_X0_stepMonths rfl rfl rfl (by decide +kernel) ⟨Nat.le_of_ble_eq_true rfl, Nat.le_of_ble_eq_true rfl⟩) ⟨gBlind, va_recv hK hP (ci := 0) (q0 := o) rfl (at_0 ho), gStart (As := [.ref (ad o)]) hP hD hK0 hT hS hF (d10)⟩ rfl rfl hl.1 rfl (lv_room (Nat.le_of_ble_eq_true rfl)) dX0_layGrid_24 ⟨Nat.le_of_ble_eq_true rfl, Nat.le_of_ble_eq_true rfl⟩) hS (fun q _ h => hF q h) hF (fun r_4 σ1 t H locs ht hvm hw hB hz1 hk1 hS d_5 hd0 => ?_)
      have hts := dr_words hts0 (d_5)
      have hK := gKd hK0 (d_5)
      have hown : (s.setDrawn (d_5)).vm.findClass RX0 = some m.cls := hown0
      obtain ⟨hP, hD⟩ := gBack hF ht hB
      obtain ⟨hIσ1, hro, hp_6⟩ := hw
      subst hro
      refine lv_imul hx hb dX0_layGrid_27 ?_
      refine lv_topi (fun x_7 ex_7 => ?_)
      refine lv_istore_n (lv' := [(3, .int x_7), (2, .int i2), (1, .int r_1), (0, .ref (ad o))]) hx hb dX0_layGrid_28 rfl hl (by decide) rfl (fun ls hl => ?_)
      refine lv_aload_n hx hb dX0_layGrid_29 rfl (lv_at hl 3 rfl) ?_
      refine va_get (D := (dC, dI)) (ci := 0) (v := .ref (ad (o + 1))) (C := RX0) (T := TX0) (N := 16) hx hb hts hinX0 hown hK hP o (at_0 ho) rfl 10 (by decide) (hts (.fieldLink RX0 43 "BondCalendars$Bond" "gridDays" "[I") (by decide +kernel)) (fun _ h9 => h9) rfl dX0_layGrid_30 ?_
      refine lv_iload_n hx hb dX0_layGrid_33 rfl (lv_at hl 1 rfl) ?_
      refine lv_iload_n hx hb dX0_layGrid_34 rfl (lv_at hl 2 rfl) ?_
      refine lv_iload_n hx hb dX0_layGrid_35 rfl (lv_at hl 0 rfl) ?_
      refine lv_aload_n hx hb dX0_layGrid_36 rfl (lv_at hl 3 rfl) ?_
      refine va_get (D := (dC, dI)) (ci := 0) (v := .int ((σ o).1 3)) (C := RX0) (T := TX0) (N := 16) hx hb hts hinX0 hown hK hP o (at_0 ho) rfl 3 (by decide) (hts (.fieldLink RX0 21 "BondCalendars$Bond" "monthEnds" "Z") (by decide +kernel)) (fun _ h9 => h9) (congrArg (fun z => some (Value.int z)) (show (σ10x o).1 3 = ((σ o).1 3) from by rw [frσ10x o (by rw [ho]; decide)])) dX0_layGrid_37 ?_
      have hF := gFree (w := []) (hx_D0 (A := A)) hS hA
      have hKe := hK.sub (tys' := []) [] rfl
      refine va_calli (va_runS (As := [.int r_1, .int x_7, .int ((σ o).1 3)]) (rest := [.int i2, .ref (ad (o + 1))]) ⟨hx, hb, hml, hown, hts⟩ (k_X3_monthsFrom l dC dI H.size r_1 x_7 ((σ o).1 3) ) (va_cwS 3 hts gX0_layGrid_X3_monthsFrom rfl rfl rfl (by decide +kernel) ⟨Nat.le_of_ble_eq_true rfl, Nat.le_of_ble_eq_true rfl⟩) ⟨fun a U g mk q => by obtain ⟨q0, q1, qP, qK, qD⟩ := q; exact ⟨q0, q1, qP, va_K.moved (u := U) (U := U.calling g mk a) (Vm.Alike.refl U.vm) qK, qD⟩, fun U hU hW => ⟨rfl, by rw [hU], hx_P0, va_K.moved hW.alike hKe, hx_D0⟩⟩ rfl rfl hl.1 rfl (lv_room (Nat.le_of_ble_eq_true rfl)) dX0_layGrid_40 ⟨Nat.le_of_ble_eq_true rfl, Nat.le_of_ble_eq_true rfl⟩) hS (fun q _ h => hF q h) hF (fun r_8 u t H locs ht hvm hw hB hz1 hk1 hS => ?_)
      have hP := gKeep hP hk1
      have hF := gFree (w := []) (hx_D0 (A := A)) hS hA
      have hKe := hK.sub (tys' := []) [] rfl
      refine va_calli (va_runS (As := [.int r_8]) (rest := [.int i2, .ref (ad (o + 1))]) ⟨hx, hb, hml, hown, hts⟩ (k_X3_dayOf l dC dI H.size r_8 ) (va_cwS 1 hts gX0_layGrid_X3_dayOf rfl rfl rfl (by decide +kernel) ⟨Nat.le_of_ble_eq_true rfl, Nat.le_of_ble_eq_true rfl⟩) ⟨fun a U g mk q => by obtain ⟨q0, q1, qP, qK, qD⟩ := q; exact ⟨q0, q1, qP, va_K.moved (u := U) (U := U.calling g mk a) (Vm.Alike.refl U.vm) qK, qD⟩, fun U hU hW => ⟨rfl, by rw [hU], hx_P0, va_K.moved hW.alike hKe, hx_D0⟩⟩ rfl rfl hl.1 rfl (lv_room (Nat.le_of_ble_eq_true rfl)) dX0_layGrid_43 ⟨Nat.le_of_ble_eq_true rfl, Nat.le_of_ble_eq_true rfl⟩) hS (fun q _ h => hF q h) hF (fun r_9 u t H locs ht hvm hw hB hz1 hk1 hS => ?_)
      have hP := gKeep hP hk1
      refine va_iast hx hb hK hP hD hS ((o + 1)) ((o + 1)) (at_27 (kk_0_1 ho)) (ty_27 (kk_0_1 ho)) (gin (N := 94) (by decide) iv10_0 (Int32.not_le.mp c_2)) dX0_layGrid_46 (fun H locs hP hD hS => ?_)
      obtain ⟨σ2, eσ2, hP, hD⟩ := gPut (se_27 (kk_0_1 ho)) hP hD
      have hIσ2 : InvX σ2 := by rw [eσ2]; exact inv_I hIσ10x (ok_27 (kk_0_1 ho) _ _)
      have frσ2 : gFr [27] σ σ2 := by rw [eσ2]; exact gFr.pI frσ10x (kk_0_1 ho) (by decide)
      obtain ⟨x_10, ex_10⟩ : ∃ zz : Int32, zz = i2 + 1 := ⟨_, rfl⟩
      refine lv_iinc (v := x_10) (lv' := [(2, .int x_10), (3, .int x_7), (1, .int r_1), (0, .ref (ad o))]) hx hb dX0_layGrid_47 hl (k := 1) rfl (by rw [ex_10]; rfl) (by decide) rfl (fun ls hl => ?_)
      refine lv_goto (tgt := 10) hx hb dX0_layGrid_50 (by decide) ?_
      exact ih10 x_10 σ2 _ _ _ _ (cnt_m iv10_0 (Int32.not_le.mp c_2) hm10 ex_10) (cnt_0 iv10_0 (Int32.not_le.mp c_2) ex_10) hIσ2 frσ2 hd0 hP hD hS (lv_sub hl [0, 2, 3] rfl)
set_option maxHeartbeats 8000000 in
set_option maxRecDepth 100000 in
theorem n_X0_stepsBehind (l : Launch) (dC : Nat → ClassId) (dI : Nat → Nat → Nat) (ad : Nat → Nat) (cA : Nat → ClassId) (adK adV : Nat → Nat) (sz : Nat) (σ : gs) (hI : InvX σ) (o : Nat) (ho : kX o = 0) (p0 : Int32) : MetD lw_cs l yX0_stepsBehind wsX0_stepsBehind ({ frames := 0, cells := 0, slots := 0, locals := 0 }) (va_Pc [.ref (ad o), .int p0] (gPre adK adV (dC, dI) (wX ad cA σ) (tX cA) sz)) (va_Qi (fun (r : Int32) (τ : gs) => InvX τ ∧ σ = τ ∧ (True)) (fun τ t => gPost (dC, dI) (va_A (wX ad cA σ) sz) (wX ad cA τ) t) (va_A (wX ad cA σ) sz)) 0 0 (va_A (wX ad cA σ) sz) := by
  refine MetD.ofW (cc := cX0_stepsBehind) (maxL := 4) (ret := (some .int)) (by decide) rfl ?_
  intro p e s m args below meth c s₁ B hml hv hd0
  obtain ⟨rfl, hsz, hP, hK, hD0, hT⟩ := hv
  have hx := B.exec
  have hb := B.bytes
  have hr := B.returns
  have hts0 := atoms_spec (ws := wsX0_stepsBehind) B.pre
  have hK0 := hK
  have hown0 : s.vm.findClass RX0 = some m.cls := findClass_of_methodNamed B.named
  have hlocks := B.notSynchronized
  have hinX0 : ∀ w ∈ u_ws RX0 TX0 16, w ∈ wsX0_stepsBehind := (fun _ h9 => List.mem_cons_of_mem _ (List.mem_append_right _ h9))
  subst hsz
  have hD := hD0.self (sz := s.heap.size)
  generalize hAe : va_A (wX ad cA σ) s.heap.size = A at hD hT ⊢
  have hA : ∀ q : Nat, s.heap.size ≤ q → A q := fun q h => by rw [← hAe]; exact Or.inr h
  have hS : va_S A s.heap s.heap [] := va_S.rf
  have hl := lv_entry ([.ref (ad o), .int p0]) (n := 4) (Nat.le_of_ble_eq_true rfl)
  rw [lg_entry_eq]
  generalize (lg_sl ([.ref (ad o), .int p0]) ++ List.replicate (4 - (lg_sl ([.ref (ad o), .int p0])).length) Slot.unset).toArray = ls at hl ⊢
  have hl : lv_has ls 4 [(0, .ref (ad o)), (1, .int p0)] := hl
  have hts := dr_words hts0 (s.drawn)
  have hK := gKd hK0 (s.drawn)
  have hown : (s.setDrawn (s.drawn)).vm.findClass RX0 = some m.cls := hown0
  refine lv_iconst (v := 0) hx hb dX0_stepsBehind_0 (by decide) ?_
  refine lv_istore_n (lv' := [(2, .int 0), (0, .ref (ad o)), (1, .int p0)]) hx hb dX0_stepsBehind_1 rfl hl (by decide) rfl (fun ls hl => ?_)
  refine lv_bipush (v := 90) hx hb dX0_stepsBehind_2 (by decide) ?_
  refine lv_istore_n (lv' := [(3, .int 90), (2, .int 0), (0, .ref (ad o)), (1, .int p0)]) hx hb dX0_stepsBehind_4 rfl hl (by decide) rfl (fun ls hl => ?_)
  refine (fun (h : ∀ (n : Nat) (st : Int32) (i : Int32) (d5 : Drawn) (H : Heap) (locs : List Loc) (ls : Array Slot), (i.toInt + (1 : Int32).toInt).toNat < n → i ≤ 90 → s.drawn.sameBut d5 lw_cs → va_P (dC, dI) vwCl (wX ad cA σ) H → va_D A (wX ad cA σ) → va_S A s.heap H locs → lv_has ls 4 [(3, .int i), (2, .int st), (0, .ref (ad o)), (1, .int p0)] → W p l e _ (s.setDrawn d5) m _ below meth c H locs _ _ _ (F0 m 5 ls [])) => h _ 0 90 _ _ _ _ (Nat.lt_succ_self _) (by decide) hd0 hP hD hS (lv_sub hl [0, 1, 2, 3] rfl)) ?_
  intro n5
  induction n5 with
  | zero => intro st i  d5 H locs ls hm; exact absurd hm (Nat.not_lt_zero _)
  | succ n5 ih5 =>
    intro st i  d5 H locs ls hm5 iv5_0  hd0 hP hD hS hl
    have hts := dr_words hts0 (d5)
    have hK := gKd hK0 (d5)
    have hown : (s.setDrawn (d5)).vm.findClass RX0 = some m.cls := hown0
    refine lv_iload_n hx hb dX0_stepsBehind_5 rfl (lv_at hl 0 rfl) ?_
    refine lv_if_lt (tgt := 28) hx hb dX0_stepsBehind_6 (by decide) (fun c_1 => ?_) (fun c_1 => ?_)
    · refine lv_iload_n hx hb dX0_stepsBehind_28 rfl (lv_at hl 1 rfl) ?_
      refine W.endD hd0 ?_
      exact W.iret (v := st) hx hb hr (fun t ht hW => ⟨⟨st, σ, rfl, ⟨hI, rfl, trivial⟩, ⟨by rw [ht]; exact hP, hD⟩⟩, hS.F ht⟩) hS.2.2 dX0_stepsBehind_29
    · refine lv_aload_n hx hb dX0_stepsBehind_9 rfl (lv_at hl 2 rfl) ?_
      refine va_get (D := (dC, dI)) (ci := 0) (v := .ref (ad (o + 1))) (C := RX0) (T := TX0) (N := 16) hx hb hts hinX0 hown hK hP o (at_0 ho) rfl 10 (by decide) (hts (.fieldLink RX0 43 "BondCalendars$Bond" "gridDays" "[I") (by decide +kernel)) (fun _ h9 => h9) rfl dX0_stepsBehind_10 ?_
      refine lv_iload_n hx hb dX0_stepsBehind_13 rfl (lv_at hl 0 rfl) ?_
      refine va_iald hx hb hK hP ((o + 1)) ((o + 1)) (at_27 (kk_0_1 ho)) (ty_27 (kk_0_1 ho)) (gin (N := 94) (by decide) (Int32.not_lt.mp c_1) (Int32.lt_of_le_of_lt iv5_0 (show (90 : Int32) < 94 by decide))) dX0_stepsBehind_14 ?_
      refine lv_topi (fun x_2 _ => ?_)
      refine lv_iload_n hx hb dX0_stepsBehind_15 rfl (lv_at hl 3 rfl) ?_
      refine lv_icmp_le (tgt := 28) hx hb dX0_stepsBehind_16 (by decide) (fun c_3 => ?_) (fun c_3 => ?_)
      · refine lv_iload_n hx hb dX0_stepsBehind_28 rfl (lv_at hl 1 rfl) ?_
        refine W.endD hd0 ?_
        exact W.iret (v := st) hx hb hr (fun t ht hW => ⟨⟨st, σ, rfl, ⟨hI, rfl, trivial⟩, ⟨by rw [ht]; exact hP, hD⟩⟩, hS.F ht⟩) hS.2.2 dX0_stepsBehind_29
      · obtain ⟨x_4, ex_4⟩ : ∃ zz : Int32, zz = st + 1 := ⟨_, rfl⟩
        refine lv_iinc (v := x_4) (lv' := [(2, .int x_4), (3, .int i), (0, .ref (ad o)), (1, .int p0)]) hx hb dX0_stepsBehind_19 hl (k := 1) rfl (by rw [ex_4]; rfl) (by decide) rfl (fun ls hl => ?_)
        obtain ⟨x_5, ex_5⟩ : ∃ zz : Int32, zz = i + (-1) := ⟨_, rfl⟩
        refine lv_iinc (v := x_5) (lv' := [(3, .int x_5), (2, .int x_4), (0, .ref (ad o)), (1, .int p0)]) hx hb dX0_stepsBehind_22 hl (k := 1) rfl (by rw [ex_5]; rfl) (by decide) rfl (fun ls hl => ?_)
        refine lv_goto (tgt := 5) hx hb dX0_stepsBehind_25 (by decide) ?_
        exact ih5 x_4 x_5 _ _ _ _ (dn_m (k := 1) (by decide) (Int32.not_lt.mp c_1) hm5 ex_5) (Int32.le_of_lt (Int32.lt_of_lt_of_le (sub_lj (k := 1) (by decide) (Int32.not_lt.mp c_1) ex_5) iv5_0)) hd0 hP hD hS (lv_sub hl [0, 1, 2, 3] rfl)
set_option maxHeartbeats 8000000 in
set_option maxRecDepth 100000 in
theorem n_X0_gridPlaceOf (l : Launch) (dC : Nat → ClassId) (dI : Nat → Nat → Nat) (ad : Nat → Nat) (cA : Nat → ClassId) (adK adV : Nat → Nat) (sz : Nat) (σ : gs) (hI : InvX σ) (o : Nat) (ho : kX o = 0) (p0 : Int32) : MetD lw_cs l yX0_gridPlaceOf wsX0_gridPlaceOf ({ frames := 0, cells := 0, slots := 0, locals := 0 }) (va_Pc [.ref (ad o), .int p0] (gPre adK adV (dC, dI) (wX ad cA σ) (tX cA) sz)) (va_Qi (fun (r : Int32) (τ : gs) => InvX τ ∧ σ = τ ∧ (r ≤ 90)) (fun τ t => gPost (dC, dI) (va_A (wX ad cA σ) sz) (wX ad cA τ) t) (va_A (wX ad cA σ) sz)) 0 0 (va_A (wX ad cA σ) sz) := by
  refine MetD.ofW (cc := cX0_gridPlaceOf) (maxL := 3) (ret := (some .int)) (by decide) rfl ?_
  intro p e s m args below meth c s₁ B hml hv hd0
  obtain ⟨rfl, hsz, hP, hK, hD0, hT⟩ := hv
  have hx := B.exec
  have hb := B.bytes
  have hr := B.returns
  have hts0 := atoms_spec (ws := wsX0_gridPlaceOf) B.pre
  have hK0 := hK
  have hown0 : s.vm.findClass RX0 = some m.cls := findClass_of_methodNamed B.named
  have hlocks := B.notSynchronized
  have hinX0 : ∀ w ∈ u_ws RX0 TX0 16, w ∈ wsX0_gridPlaceOf := (fun _ h9 => List.mem_cons_of_mem _ (List.mem_append_right _ h9))
  subst hsz
  have hD := hD0.self (sz := s.heap.size)
  generalize hAe : va_A (wX ad cA σ) s.heap.size = A at hD hT ⊢
  have hA : ∀ q : Nat, s.heap.size ≤ q → A q := fun q h => by rw [← hAe]; exact Or.inr h
  have hS : va_S A s.heap s.heap [] := va_S.rf
  have hl := lv_entry ([.ref (ad o), .int p0]) (n := 3) (Nat.le_of_ble_eq_true rfl)
  rw [lg_entry_eq]
  generalize (lg_sl ([.ref (ad o), .int p0]) ++ List.replicate (3 - (lg_sl ([.ref (ad o), .int p0])).length) Slot.unset).toArray = ls at hl ⊢
  have hl : lv_has ls 3 [(0, .ref (ad o)), (1, .int p0)] := hl
  have hts := dr_words hts0 (s.drawn)
  have hK := gKd hK0 (s.drawn)
  have hown : (s.setDrawn (s.drawn)).vm.findClass RX0 = some m.cls := hown0
  refine lv_iconst (v := 0) hx hb dX0_gridPlaceOf_0 (by decide) ?_
  refine lv_istore_n (lv' := [(2, .int 0), (0, .ref (ad o)), (1, .int p0)]) hx hb dX0_gridPlaceOf_1 rfl hl (by decide) rfl (fun ls hl => ?_)
  refine (fun (h : ∀ (n : Nat) (i2 : Int32) (d2 : Drawn) (H : Heap) (locs : List Loc) (ls : Array Slot), ((91 : Int32).toInt - i2.toInt).toNat < n → 0 ≤ i2 → s.drawn.sameBut d2 lw_cs → va_P (dC, dI) vwCl (wX ad cA σ) H → va_D A (wX ad cA σ) → va_S A s.heap H locs → lv_has ls 3 [(2, .int i2), (0, .ref (ad o)), (1, .int p0)] → W p l e _ (s.setDrawn d2) m _ below meth c H locs _ _ _ (F0 m 2 ls [])) => h _ 0 _ _ _ _ (Nat.lt_succ_self _) (by decide) hd0 hP hD hS (lv_sub hl [0, 1, 2] rfl)) ?_
  intro n2
  induction n2 with
  | zero => intro i2  d2 H locs ls hm; exact absurd hm (Nat.not_lt_zero _)
  | succ n2 ih2 =>
    intro i2  d2 H locs ls hm2 iv2_0  hd0 hP hD hS hl
    have hts := dr_words hts0 (d2)
    have hK := gKd hK0 (d2)
    have hown : (s.setDrawn (d2)).vm.findClass RX0 = some m.cls := hown0
    refine lv_iload_n hx hb dX0_gridPlaceOf_2 rfl (lv_at hl 0 rfl) ?_
    refine lv_bipush (v := 90) hx hb dX0_gridPlaceOf_3 (by decide) ?_
    refine lv_icmp_gt (tgt := 35) hx hb dX0_gridPlaceOf_5 (by decide) (fun c_1 => ?_) (fun c_1 => ?_)
    · refine lv_iconst (v := (-1)) hx hb dX0_gridPlaceOf_35 (by decide) ?_
      refine W.endD hd0 ?_
      exact W.iret (v := (-1)) hx hb hr (fun t ht hW => ⟨⟨(-1), σ, rfl, ⟨hI, rfl, (by decide)⟩, ⟨by rw [ht]; exact hP, hD⟩⟩, hS.F ht⟩) hS.2.2 dX0_gridPlaceOf_36
    · refine lv_iload_n hx hb dX0_gridPlaceOf_8 rfl (lv_at hl 0 rfl) ?_
      refine lv_aload_n hx hb dX0_gridPlaceOf_9 rfl (lv_at hl 1 rfl) ?_
      refine va_get (D := (dC, dI)) (ci := 0) (v := .ref (ad (o + 1))) (C := RX0) (T := TX0) (N := 16) hx hb hts hinX0 hown hK hP o (at_0 ho) rfl 10 (by decide) (hts (.fieldLink RX0 43 "BondCalendars$Bond" "gridDays" "[I") (by decide +kernel)) (fun _ h9 => h9) rfl dX0_gridPlaceOf_10 ?_
      refine va_alen (v := 94) hx hb hK hP ((o + 1)) ((o + 1)) (at_27 (kk_0_1 ho)) (ty_27 (kk_0_1 ho)) rfl dX0_gridPlaceOf_13 ?_
      refine lv_icmp_ge (tgt := 35) hx hb dX0_gridPlaceOf_14 (by decide) (fun c_2 => ?_) (fun c_2 => ?_)
      · exact absurd c_2 (Int32.not_le.mpr (Int32.lt_of_le_of_lt (Int32.not_lt.mp c_1) (show (90 : Int32) < 94 by decide)))
      · refine lv_aload_n hx hb dX0_gridPlaceOf_17 rfl (lv_at hl 1 rfl) ?_
        refine va_get (D := (dC, dI)) (ci := 0) (v := .ref (ad (o + 1))) (C := RX0) (T := TX0) (N := 16) hx hb hts hinX0 hown hK hP o (at_0 ho) rfl 10 (by decide) (hts (.fieldLink RX0 43 "BondCalendars$Bond" "gridDays" "[I") (by decide +kernel)) (fun _ h9 => h9) rfl dX0_gridPlaceOf_18 ?_
        refine lv_iload_n hx hb dX0_gridPlaceOf_21 rfl (lv_at hl 0 rfl) ?_
        refine va_iald hx hb hK hP ((o + 1)) ((o + 1)) (at_27 (kk_0_1 ho)) (ty_27 (kk_0_1 ho)) (gin (N := 94) (by decide) iv2_0 (Int32.not_le.mp c_2)) dX0_gridPlaceOf_22 ?_
        refine lv_topi (fun x_3 _ => ?_)
        refine lv_iload_n hx hb dX0_gridPlaceOf_23 rfl (lv_at hl 2 rfl) ?_
        refine lv_icmp_ne (tgt := 29) hx hb dX0_gridPlaceOf_24 (by decide) (fun c_4 => ?_) (fun c_4 => ?_)
        · obtain ⟨x_5, ex_5⟩ : ∃ zz : Int32, zz = i2 + 1 := ⟨_, rfl⟩
          refine lv_iinc (v := x_5) (lv' := [(2, .int x_5), (0, .ref (ad o)), (1, .int p0)]) hx hb dX0_gridPlaceOf_29 hl (k := 0) rfl (by rw [ex_5]; rfl) (by decide) rfl (fun ls hl => ?_)
          refine lv_goto (tgt := 2) hx hb dX0_gridPlaceOf_32 (by decide) ?_
          exact ih2 x_5 _ _ _ _ (cnt_m iv2_0 (Int32.lt_of_le_of_lt (Int32.not_lt.mp c_1) (show (90 : Int32) < 91 by decide)) hm2 ex_5) (cnt_0 iv2_0 (Int32.lt_of_le_of_lt (Int32.not_lt.mp c_1) (show (90 : Int32) < 91 by decide)) ex_5) hd0 hP hD hS (lv_sub hl [0, 1, 2] rfl)
        · refine lv_iload_n hx hb dX0_gridPlaceOf_27 rfl (lv_at hl 0 rfl) ?_
          refine W.endD hd0 ?_
          exact W.iret (v := i2) hx hb hr (fun t ht hW => ⟨⟨i2, σ, rfl, ⟨hI, rfl, (Int32.not_lt.mp c_1)⟩, ⟨by rw [ht]; exact hP, hD⟩⟩, hS.F ht⟩) hS.2.2 dX0_gridPlaceOf_28
set_option maxHeartbeats 8000000 in
set_option maxRecDepth 100000 in
theorem n_X0_addPeriod (l : Launch) (dC : Nat → ClassId) (dI : Nat → Nat → Nat) (ad : Nat → Nat) (cA : Nat → ClassId) (adK adV : Nat → Nat) (sz : Nat) (σ : gs) (hI : InvX σ) (o : Nat) (ho : kX o = 0) (p0 : Int32) : MetD lw_cs l yX0_addPeriod wsX0_addPeriod ({ frames := 0, cells := 0, slots := 0, locals := 0 }) (va_Pc [.ref (ad o), .int p0] (gPre adK adV (dC, dI) (wX ad cA σ) (tX cA) sz)) (va_Qv (fun (τ : gs) => InvX τ ∧ gFr [0, 24] σ τ ∧ (True)) (fun τ t => gPost (dC, dI) (va_A (wX ad cA σ) sz) (wX ad cA τ) t) (va_A (wX ad cA σ) sz)) 0 0 (va_A (wX ad cA σ) sz) := by
  refine MetD.ofW (cc := cX0_addPeriod) (maxL := 2) (ret := none) (by decide) rfl ?_
  intro p e s m args below meth c s₁ B hml hv hd0
  obtain ⟨rfl, hsz, hP, hK, hD0, hT⟩ := hv
  have hx := B.exec
  have hb := B.bytes
  have hr := B.returns
  have hts0 := atoms_spec (ws := wsX0_addPeriod) B.pre
  have hK0 := hK
  have hown0 : s.vm.findClass RX0 = some m.cls := findClass_of_methodNamed B.named
  have hlocks := B.notSynchronized
  have hinX0 : ∀ w ∈ u_ws RX0 TX0 16, w ∈ wsX0_addPeriod := (fun _ h9 => List.mem_cons_of_mem _ (List.mem_append_right _ h9))
  subst hsz
  have hD := hD0.self (sz := s.heap.size)
  generalize hAe : va_A (wX ad cA σ) s.heap.size = A at hD hT ⊢
  have hA : ∀ q : Nat, s.heap.size ≤ q → A q := fun q h => by rw [← hAe]; exact Or.inr h
  have hS : va_S A s.heap s.heap [] := va_S.rf
  have hl := lv_entry ([.ref (ad o), .int p0]) (n := 2) (Nat.le_of_ble_eq_true rfl)
  rw [lg_entry_eq]
  generalize (lg_sl ([.ref (ad o), .int p0]) ++ List.replicate (2 - (lg_sl ([.ref (ad o), .int p0])).length) Slot.unset).toArray = ls at hl ⊢
  have hl : lv_has ls 2 [(0, .ref (ad o)), (1, .int p0)] := hl
  have hts := dr_words hts0 (s.drawn)
  have hK := gKd hK0 (s.drawn)
  have hown : (s.setDrawn (s.drawn)).vm.findClass RX0 = some m.cls := hown0
  refine lv_aload_n hx hb dX0_addPeriod_0 rfl (lv_at hl 0 rfl) ?_
  have bd_1 := rd_0_9 (c := o) hI ho
  refine va_get (D := (dC, dI)) (ci := 0) (v := .int ((σ o).1 9)) (C := RX0) (T := TX0) (N := 16) hx hb hts hinX0 hown hK hP o (at_0 ho) rfl 9 (by decide) (hts (.fieldLink RX0 40 "BondCalendars$Bond" "periods" "I") (by decide +kernel)) (fun _ h9 => h9) rfl dX0_addPeriod_1 ?_
  refine lv_aload_n hx hb dX0_addPeriod_4 rfl (lv_at hl 0 rfl) ?_
  refine va_get (D := (dC, dI)) (ci := 0) (v := .ref (ad (o + 2))) (C := RX0) (T := TX0) (N := 16) hx hb hts hinX0 hown hK hP o (at_0 ho) rfl 11 (by decide) (hts (.fieldLink RX0 47 "BondCalendars$Bond" "endDays" "[I") (by decide +kernel)) (fun _ h9 => h9) rfl dX0_addPeriod_5 ?_
  refine va_alen (v := 81) hx hb hK hP ((o + 2)) ((o + 2)) (at_24 (kk_0_2 ho)) (ty_24 (kk_0_2 ho)) rfl dX0_addPeriod_8 ?_
  refine lv_icmp_ge (tgt := 32) hx hb dX0_addPeriod_9 (by decide) (fun c_2 => ?_) (fun c_2 => ?_)
  · refine W.endD hd0 ?_
    exact W.vret hx hb hr (fun t ht hW => ⟨⟨σ, rfl, ⟨hI, (gFr.rfl (L := [0, 24]) (σ := σ)), trivial⟩, ⟨by rw [ht]; exact hP, hD⟩⟩, hS.F ht⟩) hS.2.2 dX0_addPeriod_32
  · refine lv_aload_n hx hb dX0_addPeriod_12 rfl (lv_at hl 0 rfl) ?_
    refine va_get (D := (dC, dI)) (ci := 0) (v := .ref (ad (o + 2))) (C := RX0) (T := TX0) (N := 16) hx hb hts hinX0 hown hK hP o (at_0 ho) rfl 11 (by decide) (hts (.fieldLink RX0 47 "BondCalendars$Bond" "endDays" "[I") (by decide +kernel)) (fun _ h9 => h9) rfl dX0_addPeriod_13 ?_
    refine lv_aload_n hx hb dX0_addPeriod_16 rfl (lv_at hl 0 rfl) ?_
    refine va_get (D := (dC, dI)) (ci := 0) (v := .int ((σ o).1 9)) (C := RX0) (T := TX0) (N := 16) hx hb hts hinX0 hown hK hP o (at_0 ho) rfl 9 (by decide) (hts (.fieldLink RX0 40 "BondCalendars$Bond" "periods" "I") (by decide +kernel)) (fun _ h9 => h9) rfl dX0_addPeriod_17 ?_
    refine lv_iload_n hx hb dX0_addPeriod_20 rfl (lv_at hl 1 rfl) ?_
    refine va_iast hx hb hK hP hD hS ((o + 2)) ((o + 2)) (at_24 (kk_0_2 ho)) (ty_24 (kk_0_2 ho)) (gin (N := 81) (by decide) bd_1.1 (Int32.not_le.mp c_2)) dX0_addPeriod_21 (fun H locs hP hD hS => ?_)
    obtain ⟨σ1, eσ1, hP, hD⟩ := gPut (se_24 (kk_0_2 ho)) hP hD
    have hIσ1 : InvX σ1 := by rw [eσ1]; exact inv_I hI (ok_24 (kk_0_2 ho) _ _)
    have frσ1 : gFr [0, 24] σ σ1 := by rw [eσ1]; exact gFr.pI (gFr.rfl (L := [0, 24]) (σ := σ)) (kk_0_2 ho) (by decide)
    refine lv_aload_n hx hb dX0_addPeriod_22 rfl (lv_at hl 0 rfl) ?_
    refine lv_dup hx hb dX0_addPeriod_23 rfl ?_
    refine va_get (D := (dC, dI)) (ci := 0) (v := .int ((σ o).1 9)) (C := RX0) (T := TX0) (N := 16) hx hb hts hinX0 hown hK hP o (at_0 ho) rfl 9 (by decide) (hts (.fieldLink RX0 40 "BondCalendars$Bond" "periods" "I") (by decide +kernel)) (fun _ h9 => h9) (congrArg (fun z => some (Value.int z)) (show (σ1 o).1 9 = ((σ o).1 9) from by rw [eσ1, gI_ne _ _ _ (kne ho (kk_0_2 ho) (by decide))])) dX0_addPeriod_24 ?_
    refine lv_iconst (v := 1) hx hb dX0_addPeriod_27 (by decide) ?_
    refine lv_iadd hx hb dX0_addPeriod_28 ?_
    refine lv_topi (fun x_3 ex_3 => ?_)
    refine va_put (D := (dC, dI)) (ci := 0) (v := .int x_3) (C := RX0) (T := TX0) (N := 16) hx hb hts hinX0 tyX0 tyX0_ok nmX0 hown hK hP hD hS o (at_0 ho) rfl 9 (by decide) (hts (.fieldLink RX0 40 "BondCalendars$Bond" "periods" "I") (by decide +kernel)) (fun _ h9 => h9) rfl (ty := .int) (by decide +kernel) rfl rfl (Nat.le_of_ble_eq_true rfl) dX0_addPeriod_29 (fun H locs hP hD hS => ?_)
    obtain ⟨σ2, eσ2, hP, hD⟩ := gPut (se_0_9 ho) hP hD
    have hIσ2 : InvX σ2 := by rw [eσ2]; exact inv_I hIσ1 (ok_0_9 ho _ ⟨(cnt_0 bd_1.1 (Int32.not_le.mp c_2) ex_3), (cnt_N bd_1.1 (Int32.not_le.mp c_2) ex_3)⟩)
    have frσ2 : gFr [0, 24] σ σ2 := by rw [eσ2]; exact gFr.pI frσ1 ho (by decide)
    refine W.endD hd0 ?_
    exact W.vret hx hb hr (fun t ht hW => ⟨⟨σ2, rfl, ⟨hIσ2, frσ2, trivial⟩, ⟨by rw [ht]; exact hP, hD⟩⟩, hS.F ht⟩) hS.2.2 dX0_addPeriod_32
set_option maxHeartbeats 8000000 in
set_option maxRecDepth 100000 in
theorem n_X0_hasPeriod (l : Launch) (dC : Nat → ClassId) (dI : Nat → Nat → Nat) (ad : Nat → Nat) (cA : Nat → ClassId) (adK adV : Nat → Nat) (sz : Nat) (σ : gs) (hI : InvX σ) (o : Nat) (ho : kX o = 0) (p0 : Int32) : MetD lw_cs l yX0_hasPeriod wsX0_hasPeriod ({ frames := 0, cells := 0, slots := 0, locals := 0 }) (va_Pc [.ref (ad o), .int p0] (gPre adK adV (dC, dI) (wX ad cA σ) (tX cA) sz)) (va_Qi (fun (r : Int32) (τ : gs) => InvX τ ∧ σ = τ ∧ ((r = 0 ∨ r = 1) ∧ (r ≠ 0 → 0 ≤ p0 ∧ p0 < 81))) (fun τ t => gPost (dC, dI) (va_A (wX ad cA σ) sz) (wX ad cA τ) t) (va_A (wX ad cA σ) sz)) 0 0 (va_A (wX ad cA σ) sz) := by
  refine MetD.ofW (cc := cX0_hasPeriod) (maxL := 2) (ret := (some .boolean)) (by decide) rfl ?_
  intro p e s m args below meth c s₁ B hml hv hd0
  obtain ⟨rfl, hsz, hP, hK, hD0, hT⟩ := hv
  have hx := B.exec
  have hb := B.bytes
  have hr := B.returns
  have hts0 := atoms_spec (ws := wsX0_hasPeriod) B.pre
  have hK0 := hK
  have hown0 : s.vm.findClass RX0 = some m.cls := findClass_of_methodNamed B.named
  have hlocks := B.notSynchronized
  have hinX0 : ∀ w ∈ u_ws RX0 TX0 16, w ∈ wsX0_hasPeriod := (fun _ h9 => List.mem_cons_of_mem _ (List.mem_append_right _ h9))
  subst hsz
  have hD := hD0.self (sz := s.heap.size)
  generalize hAe : va_A (wX ad cA σ) s.heap.size = A at hD hT ⊢
  have hA : ∀ q : Nat, s.heap.size ≤ q → A q := fun q h => by rw [← hAe]; exact Or.inr h
  have hS : va_S A s.heap s.heap [] := va_S.rf
  have hl := lv_entry ([.ref (ad o), .int p0]) (n := 2) (Nat.le_of_ble_eq_true rfl)
  rw [lg_entry_eq]
  generalize (lg_sl ([.ref (ad o), .int p0]) ++ List.replicate (2 - (lg_sl ([.ref (ad o), .int p0])).length) Slot.unset).toArray = ls at hl ⊢
  have hl : lv_has ls 2 [(0, .ref (ad o)), (1, .int p0)] := hl
  have hts := dr_words hts0 (s.drawn)
  have hK := gKd hK0 (s.drawn)
  have hown : (s.setDrawn (s.drawn)).vm.findClass RX0 = some m.cls := hown0
  refine lv_iload_n hx hb dX0_hasPeriod_0 rfl (lv_at hl 1 rfl) ?_
  refine lv_if_lt (tgt := 25) hx hb dX0_hasPeriod_1 (by decide) (fun c_1 => ?_) (fun c_1 => ?_)
  · refine lv_iconst (v := 0) hx hb dX0_hasPeriod_25 (by decide) ?_
    refine W.endD hd0 ?_
    exact W.zret (v := 0) hx hb hr (by decide) (fun t ht hW => ⟨⟨0, σ, rfl, ⟨hI, rfl, ⟨Or.inl rfl, fun h => absurd rfl h⟩⟩, ⟨by rw [ht]; exact hP, hD⟩⟩, hS.F ht⟩) hS.2.2 dX0_hasPeriod_26
  · refine lv_iload_n hx hb dX0_hasPeriod_4 rfl (lv_at hl 1 rfl) ?_
    refine lv_aload_n hx hb dX0_hasPeriod_5 rfl (lv_at hl 0 rfl) ?_
    have bd_2 := rd_0_9 (c := o) hI ho
    refine va_get (D := (dC, dI)) (ci := 0) (v := .int ((σ o).1 9)) (C := RX0) (T := TX0) (N := 16) hx hb hts hinX0 hown hK hP o (at_0 ho) rfl 9 (by decide) (hts (.fieldLink RX0 40 "BondCalendars$Bond" "periods" "I") (by decide +kernel)) (fun _ h9 => h9) rfl dX0_hasPeriod_6 ?_
    refine lv_icmp_ge (tgt := 25) hx hb dX0_hasPeriod_9 (by decide) (fun c_3 => ?_) (fun c_3 => ?_)
    · refine lv_iconst (v := 0) hx hb dX0_hasPeriod_25 (by decide) ?_
      refine W.endD hd0 ?_
      exact W.zret (v := 0) hx hb hr (by decide) (fun t ht hW => ⟨⟨0, σ, rfl, ⟨hI, rfl, ⟨Or.inl rfl, fun h => absurd rfl h⟩⟩, ⟨by rw [ht]; exact hP, hD⟩⟩, hS.F ht⟩) hS.2.2 dX0_hasPeriod_26
    · refine lv_iload_n hx hb dX0_hasPeriod_12 rfl (lv_at hl 1 rfl) ?_
      refine lv_aload_n hx hb dX0_hasPeriod_13 rfl (lv_at hl 0 rfl) ?_
      refine va_get (D := (dC, dI)) (ci := 0) (v := .ref (ad (o + 2))) (C := RX0) (T := TX0) (N := 16) hx hb hts hinX0 hown hK hP o (at_0 ho) rfl 11 (by decide) (hts (.fieldLink RX0 47 "BondCalendars$Bond" "endDays" "[I") (by decide +kernel)) (fun _ h9 => h9) rfl dX0_hasPeriod_14 ?_
      refine va_alen (v := 81) hx hb hK hP ((o + 2)) ((o + 2)) (at_24 (kk_0_2 ho)) (ty_24 (kk_0_2 ho)) rfl dX0_hasPeriod_17 ?_
      refine lv_icmp_ge (tgt := 25) hx hb dX0_hasPeriod_18 (by decide) (fun c_4 => ?_) (fun c_4 => ?_)
      · exact absurd c_4 (Int32.not_le.mpr (Int32.lt_of_lt_of_le (Int32.not_le.mp c_3) bd_2.2))
      · refine lv_iconst (v := 1) hx hb dX0_hasPeriod_21 (by decide) ?_
        refine lv_goto (tgt := 26) hx hb dX0_hasPeriod_22 (by decide) ?_
        refine W.endD hd0 ?_
        exact W.zret (v := 1) hx hb hr (by decide) (fun t ht hW => ⟨⟨1, σ, rfl, ⟨hI, rfl, ⟨Or.inr rfl, fun _ => ⟨(Int32.not_lt.mp c_1), (Int32.not_le.mp c_4)⟩⟩⟩, ⟨by rw [ht]; exact hP, hD⟩⟩, hS.F ht⟩) hS.2.2 dX0_hasPeriod_26
set_option maxHeartbeats 8000000 in
set_option maxRecDepth 100000 in
theorem n_X0_startOf (l : Launch) (dC : Nat → ClassId) (dI : Nat → Nat → Nat) (ad : Nat → Nat) (cA : Nat → ClassId) (adK adV : Nat → Nat) (sz : Nat) (σ : gs) (hI : InvX σ) (o : Nat) (ho : kX o = 0) (p0 : Int32) : MetD lw_cs l yX0_startOf wsX0_startOf ({ frames := 0, cells := 0, slots := 0, locals := 0 }) (va_Pc [.ref (ad o), .int p0] (gPre adK adV (dC, dI) (wX ad cA σ) (tX cA) sz)) (va_Qi (fun (r : Int32) (τ : gs) => InvX τ ∧ σ = τ ∧ (True)) (fun τ t => gPost (dC, dI) (va_A (wX ad cA σ) sz) (wX ad cA τ) t) (va_A (wX ad cA σ) sz)) 0 0 (va_A (wX ad cA σ) sz) := by
  refine MetD.ofW (cc := cX0_startOf) (maxL := 2) (ret := (some .int)) (by decide) rfl ?_
  intro p e s m args below meth c s₁ B hml hv hd0
  obtain ⟨rfl, hsz, hP, hK, hD0, hT⟩ := hv
  have hx := B.exec
  have hb := B.bytes
  have hr := B.returns
  have hts0 := atoms_spec (ws := wsX0_startOf) B.pre
  have hK0 := hK
  have hown0 : s.vm.findClass RX0 = some m.cls := findClass_of_methodNamed B.named
  have hlocks := B.notSynchronized
  have hinX0 : ∀ w ∈ u_ws RX0 TX0 16, w ∈ wsX0_startOf := (fun _ h9 => List.mem_cons_of_mem _ (List.mem_append_right _ h9))
  subst hsz
  have hD := hD0.self (sz := s.heap.size)
  generalize hAe : va_A (wX ad cA σ) s.heap.size = A at hD hT ⊢
  have hA : ∀ q : Nat, s.heap.size ≤ q → A q := fun q h => by rw [← hAe]; exact Or.inr h
  have hS : va_S A s.heap s.heap [] := va_S.rf
  have hl := lv_entry ([.ref (ad o), .int p0]) (n := 2) (Nat.le_of_ble_eq_true rfl)
  rw [lg_entry_eq]
  generalize (lg_sl ([.ref (ad o), .int p0]) ++ List.replicate (2 - (lg_sl ([.ref (ad o), .int p0])).length) Slot.unset).toArray = ls at hl ⊢
  have hl : lv_has ls 2 [(0, .ref (ad o)), (1, .int p0)] := hl
  have hts := dr_words hts0 (s.drawn)
  have hK := gKd hK0 (s.drawn)
  have hown : (s.setDrawn (s.drawn)).vm.findClass RX0 = some m.cls := hown0
  refine lv_iload_n hx hb dX0_startOf_0 rfl (lv_at hl 1 rfl) ?_
  refine lv_if_le (tgt := 24) hx hb dX0_startOf_1 (by decide) (fun c_1 => ?_) (fun c_1 => ?_)
  · refine lv_aload_n hx hb dX0_startOf_24 rfl (lv_at hl 0 rfl) ?_
    refine va_get (D := (dC, dI)) (ci := 0) (v := .int ((σ o).1 6)) (C := RX0) (T := TX0) (N := 16) hx hb hts hinX0 hown hK hP o (at_0 ho) rfl 6 (by decide) (hts (.fieldLink RX0 31 "BondCalendars$Bond" "issueDay" "I") (by decide +kernel)) (fun _ h9 => h9) rfl dX0_startOf_25 ?_
    refine W.endD hd0 ?_
    exact W.iret (v := ((σ o).1 6)) hx hb hr (fun t ht hW => ⟨⟨((σ o).1 6), σ, rfl, ⟨hI, rfl, trivial⟩, ⟨by rw [ht]; exact hP, hD⟩⟩, hS.F ht⟩) hS.2.2 dX0_startOf_28
  · refine lv_iload_n hx hb dX0_startOf_4 rfl (lv_at hl 1 rfl) ?_
    refine lv_aload_n hx hb dX0_startOf_5 rfl (lv_at hl 0 rfl) ?_
    refine va_get (D := (dC, dI)) (ci := 0) (v := .ref (ad (o + 2))) (C := RX0) (T := TX0) (N := 16) hx hb hts hinX0 hown hK hP o (at_0 ho) rfl 11 (by decide) (hts (.fieldLink RX0 47 "BondCalendars$Bond" "endDays" "[I") (by decide +kernel)) (fun _ h9 => h9) rfl dX0_startOf_6 ?_
    refine va_alen (v := 81) hx hb hK hP ((o + 2)) ((o + 2)) (at_24 (kk_0_2 ho)) (ty_24 (kk_0_2 ho)) rfl dX0_startOf_9 ?_
    refine lv_icmp_gt (tgt := 24) hx hb dX0_startOf_10 (by decide) (fun c_2 => ?_) (fun c_2 => ?_)
    · refine lv_aload_n hx hb dX0_startOf_24 rfl (lv_at hl 0 rfl) ?_
      refine va_get (D := (dC, dI)) (ci := 0) (v := .int ((σ o).1 6)) (C := RX0) (T := TX0) (N := 16) hx hb hts hinX0 hown hK hP o (at_0 ho) rfl 6 (by decide) (hts (.fieldLink RX0 31 "BondCalendars$Bond" "issueDay" "I") (by decide +kernel)) (fun _ h9 => h9) rfl dX0_startOf_25 ?_
      refine W.endD hd0 ?_
      exact W.iret (v := ((σ o).1 6)) hx hb hr (fun t ht hW => ⟨⟨((σ o).1 6), σ, rfl, ⟨hI, rfl, trivial⟩, ⟨by rw [ht]; exact hP, hD⟩⟩, hS.F ht⟩) hS.2.2 dX0_startOf_28
    · refine lv_aload_n hx hb dX0_startOf_13 rfl (lv_at hl 0 rfl) ?_
      refine va_get (D := (dC, dI)) (ci := 0) (v := .ref (ad (o + 2))) (C := RX0) (T := TX0) (N := 16) hx hb hts hinX0 hown hK hP o (at_0 ho) rfl 11 (by decide) (hts (.fieldLink RX0 47 "BondCalendars$Bond" "endDays" "[I") (by decide +kernel)) (fun _ h9 => h9) rfl dX0_startOf_14 ?_
      refine lv_iload_n hx hb dX0_startOf_17 rfl (lv_at hl 1 rfl) ?_
      refine lv_iconst (v := 1) hx hb dX0_startOf_18 (by decide) ?_
      refine lv_isub hx hb dX0_startOf_19 ?_
      refine lv_topi (fun x_3 ex_3 => ?_)
      refine va_iald hx hb hK hP ((o + 2)) ((o + 2)) (at_24 (kk_0_2 ho)) (ty_24 (kk_0_2 ho)) (gin (N := 81) (by decide) (sub_k (k := 1) (by decide) (gl1 (b := 1) (Int32.not_le.mp c_1) (by decide)) ex_3).1 (Int32.lt_of_lt_of_le (sub_k (k := 1) (by decide) (gl1 (b := 1) (Int32.not_le.mp c_1) (by decide)) ex_3).2 (Int32.not_lt.mp c_2))) dX0_startOf_20 ?_
      refine lv_topi (fun x_4 _ => ?_)
      refine lv_goto (tgt := 28) hx hb dX0_startOf_21 (by decide) ?_
      refine W.endD hd0 ?_
      exact W.iret (v := x_4) hx hb hr (fun t ht hW => ⟨⟨x_4, σ, rfl, ⟨hI, rfl, trivial⟩, ⟨by rw [ht]; exact hP, hD⟩⟩, hS.F ht⟩) hS.2.2 dX0_startOf_28
set_option maxHeartbeats 8000000 in
set_option maxRecDepth 100000 in
theorem n_X0_isSettle (l : Launch) (dC : Nat → ClassId) (dI : Nat → Nat → Nat) (ad : Nat → Nat) (cA : Nat → ClassId) (adK adV : Nat → Nat) (sz : Nat) (σ : gs) (hI : InvX σ) (o : Nat) (ho : kX o = 0) (p0 : Int32) : MetD lw_cs l yX0_isSettle wsX0_isSettle ({ frames := 0, cells := 0, slots := 0, locals := 0 }) (va_Pc [.ref (ad o), .int p0] (gPre adK adV (dC, dI) (wX ad cA σ) (tX cA) sz)) (va_Qi (fun (r : Int32) (τ : gs) => InvX τ ∧ σ = τ ∧ (r = 0 ∨ r = 1)) (fun τ t => gPost (dC, dI) (va_A (wX ad cA σ) sz) (wX ad cA τ) t) (va_A (wX ad cA σ) sz)) 0 0 (va_A (wX ad cA σ) sz) := by
  refine MetD.ofW (cc := cX0_isSettle) (maxL := 2) (ret := (some .boolean)) (by decide) rfl ?_
  intro p e s m args below meth c s₁ B hml hv hd0
  obtain ⟨rfl, hsz, hP, hK, hD0, hT⟩ := hv
  have hx := B.exec
  have hb := B.bytes
  have hr := B.returns
  have hts0 := atoms_spec (ws := wsX0_isSettle) B.pre
  have hK0 := hK
  have hown0 : s.vm.findClass RX0 = some m.cls := findClass_of_methodNamed B.named
  have hlocks := B.notSynchronized
  have hinX0 : ∀ w ∈ u_ws RX0 TX0 16, w ∈ wsX0_isSettle := (fun _ h9 => List.mem_cons_of_mem _ (List.mem_append_right _ h9))
  subst hsz
  have hD := hD0.self (sz := s.heap.size)
  generalize hAe : va_A (wX ad cA σ) s.heap.size = A at hD hT ⊢
  have hA : ∀ q : Nat, s.heap.size ≤ q → A q := fun q h => by rw [← hAe]; exact Or.inr h
  have hS : va_S A s.heap s.heap [] := va_S.rf
  have hl := lv_entry ([.ref (ad o), .int p0]) (n := 2) (Nat.le_of_ble_eq_true rfl)
  rw [lg_entry_eq]
  generalize (lg_sl ([.ref (ad o), .int p0]) ++ List.replicate (2 - (lg_sl ([.ref (ad o), .int p0])).length) Slot.unset).toArray = ls at hl ⊢
  have hl : lv_has ls 2 [(0, .ref (ad o)), (1, .int p0)] := hl
  have hts := dr_words hts0 (s.drawn)
  have hK := gKd hK0 (s.drawn)
  have hown : (s.setDrawn (s.drawn)).vm.findClass RX0 = some m.cls := hown0
  refine lv_iload_n hx hb dX0_isSettle_0 rfl (lv_at hl 1 rfl) ?_
  refine lv_aload_n hx hb dX0_isSettle_1 rfl (lv_at hl 0 rfl) ?_
  refine va_get (D := (dC, dI)) (ci := 0) (v := .int ((σ o).1 6)) (C := RX0) (T := TX0) (N := 16) hx hb hts hinX0 hown hK hP o (at_0 ho) rfl 6 (by decide) (hts (.fieldLink RX0 31 "BondCalendars$Bond" "issueDay" "I") (by decide +kernel)) (fun _ h9 => h9) rfl dX0_isSettle_2 ?_
  refine lv_icmp_lt (tgt := 20) hx hb dX0_isSettle_5 (by decide) (fun c_1 => ?_) (fun c_1 => ?_)
  · refine lv_iconst (v := 0) hx hb dX0_isSettle_20 (by decide) ?_
    refine W.endD hd0 ?_
    exact W.zret (v := 0) hx hb hr (by decide) (fun t ht hW => ⟨⟨0, σ, rfl, ⟨hI, rfl, Or.inl rfl⟩, ⟨by rw [ht]; exact hP, hD⟩⟩, hS.F ht⟩) hS.2.2 dX0_isSettle_21
  · refine lv_iload_n hx hb dX0_isSettle_8 rfl (lv_at hl 1 rfl) ?_
    refine lv_aload_n hx hb dX0_isSettle_9 rfl (lv_at hl 0 rfl) ?_
    refine va_get (D := (dC, dI)) (ci := 0) (v := .int ((σ o).1 4)) (C := RX0) (T := TX0) (N := 16) hx hb hts hinX0 hown hK hP o (at_0 ho) rfl 4 (by decide) (hts (.fieldLink RX0 25 "BondCalendars$Bond" "matureDay" "I") (by decide +kernel)) (fun _ h9 => h9) rfl dX0_isSettle_10 ?_
    refine lv_icmp_ge (tgt := 20) hx hb dX0_isSettle_13 (by decide) (fun c_2 => ?_) (fun c_2 => ?_)
    · refine lv_iconst (v := 0) hx hb dX0_isSettle_20 (by decide) ?_
      refine W.endD hd0 ?_
      exact W.zret (v := 0) hx hb hr (by decide) (fun t ht hW => ⟨⟨0, σ, rfl, ⟨hI, rfl, Or.inl rfl⟩, ⟨by rw [ht]; exact hP, hD⟩⟩, hS.F ht⟩) hS.2.2 dX0_isSettle_21
    · refine lv_iconst (v := 1) hx hb dX0_isSettle_16 (by decide) ?_
      refine lv_goto (tgt := 21) hx hb dX0_isSettle_17 (by decide) ?_
      refine W.endD hd0 ?_
      exact W.zret (v := 1) hx hb hr (by decide) (fun t ht hW => ⟨⟨1, σ, rfl, ⟨hI, rfl, Or.inr rfl⟩, ⟨by rw [ht]; exact hP, hD⟩⟩, hS.F ht⟩) hS.2.2 dX0_isSettle_21
set_option maxHeartbeats 8000000 in
set_option maxRecDepth 100000 in
theorem n_X0_periodAt (l : Launch) (dC : Nat → ClassId) (dI : Nat → Nat → Nat) (ad : Nat → Nat) (cA : Nat → ClassId) (adK adV : Nat → Nat) (sz : Nat) (σ : gs) (hI : InvX σ) (o : Nat) (ho : kX o = 0) (p0 : Int32) : MetD lw_cs l yX0_periodAt wsX0_periodAt ({ frames := 0, cells := 0, slots := 0, locals := 0 }) (va_Pc [.ref (ad o), .int p0] (gPre adK adV (dC, dI) (wX ad cA σ) (tX cA) sz)) (va_Qi (fun (r : Int32) (τ : gs) => InvX τ ∧ σ = τ ∧ (True)) (fun τ t => gPost (dC, dI) (va_A (wX ad cA σ) sz) (wX ad cA τ) t) (va_A (wX ad cA σ) sz)) 0 0 (va_A (wX ad cA σ) sz) := by
  refine MetD.ofW (cc := cX0_periodAt) (maxL := 3) (ret := (some .int)) (by decide) rfl ?_
  intro p e s m args below meth c s₁ B hml hv hd0
  obtain ⟨rfl, hsz, hP, hK, hD0, hT⟩ := hv
  have hx := B.exec
  have hb := B.bytes
  have hr := B.returns
  have hts0 := atoms_spec (ws := wsX0_periodAt) B.pre
  have hK0 := hK
  have hown0 : s.vm.findClass RX0 = some m.cls := findClass_of_methodNamed B.named
  have hlocks := B.notSynchronized
  have hinX0 : ∀ w ∈ u_ws RX0 TX0 16, w ∈ wsX0_periodAt := (fun _ h9 => List.mem_cons_of_mem _ (List.mem_append_right _ h9))
  subst hsz
  have hD := hD0.self (sz := s.heap.size)
  generalize hAe : va_A (wX ad cA σ) s.heap.size = A at hD hT ⊢
  have hA : ∀ q : Nat, s.heap.size ≤ q → A q := fun q h => by rw [← hAe]; exact Or.inr h
  have hS : va_S A s.heap s.heap [] := va_S.rf
  have hl := lv_entry ([.ref (ad o), .int p0]) (n := 3) (Nat.le_of_ble_eq_true rfl)
  rw [lg_entry_eq]
  generalize (lg_sl ([.ref (ad o), .int p0]) ++ List.replicate (3 - (lg_sl ([.ref (ad o), .int p0])).length) Slot.unset).toArray = ls at hl ⊢
  have hl : lv_has ls 3 [(0, .ref (ad o)), (1, .int p0)] := hl
  have hts := dr_words hts0 (s.drawn)
  have hK := gKd hK0 (s.drawn)
  have hown : (s.setDrawn (s.drawn)).vm.findClass RX0 = some m.cls := hown0
  refine lv_iconst (v := 0) hx hb dX0_periodAt_0 (by decide) ?_
  refine lv_istore_n (lv' := [(2, .int 0), (0, .ref (ad o)), (1, .int p0)]) hx hb dX0_periodAt_1 rfl hl (by decide) rfl (fun ls hl => ?_)
  refine (fun (h : ∀ (n : Nat) (i2 : Int32) (d2 : Drawn) (H : Heap) (locs : List Loc) (ls : Array Slot), ((81 : Int32).toInt - i2.toInt).toNat < n → 0 ≤ i2 → s.drawn.sameBut d2 lw_cs → va_P (dC, dI) vwCl (wX ad cA σ) H → va_D A (wX ad cA σ) → va_S A s.heap H locs → lv_has ls 3 [(2, .int i2), (0, .ref (ad o)), (1, .int p0)] → W p l e _ (s.setDrawn d2) m _ below meth c H locs _ _ _ (F0 m 2 ls [])) => h _ 0 _ _ _ _ (Nat.lt_succ_self _) (by decide) hd0 hP hD hS (lv_sub hl [0, 1, 2] rfl)) ?_
  intro n2
  induction n2 with
  | zero => intro i2  d2 H locs ls hm; exact absurd hm (Nat.not_lt_zero _)
  | succ n2 ih2 =>
    intro i2  d2 H locs ls hm2 iv2_0  hd0 hP hD hS hl
    have hts := dr_words hts0 (d2)
    have hK := gKd hK0 (d2)
    have hown : (s.setDrawn (d2)).vm.findClass RX0 = some m.cls := hown0
    refine lv_iload_n hx hb dX0_periodAt_2 rfl (lv_at hl 0 rfl) ?_
    refine lv_aload_n hx hb dX0_periodAt_3 rfl (lv_at hl 1 rfl) ?_
    have bd_1 := rd_0_9 (c := o) hI ho
    refine va_get (D := (dC, dI)) (ci := 0) (v := .int ((σ o).1 9)) (C := RX0) (T := TX0) (N := 16) hx hb hts hinX0 hown hK hP o (at_0 ho) rfl 9 (by decide) (hts (.fieldLink RX0 40 "BondCalendars$Bond" "periods" "I") (by decide +kernel)) (fun _ h9 => h9) rfl dX0_periodAt_4 ?_
    refine lv_iconst (v := 1) hx hb dX0_periodAt_7 (by decide) ?_
    refine lv_isub hx hb dX0_periodAt_8 ?_
    refine lv_topi (fun x_2 ex_2 => ?_)
    refine lv_icmp_ge (tgt := 28) hx hb dX0_periodAt_9 (by decide) (fun c_3 => ?_) (fun c_3 => ?_)
    · refine lv_iload_n hx hb dX0_periodAt_28 rfl (lv_at hl 0 rfl) ?_
      refine W.endD hd0 ?_
      exact W.iret (v := i2) hx hb hr (fun t ht hW => ⟨⟨i2, σ, rfl, ⟨hI, rfl, trivial⟩, ⟨by rw [ht]; exact hP, hD⟩⟩, hS.F ht⟩) hS.2.2 dX0_periodAt_29
    · refine lv_aload_n hx hb dX0_periodAt_12 rfl (lv_at hl 1 rfl) ?_
      refine va_get (D := (dC, dI)) (ci := 0) (v := .ref (ad (o + 2))) (C := RX0) (T := TX0) (N := 16) hx hb hts hinX0 hown hK hP o (at_0 ho) rfl 11 (by decide) (hts (.fieldLink RX0 47 "BondCalendars$Bond" "endDays" "[I") (by decide +kernel)) (fun _ h9 => h9) rfl dX0_periodAt_13 ?_
      refine lv_iload_n hx hb dX0_periodAt_16 rfl (lv_at hl 0 rfl) ?_
      refine va_iald hx hb hK hP ((o + 2)) ((o + 2)) (at_24 (kk_0_2 ho)) (ty_24 (kk_0_2 ho)) (gin (N := 81) (by decide) iv2_0 (Int32.lt_of_lt_of_le (Int32.lt_trans (Int32.not_le.mp c_3) (sub_lt (k := 1) (by decide) bd_1.1 ex_2)) bd_1.2)) dX0_periodAt_17 ?_
      refine lv_topi (fun x_4 _ => ?_)
      refine lv_iload_n hx hb dX0_periodAt_18 rfl (lv_at hl 2 rfl) ?_
      refine lv_icmp_gt (tgt := 28) hx hb dX0_periodAt_19 (by decide) (fun c_5 => ?_) (fun c_5 => ?_)
      · refine lv_iload_n hx hb dX0_periodAt_28 rfl (lv_at hl 0 rfl) ?_
        refine W.endD hd0 ?_
        exact W.iret (v := i2) hx hb hr (fun t ht hW => ⟨⟨i2, σ, rfl, ⟨hI, rfl, trivial⟩, ⟨by rw [ht]; exact hP, hD⟩⟩, hS.F ht⟩) hS.2.2 dX0_periodAt_29
      · obtain ⟨x_6, ex_6⟩ : ∃ zz : Int32, zz = i2 + 1 := ⟨_, rfl⟩
        refine lv_iinc (v := x_6) (lv' := [(2, .int x_6), (0, .ref (ad o)), (1, .int p0)]) hx hb dX0_periodAt_22 hl (k := 0) rfl (by rw [ex_6]; rfl) (by decide) rfl (fun ls hl => ?_)
        refine lv_goto (tgt := 2) hx hb dX0_periodAt_25 (by decide) ?_
        exact ih2 x_6 _ _ _ _ (cnt_m iv2_0 (Int32.lt_of_lt_of_le (Int32.lt_trans (Int32.not_le.mp c_3) (sub_lt (k := 1) (by decide) bd_1.1 ex_2)) bd_1.2) hm2 ex_6) (cnt_0 iv2_0 (Int32.lt_of_lt_of_le (Int32.lt_trans (Int32.not_le.mp c_3) (sub_lt (k := 1) (by decide) bd_1.1 ex_2)) bd_1.2) ex_6) hd0 hP hD hS (lv_sub hl [0, 1, 2] rfl)
set_option maxHeartbeats 8000000 in
set_option maxRecDepth 100000 in
theorem n_X0_isWholeStep (l : Launch) (dC : Nat → ClassId) (dI : Nat → Nat → Nat) (ad : Nat → Nat) (cA : Nat → ClassId) (adK adV : Nat → Nat) (sz : Nat) (σ : gs) (hI : InvX σ) (o : Nat) (ho : kX o = 0) (p0 : Int32) : MetD lw_cs l yX0_isWholeStep wsX0_isWholeStep ({ frames := 1, cells := 0, slots := 0, locals := 21 }) (va_Pc [.ref (ad o), .int p0] (gPre adK adV (dC, dI) (wX ad cA σ) (tX cA) sz)) (va_Qi (fun (r : Int32) (τ : gs) => InvX τ ∧ σ = τ ∧ (r = 0 ∨ r = 1)) (fun τ t => gPost (dC, dI) (va_A (wX ad cA σ) sz) (wX ad cA τ) t) (va_A (wX ad cA σ) sz)) 0 0 (va_A (wX ad cA σ) sz) := by
  refine MetD.ofW (cc := cX0_isWholeStep) (maxL := 4) (ret := (some .boolean)) (by decide) rfl ?_
  intro p e s m args below meth c s₁ B hml hv hd0
  obtain ⟨rfl, hsz, hP, hK, hD0, hT⟩ := hv
  have hx := B.exec
  have hb := B.bytes
  have hr := B.returns
  have hts0 := atoms_spec (ws := wsX0_isWholeStep) B.pre
  have hK0 := hK
  have hown0 : s.vm.findClass RX0 = some m.cls := findClass_of_methodNamed B.named
  have hlocks := B.notSynchronized
  have hinX0 : ∀ w ∈ u_ws RX0 TX0 16, w ∈ wsX0_isWholeStep := (fun _ h9 => List.mem_cons_of_mem _ (List.mem_append_right _ h9))
  subst hsz
  have hD := hD0.self (sz := s.heap.size)
  generalize hAe : va_A (wX ad cA σ) s.heap.size = A at hD hT ⊢
  have hA : ∀ q : Nat, s.heap.size ≤ q → A q := fun q h => by rw [← hAe]; exact Or.inr h
  have hS : va_S A s.heap s.heap [] := va_S.rf
  have hl := lv_entry ([.ref (ad o), .int p0]) (n := 4) (Nat.le_of_ble_eq_true rfl)
  rw [lg_entry_eq]
  generalize (lg_sl ([.ref (ad o), .int p0]) ++ List.replicate (4 - (lg_sl ([.ref (ad o), .int p0])).length) Slot.unset).toArray = ls at hl ⊢
  have hl : lv_has ls 4 [(0, .ref (ad o)), (1, .int p0)] := hl
  have hts := dr_words hts0 (s.drawn)
  have hK := gKd hK0 (s.drawn)
  have hown : (s.setDrawn (s.drawn)).vm.findClass RX0 = some m.cls := hown0
  refine lv_aload_n hx hb dX0_isWholeStep_0 rfl (lv_at hl 0 rfl) ?_
  refine lv_iload_n hx hb dX0_isWholeStep_1 rfl (lv_at hl 1 rfl) ?_
  have hF := gFree hD hS hA
  refine va_calliD hd0 (va_runV_D (As := [.int p0]) (rest := []) ⟨hx, hb, hml, hown, hts⟩ (n_X0_startOf l dC dI ad cA adK adV s.heap.size σ hI o ho p0) (cwV 1 hts gX0_isWholeStep_X0_startOf rfl rfl rfl (by decide +kernel) ⟨Nat.le_of_ble_eq_true rfl, Nat.le_of_ble_eq_true rfl⟩) ⟨gBlind, va_recv hK hP (ci := 0) (q0 := o) rfl (at_0 ho), gStart (As := [.ref (ad o), .int p0]) hP hD hK0 hT hS hF (s.drawn)⟩ rfl rfl hl.1 rfl (lv_room (Nat.le_of_ble_eq_true rfl)) dX0_isWholeStep_2 ⟨Nat.le_of_ble_eq_true rfl, Nat.le_of_ble_eq_true rfl⟩) hS (fun q _ h => hF q h) hF (fun r_1 σ1 t H locs ht hvm hw hB hz1 hk1 hS d_2 hd0 => ?_)
  have hts := dr_words hts0 (d_2)
  have hK := gKd hK0 (d_2)
  have hown : (s.setDrawn (d_2)).vm.findClass RX0 = some m.cls := hown0
  obtain ⟨hP, hD⟩ := gBack hF ht hB
  obtain ⟨hIσ1, hro, hp_3⟩ := hw
  subst hro
  refine lv_istore_n (lv' := [(2, .int r_1), (0, .ref (ad o)), (1, .int p0)]) hx hb dX0_isWholeStep_5 rfl hl (by decide) rfl (fun ls hl => ?_)
  refine lv_iconst (v := 0) hx hb dX0_isWholeStep_6 (by decide) ?_
  refine lv_istore_n (lv' := [(3, .int 0), (2, .int r_1), (0, .ref (ad o)), (1, .int p0)]) hx hb dX0_isWholeStep_7 rfl hl (by decide) rfl (fun ls hl => ?_)
  refine (fun (h : ∀ (n : Nat) (i3 : Int32) (d8 : Drawn) (H : Heap) (locs : List Loc) (ls : Array Slot), ((94 : Int32).toInt - i3.toInt).toNat < n → 0 ≤ i3 → s.drawn.sameBut d8 lw_cs → va_P (dC, dI) vwCl (wX ad cA σ) H → va_D A (wX ad cA σ) → va_S A s.heap H locs → lv_has ls 4 [(3, .int i3), (2, .int r_1), (0, .ref (ad o)), (1, .int p0)] → W p l e _ (s.setDrawn d8) m _ below meth c H locs _ _ _ (F0 m 8 ls [])) => h _ 0 _ _ _ _ (Nat.lt_succ_self _) (by decide) hd0 hP hD hS (lv_sub hl [0, 1, 2, 3] rfl)) ?_
  intro n8
  induction n8 with
  | zero => intro i3  d8 H locs ls hm; exact absurd hm (Nat.not_lt_zero _)
  | succ n8 ih8 =>
    intro i3  d8 H locs ls hm8 iv8_0  hd0 hP hD hS hl
    have hts := dr_words hts0 (d8)
    have hK := gKd hK0 (d8)
    have hown : (s.setDrawn (d8)).vm.findClass RX0 = some m.cls := hown0
    refine lv_iload_n hx hb dX0_isWholeStep_8 rfl (lv_at hl 0 rfl) ?_
    refine lv_aload_n hx hb dX0_isWholeStep_9 rfl (lv_at hl 2 rfl) ?_
    refine va_get (D := (dC, dI)) (ci := 0) (v := .ref (ad (o + 1))) (C := RX0) (T := TX0) (N := 16) hx hb hts hinX0 hown hK hP o (at_0 ho) rfl 10 (by decide) (hts (.fieldLink RX0 43 "BondCalendars$Bond" "gridDays" "[I") (by decide +kernel)) (fun _ h9 => h9) rfl dX0_isWholeStep_10 ?_
    refine va_alen (v := 94) hx hb hK hP ((o + 1)) ((o + 1)) (at_27 (kk_0_1 ho)) (ty_27 (kk_0_1 ho)) rfl dX0_isWholeStep_13 ?_
    refine lv_iconst (v := 1) hx hb dX0_isWholeStep_14 (by decide) ?_
    refine lv_isub hx hb dX0_isWholeStep_15 ?_
    refine lv_topi (fun z_4 ez_4 => ?_)
    obtain rfl : z_4 = 93 := ez_4.trans (by decide)
    refine lv_icmp_ge (tgt := 66) hx hb dX0_isWholeStep_16 (by decide) (fun c_5 => ?_) (fun c_5 => ?_)
    · refine lv_iconst (v := 0) hx hb dX0_isWholeStep_66 (by decide) ?_
      refine W.endD hd0 ?_
      exact W.zret (v := 0) hx hb hr (by decide) (fun t ht hW => ⟨⟨0, σ, rfl, ⟨hI, rfl, Or.inl rfl⟩, ⟨by rw [ht]; exact hP, hD⟩⟩, hS.F ht⟩) hS.2.2 dX0_isWholeStep_67
    · refine lv_aload_n hx hb dX0_isWholeStep_19 rfl (lv_at hl 2 rfl) ?_
      refine va_get (D := (dC, dI)) (ci := 0) (v := .ref (ad (o + 1))) (C := RX0) (T := TX0) (N := 16) hx hb hts hinX0 hown hK hP o (at_0 ho) rfl 10 (by decide) (hts (.fieldLink RX0 43 "BondCalendars$Bond" "gridDays" "[I") (by decide +kernel)) (fun _ h9 => h9) rfl dX0_isWholeStep_20 ?_
      refine lv_iload_n hx hb dX0_isWholeStep_23 rfl (lv_at hl 0 rfl) ?_
      refine va_iald hx hb hK hP ((o + 1)) ((o + 1)) (at_27 (kk_0_1 ho)) (ty_27 (kk_0_1 ho)) (gin (N := 94) (by decide) iv8_0 (Int32.lt_trans (Int32.not_le.mp c_5) (show (93 : Int32) < 94 by decide))) dX0_isWholeStep_24 ?_
      refine lv_topi (fun x_6 _ => ?_)
      refine lv_iload_n hx hb dX0_isWholeStep_25 rfl (lv_at hl 1 rfl) ?_
      refine lv_icmp_ne (tgt := 60) hx hb dX0_isWholeStep_26 (by decide) (fun c_7 => ?_) (fun c_7 => ?_)
      · obtain ⟨x_8, ex_8⟩ : ∃ zz : Int32, zz = i3 + 1 := ⟨_, rfl⟩
        refine lv_iinc (v := x_8) (lv' := [(3, .int x_8), (2, .int r_1), (0, .ref (ad o)), (1, .int p0)]) hx hb dX0_isWholeStep_60 hl (k := 0) rfl (by rw [ex_8]; rfl) (by decide) rfl (fun ls hl => ?_)
        refine lv_goto (tgt := 8) hx hb dX0_isWholeStep_63 (by decide) ?_
        exact ih8 x_8 _ _ _ _ (cnt_m iv8_0 (Int32.lt_trans (Int32.not_le.mp c_5) (show (93 : Int32) < 94 by decide)) hm8 ex_8) (cnt_0 iv8_0 (Int32.lt_trans (Int32.not_le.mp c_5) (show (93 : Int32) < 94 by decide)) ex_8) hd0 hP hD hS (lv_sub hl [0, 1, 2, 3] rfl)
      · refine lv_aload_n hx hb dX0_isWholeStep_29 rfl (lv_at hl 2 rfl) ?_
        refine lv_iload_n hx hb dX0_isWholeStep_30 rfl (lv_at hl 3 rfl) ?_
        have hF := gFree hD hS hA
        refine va_calliD hd0 (va_runV_D (As := [.int p0]) (rest := []) ⟨hx, hb, hml, hown, hts⟩ (n_X0_hasPeriod l dC dI ad cA adK adV H.size σ hI o ho p0) (cwV 1 hts gX0_isWholeStep_X0_hasPeriod rfl rfl rfl (by decide +kernel) ⟨Nat.le_of_ble_eq_true rfl, Nat.le_of_ble_eq_true rfl⟩) ⟨gBlind, va_recv hK hP (ci := 0) (q0 := o) rfl (at_0 ho), gStart (As := [.ref (ad o), .int p0]) hP hD hK0 hT hS hF (d8)⟩ rfl rfl hl.1 rfl (lv_room (Nat.le_of_ble_eq_true rfl)) dX0_isWholeStep_31 ⟨Nat.le_of_ble_eq_true rfl, Nat.le_of_ble_eq_true rfl⟩) hS (fun q _ h => hF q h) hF (fun r_9 σ2 t H locs ht hvm hw hB hz1 hk1 hS d_10 hd0 => ?_)
        have hts := dr_words hts0 (d_10)
        have hK := gKd hK0 (d_10)
        have hown : (s.setDrawn (d_10)).vm.findClass RX0 = some m.cls := hown0
        obtain ⟨hP, hD⟩ := gBack hF ht hB
        obtain ⟨hIσ2, hro, hp_11⟩ := hw
        subst hro
        refine lv_if_eq (tgt := 58) hx hb dX0_isWholeStep_34 (by decide) (fun c_12 => ?_) (fun c_12 => ?_)
        · refine lv_iconst (v := 0) hx hb dX0_isWholeStep_58 (by decide) ?_
          refine W.endD hd0 ?_
          exact W.zret (v := 0) hx hb hr (by decide) (fun t ht hW => ⟨⟨0, σ, rfl, ⟨hI, rfl, Or.inl rfl⟩, ⟨by rw [ht]; exact hP, hD⟩⟩, hS.F ht⟩) hS.2.2 dX0_isWholeStep_59
        · refine lv_aload_n hx hb dX0_isWholeStep_37 rfl (lv_at hl 2 rfl) ?_
          refine va_get (D := (dC, dI)) (ci := 0) (v := .ref (ad (o + 1))) (C := RX0) (T := TX0) (N := 16) hx hb hts hinX0 hown hK hP o (at_0 ho) rfl 10 (by decide) (hts (.fieldLink RX0 43 "BondCalendars$Bond" "gridDays" "[I") (by decide +kernel)) (fun _ h9 => h9) rfl dX0_isWholeStep_38 ?_
          refine lv_iload_n hx hb dX0_isWholeStep_41 rfl (lv_at hl 0 rfl) ?_
          refine lv_iconst (v := 1) hx hb dX0_isWholeStep_42 (by decide) ?_
          refine lv_iadd hx hb dX0_isWholeStep_43 ?_
          refine lv_topi (fun x_13 ex_13 => ?_)
          refine va_iald hx hb hK hP ((o + 1)) ((o + 1)) (at_27 (kk_0_1 ho)) (ty_27 (kk_0_1 ho)) (gin (N := 94) (by decide) (cnt_0 iv8_0 (Int32.not_le.mp c_5) ex_13) (Int32.lt_of_le_of_lt (cnt_N iv8_0 (Int32.not_le.mp c_5) ex_13) (show (93 : Int32) < 94 by decide))) dX0_isWholeStep_44 ?_
          refine lv_topi (fun x_14 _ => ?_)
          refine lv_aload_n hx hb dX0_isWholeStep_45 rfl (lv_at hl 2 rfl) ?_
          refine va_get (D := (dC, dI)) (ci := 0) (v := .ref (ad (o + 2))) (C := RX0) (T := TX0) (N := 16) hx hb hts hinX0 hown hK hP o (at_0 ho) rfl 11 (by decide) (hts (.fieldLink RX0 47 "BondCalendars$Bond" "endDays" "[I") (by decide +kernel)) (fun _ h9 => h9) rfl dX0_isWholeStep_46 ?_
          refine lv_iload_n hx hb dX0_isWholeStep_49 rfl (lv_at hl 3 rfl) ?_
          refine va_iald hx hb hK hP ((o + 2)) ((o + 2)) (at_24 (kk_0_2 ho)) (ty_24 (kk_0_2 ho)) (gin (N := 81) (by decide) (hp_11.2 c_12).1 (hp_11.2 c_12).2) dX0_isWholeStep_50 ?_
          refine lv_topi (fun x_15 _ => ?_)
          refine lv_icmp_ne (tgt := 58) hx hb dX0_isWholeStep_51 (by decide) (fun c_16 => ?_) (fun c_16 => ?_)
          · refine lv_iconst (v := 0) hx hb dX0_isWholeStep_58 (by decide) ?_
            refine W.endD hd0 ?_
            exact W.zret (v := 0) hx hb hr (by decide) (fun t ht hW => ⟨⟨0, σ, rfl, ⟨hI, rfl, Or.inl rfl⟩, ⟨by rw [ht]; exact hP, hD⟩⟩, hS.F ht⟩) hS.2.2 dX0_isWholeStep_59
          · refine lv_iconst (v := 1) hx hb dX0_isWholeStep_54 (by decide) ?_
            refine lv_goto (tgt := 59) hx hb dX0_isWholeStep_55 (by decide) ?_
            refine W.endD hd0 ?_
            exact W.zret (v := 1) hx hb hr (by decide) (fun t ht hW => ⟨⟨1, σ, rfl, ⟨hI, rfl, Or.inr rfl⟩, ⟨by rw [ht]; exact hP, hD⟩⟩, hS.F ht⟩) hS.2.2 dX0_isWholeStep_59
set_option maxHeartbeats 8000000 in
set_option maxRecDepth 100000 in
theorem n_X0_measure (l : Launch) (dC : Nat → ClassId) (dI : Nat → Nat → Nat) (ad : Nat → Nat) (cA : Nat → ClassId) (adK adV : Nat → Nat) (sz : Nat) (σ : gs) (hI : InvX σ) (o : Nat) (ho : kX o = 0) (p0 : Int32) (p1 : Int32) (a2 : Nat) (ha2 : kX a2 = 5) : MetD lw_cs l yX0_measure wsX0_measure ({ frames := 3, cells := 0, slots := 0, locals := 84 }) (va_Pc [.ref (ad o), .int p0, .int p1, .ref (ad a2)] (gPre adK adV (dC, dI) (wX ad cA σ) (tX cA) sz)) (va_Qv (fun (τ : gs) => InvX τ ∧ gFr [5] σ τ ∧ (True)) (fun τ t => gPost (dC, dI) (va_A (wX ad cA σ) sz) (wX ad cA τ) t) (va_A (wX ad cA σ) sz)) 0 0 (va_A (wX ad cA σ) sz) := by
  refine MetD.ofW (cc := cX0_measure) (maxL := 6) (ret := none) (by decide) rfl ?_
  intro p e s m args below meth c s₁ B hml hv hd0
  obtain ⟨rfl, hsz, hP, hK, hD0, hT⟩ := hv
  have hx := B.exec
  have hb := B.bytes
  have hr := B.returns
  have hts0 := atoms_spec (ws := wsX0_measure) B.pre
  have hK0 := hK
  have hown0 : s.vm.findClass RX0 = some m.cls := findClass_of_methodNamed B.named
  have hlocks := B.notSynchronized
  have hinX0 : ∀ w ∈ u_ws RX0 TX0 16, w ∈ wsX0_measure := (fun _ h9 => List.mem_cons_of_mem _ (List.mem_append_left _ (List.mem_append_right _ h9)))
  subst hsz
  have hD := hD0.self (sz := s.heap.size)
  generalize hAe : va_A (wX ad cA σ) s.heap.size = A at hD hT ⊢
  have hA : ∀ q : Nat, s.heap.size ≤ q → A q := fun q h => by rw [← hAe]; exact Or.inr h
  have hS : va_S A s.heap s.heap [] := va_S.rf
  have hl := lv_entry ([.ref (ad o), .int p0, .int p1, .ref (ad a2)]) (n := 6) (Nat.le_of_ble_eq_true rfl)
  rw [lg_entry_eq]
  generalize (lg_sl ([.ref (ad o), .int p0, .int p1, .ref (ad a2)]) ++ List.replicate (6 - (lg_sl ([.ref (ad o), .int p0, .int p1, .ref (ad a2)])).length) Slot.unset).toArray = ls at hl ⊢
  have hl : lv_has ls 6 [(0, .ref (ad o)), (1, .int p0), (2, .int p1), (3, .ref (ad a2))] := hl
  have hts := dr_words hts0 (s.drawn)
  have hK := gKd hK0 (s.drawn)
  have hown : (s.setDrawn (s.drawn)).vm.findClass RX0 = some m.cls := hown0
  refine lv_aload_n hx hb dX0_measure_0 rfl (lv_at hl 0 rfl) ?_
  refine va_get (D := (dC, dI)) (ci := 0) (v := .int ((σ o).1 2)) (C := RX0) (T := TX0) (N := 16) hx hb hts hinX0 hown hK hP o (at_0 ho) rfl 2 (by decide) (hts (.fieldLink RX0 18 "BondCalendars$Bond" "rule" "I") (by decide +kernel)) (fun _ h9 => h9) rfl dX0_measure_1 ?_
  refine lv_iconst (v := 4) hx hb dX0_measure_4 (by decide) ?_
  refine lv_icmp_eq (tgt := 19) hx hb dX0_measure_5 (by decide) (fun c_1 => ?_) (fun c_1 => ?_)
  · refine lv_aload_n hx hb dX0_measure_19 rfl (lv_at hl 3 rfl) ?_
    refine lv_lconst (v := 0) hx hb dX0_measure_20 (by decide) ?_
    refine lv_lconst (v := 1) hx hb dX0_measure_21 (by decide) ?_
    have hF := gFree hD hS hA
    refine va_callvD hd0 (va_runV_D (As := [.long 0, .long 1]) (rest := []) ⟨hx, hb, hml, hown, hts⟩ (n_X6_set l dC dI ad cA adK adV s.heap.size σ hI a2 ha2 0 1) (cwV 2 hts gX0_measure_X6_set rfl rfl rfl (by decide +kernel) ⟨Nat.le_of_ble_eq_true rfl, Nat.le_of_ble_eq_true rfl⟩) ⟨gBlind, va_recv hK hP (ci := 5) (q0 := a2) rfl (at_5 ha2), gStart (As := [.ref (ad a2), .long 0, .long 1]) hP hD hK0 hT hS hF (s.drawn)⟩ rfl rfl hl.1 rfl (lv_room (Nat.le_of_ble_eq_true rfl)) dX0_measure_22 ⟨Nat.le_of_ble_eq_true rfl, Nat.le_of_ble_eq_true rfl⟩) hS (fun q _ h => hF q h) hF (fun σ1 t H locs ht hvm hw hB hz1 hk1 hS d_3 hd0 => ?_)
    have hts := dr_words hts0 (d_3)
    have hK := gKd hK0 (d_3)
    have hown : (s.setDrawn (d_3)).vm.findClass RX0 = some m.cls := hown0
    obtain ⟨hP, hD⟩ := gBack hF ht hB
    obtain ⟨hIσ1, fcσ1, hp_4⟩ := hw
    refine lv_iconst (v := 0) hx hb dX0_measure_25 (by decide) ?_
    refine lv_istore (lv' := [(4, .int 0), (0, .ref (ad o)), (1, .int p0), (2, .int p1), (3, .ref (ad a2))]) hx hb dX0_measure_26 hl (by decide) rfl (fun ls hl => ?_)
    refine (fun (h : ∀ (n : Nat) (i4 : Int32) (σ28x : gs) (d28 : Drawn) (H : Heap) (locs : List Loc) (ls : Array Slot), ((93 : Int32).toInt - i4.toInt).toNat < n → 0 ≤ i4 → InvX σ28x → gFr [5] σ σ28x → s.drawn.sameBut d28 lw_cs → va_P (dC, dI) vwCl (wX ad cA σ28x) H → va_D A (wX ad cA σ28x) → va_S A s.heap H locs → lv_has ls 6 [(4, .int i4), (0, .ref (ad o)), (1, .int p0), (2, .int p1), (3, .ref (ad a2))] → W p l e _ (s.setDrawn d28) m _ below meth c H locs _ _ _ (F0 m 28 ls [])) => h _ 0 σ1 _ _ _ _ (Nat.lt_succ_self _) (by decide) hIσ1 (gFr.tr (gFr.rfl (L := [5]) (σ := σ)) fcσ1 (by decide)) hd0 hP hD hS (lv_sub hl [0, 1, 2, 3, 4] rfl)) ?_
    intro n28
    induction n28 with
    | zero => intro i4 σ28x d28 H locs ls hm; exact absurd hm (Nat.not_lt_zero _)
    | succ n28 ih28 =>
      intro i4 σ28x d28 H locs ls hm28 iv28_0 hIσ28x frσ28x hd0 hP hD hS hl
      have hts := dr_words hts0 (d28)
      have hK := gKd hK0 (d28)
      have hown : (s.setDrawn (d28)).vm.findClass RX0 = some m.cls := hown0
      refine lv_iload hx hb dX0_measure_28 (lv_at hl 0 rfl) ?_
      refine lv_aload_n hx hb dX0_measure_30 rfl (lv_at hl 1 rfl) ?_
      refine va_get (D := (dC, dI)) (ci := 0) (v := .ref (ad (o + 1))) (C := RX0) (T := TX0) (N := 16) hx hb hts hinX0 hown hK hP o (at_0 ho) rfl 10 (by decide) (hts (.fieldLink RX0 43 "BondCalendars$Bond" "gridDays" "[I") (by decide +kernel)) (fun _ h9 => h9) rfl dX0_measure_31 ?_
      refine va_alen (v := 94) hx hb hK hP ((o + 1)) ((o + 1)) (at_27 (kk_0_1 ho)) (ty_27 (kk_0_1 ho)) rfl dX0_measure_34 ?_
      refine lv_iconst (v := 1) hx hb dX0_measure_35 (by decide) ?_
      refine lv_isub hx hb dX0_measure_36 ?_
      refine lv_topi (fun z_5 ez_5 => ?_)
      obtain rfl : z_5 = 93 := ez_5.trans (by decide)
      refine lv_icmp_ge (tgt := 119) hx hb dX0_measure_37 (by decide) (fun c_6 => ?_) (fun c_6 => ?_)
      · refine W.endD hd0 ?_
        exact W.vret hx hb hr (fun t ht hW => ⟨⟨σ28x, rfl, ⟨hIσ28x, frσ28x, trivial⟩, ⟨by rw [ht]; exact hP, hD⟩⟩, hS.F ht⟩) hS.2.2 dX0_measure_119
      · refine lv_aload_n hx hb dX0_measure_40 rfl (lv_at hl 1 rfl) ?_
        refine va_get (D := (dC, dI)) (ci := 0) (v := .ref (ad (o + 1))) (C := RX0) (T := TX0) (N := 16) hx hb hts hinX0 hown hK hP o (at_0 ho) rfl 10 (by decide) (hts (.fieldLink RX0 43 "BondCalendars$Bond" "gridDays" "[I") (by decide +kernel)) (fun _ h9 => h9) rfl dX0_measure_41 ?_
        refine lv_iload hx hb dX0_measure_44 (lv_at hl 0 rfl) ?_
        refine va_iald hx hb hK hP ((o + 1)) ((o + 1)) (at_27 (kk_0_1 ho)) (ty_27 (kk_0_1 ho)) (gin (N := 94) (by decide) iv28_0 (Int32.lt_trans (Int32.not_le.mp c_6) (show (93 : Int32) < 94 by decide))) dX0_measure_46 ?_
        refine lv_topi (fun x_7 _ => ?_)
        refine lv_iload_n hx hb dX0_measure_47 rfl (lv_at hl 3 rfl) ?_
        refine lv_icmp_ge (tgt := 119) hx hb dX0_measure_48 (by decide) (fun c_8 => ?_) (fun c_8 => ?_)
        · refine W.endD hd0 ?_
          exact W.vret hx hb hr (fun t ht hW => ⟨⟨σ28x, rfl, ⟨hIσ28x, frσ28x, trivial⟩, ⟨by rw [ht]; exact hP, hD⟩⟩, hS.F ht⟩) hS.2.2 dX0_measure_119
        · refine lv_iload_n hx hb dX0_measure_51 rfl (lv_at hl 3 rfl) ?_
          refine lv_aload_n hx hb dX0_measure_52 rfl (lv_at hl 1 rfl) ?_
          refine va_get (D := (dC, dI)) (ci := 0) (v := .ref (ad (o + 1))) (C := RX0) (T := TX0) (N := 16) hx hb hts hinX0 hown hK hP o (at_0 ho) rfl 10 (by decide) (hts (.fieldLink RX0 43 "BondCalendars$Bond" "gridDays" "[I") (by decide +kernel)) (fun _ h9 => h9) rfl dX0_measure_53 ?_
          refine lv_iload hx hb dX0_measure_56 (lv_at hl 0 rfl) ?_
          refine lv_iconst (v := 1) hx hb dX0_measure_58 (by decide) ?_
          refine lv_iadd hx hb dX0_measure_59 ?_
          refine lv_topi (fun x_9 ex_9 => ?_)
          refine va_iald hx hb hK hP ((o + 1)) ((o + 1)) (at_27 (kk_0_1 ho)) (ty_27 (kk_0_1 ho)) (gin (N := 94) (by decide) (cnt_0 iv28_0 (Int32.not_le.mp c_6) ex_9) (Int32.lt_of_le_of_lt (cnt_N iv28_0 (Int32.not_le.mp c_6) ex_9) (show (93 : Int32) < 94 by decide))) dX0_measure_60 ?_
          refine lv_topi (fun x_10 _ => ?_)
          refine va_mmin hx hb (hml.trans hl.1.symm) hown (hts (.methodLink RX0 123 Lib.Math.min.name) (by decide +kernel)) (hts (.static Lib.Math.min.name) (by decide +kernel)) (hts (.initialized "java/lang/Math") (by decide +kernel)) (hts (.code Lib.Math.min.name Lib.Math.min.code 2 (some .int)) (by decide +kernel)) (Nat.le_of_ble_eq_true rfl) (Nat.le_of_ble_eq_true rfl) (Nat.zero_le _) (Nat.zero_le _) dX0_measure_61 ?_
          refine lv_iload_n hx hb dX0_measure_64 rfl (lv_at hl 2 rfl) ?_
          refine lv_aload_n hx hb dX0_measure_65 rfl (lv_at hl 1 rfl) ?_
          refine va_get (D := (dC, dI)) (ci := 0) (v := .ref (ad (o + 1))) (C := RX0) (T := TX0) (N := 16) hx hb hts hinX0 hown hK hP o (at_0 ho) rfl 10 (by decide) (hts (.fieldLink RX0 43 "BondCalendars$Bond" "gridDays" "[I") (by decide +kernel)) (fun _ h9 => h9) rfl dX0_measure_66 ?_
          refine lv_iload hx hb dX0_measure_69 (lv_at hl 0 rfl) ?_
          refine va_iald hx hb hK hP ((o + 1)) ((o + 1)) (at_27 (kk_0_1 ho)) (ty_27 (kk_0_1 ho)) (gin (N := 94) (by decide) iv28_0 (Int32.lt_trans (Int32.not_le.mp c_6) (show (93 : Int32) < 94 by decide))) dX0_measure_71 ?_
          refine lv_topi (fun x_11 _ => ?_)
          refine va_mmax hx hb (hml.trans hl.1.symm) hown (hts (.methodLink RX0 128 Lib.Math.max.name) (by decide +kernel)) (hts (.static Lib.Math.max.name) (by decide +kernel)) (hts (.initialized "java/lang/Math") (by decide +kernel)) (hts (.code Lib.Math.max.name Lib.Math.max.code 2 (some .int)) (by decide +kernel)) (Nat.le_of_ble_eq_true rfl) (Nat.le_of_ble_eq_true rfl) (Nat.zero_le _) (Nat.zero_le _) dX0_measure_72 ?_
          refine lv_isub hx hb dX0_measure_75 ?_
          refine lv_topi (fun x_12 ex_12 => ?_)
          refine lv_istore (lv' := [(5, .int x_12), (4, .int i4), (0, .ref (ad o)), (1, .int p0), (2, .int p1), (3, .ref (ad a2))]) hx hb dX0_measure_76 hl (by decide) rfl (fun ls hl => ?_)
          refine lv_iload hx hb dX0_measure_78 (lv_at hl 0 rfl) ?_
          refine lv_if_le (tgt := 113) hx hb dX0_measure_80 (by decide) (fun c_13 => ?_) (fun c_13 => ?_)
          · obtain ⟨x_14, ex_14⟩ : ∃ zz : Int32, zz = i4 + 1 := ⟨_, rfl⟩
            refine lv_iinc (v := x_14) (lv' := [(4, .int x_14), (5, .int x_12), (0, .ref (ad o)), (1, .int p0), (2, .int p1), (3, .ref (ad a2))]) hx hb dX0_measure_113 hl (k := 1) rfl (by rw [ex_14]; rfl) (by decide) rfl (fun ls hl => ?_)
            refine lv_goto (tgt := 28) hx hb dX0_measure_116 (by decide) ?_
            exact ih28 x_14 σ28x _ _ _ _ (cnt_m iv28_0 (Int32.not_le.mp c_6) hm28 ex_14) (cnt_0 iv28_0 (Int32.not_le.mp c_6) ex_14) hIσ28x frσ28x hd0 hP hD hS (lv_sub hl [0, 2, 3, 4, 5] rfl)
          · refine lv_aload_n hx hb dX0_measure_83 rfl (lv_at hl 5 rfl) ?_
            refine lv_iload hx hb dX0_measure_84 (lv_at hl 0 rfl) ?_
            refine lv_i2l hx hb dX0_measure_86 rfl ?_
            refine lv_aload_n hx hb dX0_measure_87 rfl (lv_at hl 2 rfl) ?_
            refine va_get (D := (dC, dI)) (ci := 0) (v := .int ((σ o).1 1)) (C := RX0) (T := TX0) (N := 16) hx hb hts hinX0 hown hK hP o (at_0 ho) rfl 1 (by decide) (hts (.fieldLink RX0 15 "BondCalendars$Bond" "frequency" "I") (by decide +kernel)) (fun _ h9 => h9) (congrArg (fun z => some (Value.int z)) (show (σ28x o).1 1 = ((σ o).1 1) from by rw [frσ28x o (by rw [ho]; decide)])) dX0_measure_88 ?_
            refine lv_aload_n hx hb dX0_measure_91 rfl (lv_at hl 2 rfl) ?_
            refine va_get (D := (dC, dI)) (ci := 0) (v := .ref (ad (o + 1))) (C := RX0) (T := TX0) (N := 16) hx hb hts hinX0 hown hK hP o (at_0 ho) rfl 10 (by decide) (hts (.fieldLink RX0 43 "BondCalendars$Bond" "gridDays" "[I") (by decide +kernel)) (fun _ h9 => h9) rfl dX0_measure_92 ?_
            refine lv_iload hx hb dX0_measure_95 (lv_at hl 1 rfl) ?_
            refine lv_iconst (v := 1) hx hb dX0_measure_97 (by decide) ?_
            refine lv_iadd hx hb dX0_measure_98 ?_
            refine lv_topi (fun x_15 ex_15 => ?_)
            refine va_iald hx hb hK hP ((o + 1)) ((o + 1)) (at_27 (kk_0_1 ho)) (ty_27 (kk_0_1 ho)) (gin (N := 94) (by decide) (cnt_0 iv28_0 (Int32.not_le.mp c_6) ex_15) (Int32.lt_of_le_of_lt (cnt_N iv28_0 (Int32.not_le.mp c_6) ex_15) (show (93 : Int32) < 94 by decide))) dX0_measure_99 ?_
            refine lv_topi (fun x_16 _ => ?_)
            refine lv_aload_n hx hb dX0_measure_100 rfl (lv_at hl 2 rfl) ?_
            refine va_get (D := (dC, dI)) (ci := 0) (v := .ref (ad (o + 1))) (C := RX0) (T := TX0) (N := 16) hx hb hts hinX0 hown hK hP o (at_0 ho) rfl 10 (by decide) (hts (.fieldLink RX0 43 "BondCalendars$Bond" "gridDays" "[I") (by decide +kernel)) (fun _ h9 => h9) rfl dX0_measure_101 ?_
            refine lv_iload hx hb dX0_measure_104 (lv_at hl 1 rfl) ?_
            refine va_iald hx hb hK hP ((o + 1)) ((o + 1)) (at_27 (kk_0_1 ho)) (ty_27 (kk_0_1 ho)) (gin (N := 94) (by decide) iv28_0 (Int32.lt_trans (Int32.not_le.mp c_6) (show (93 : Int32) < 94 by decide))) dX0_measure_106 ?_
            refine lv_topi (fun x_17 _ => ?_)
            refine lv_isub hx hb dX0_measure_107 ?_
            refine lv_topi (fun x_18 ex_18 => ?_)
            refine lv_imul hx hb dX0_measure_108 ?_
            refine lv_topi (fun x_19 ex_19 => ?_)
            refine lv_i2l hx hb dX0_measure_109 rfl ?_
            have hF := gFree hD hS hA
            refine va_callvD hd0 (va_runV_D (As := [.long (x_12.toInt64), .long (x_19.toInt64)]) (rest := []) ⟨hx, hb, hml, hown, hts⟩ (n_X6_add l dC dI ad cA adK adV H.size σ28x hIσ28x a2 ha2 (x_12.toInt64) (x_19.toInt64)) (cwV 2 hts gX0_measure_X6_add rfl rfl rfl (by decide +kernel) ⟨Nat.le_of_ble_eq_true rfl, Nat.le_of_ble_eq_true rfl⟩) ⟨gBlind, va_recv hK hP (ci := 5) (q0 := a2) rfl (at_5 ha2), gStart (As := [.ref (ad a2), .long (x_12.toInt64), .long (x_19.toInt64)]) hP hD hK0 hT hS hF (d28)⟩ rfl rfl hl.1 rfl (lv_room (Nat.le_of_ble_eq_true rfl)) dX0_measure_110 ⟨Nat.le_of_ble_eq_true rfl, Nat.le_of_ble_eq_true rfl⟩) hS (fun q _ h => hF q h) hF (fun σ2 t H locs ht hvm hw hB hz1 hk1 hS d_21 hd0 => ?_)
            have hts := dr_words hts0 (d_21)
            have hK := gKd hK0 (d_21)
            have hown : (s.setDrawn (d_21)).vm.findClass RX0 = some m.cls := hown0
            obtain ⟨hP, hD⟩ := gBack hF ht hB
            obtain ⟨hIσ2, fcσ2, hp_22⟩ := hw
            obtain ⟨x_23, ex_23⟩ : ∃ zz : Int32, zz = i4 + 1 := ⟨_, rfl⟩
            refine lv_iinc (v := x_23) (lv' := [(4, .int x_23), (5, .int x_12), (0, .ref (ad o)), (1, .int p0), (2, .int p1), (3, .ref (ad a2))]) hx hb dX0_measure_113 hl (k := 1) rfl (by rw [ex_23]; rfl) (by decide) rfl (fun ls hl => ?_)
            refine lv_goto (tgt := 28) hx hb dX0_measure_116 (by decide) ?_
            exact ih28 x_23 σ2 _ _ _ _ (cnt_m iv28_0 (Int32.not_le.mp c_6) hm28 ex_23) (cnt_0 iv28_0 (Int32.not_le.mp c_6) ex_23) hIσ2 (gFr.tr frσ28x fcσ2 (by decide)) hd0 hP hD hS (lv_sub hl [0, 2, 3, 4, 5] rfl)
  · refine lv_aload_n hx hb dX0_measure_8 rfl (lv_at hl 3 rfl) ?_
    refine lv_aload_n hx hb dX0_measure_9 rfl (lv_at hl 0 rfl) ?_
    refine va_get (D := (dC, dI)) (ci := 0) (v := .int ((σ o).1 2)) (C := RX0) (T := TX0) (N := 16) hx hb hts hinX0 hown hK hP o (at_0 ho) rfl 2 (by decide) (hts (.fieldLink RX0 18 "BondCalendars$Bond" "rule" "I") (by decide +kernel)) (fun _ h9 => h9) rfl dX0_measure_10 ?_
    refine lv_iload_n hx hb dX0_measure_13 rfl (lv_at hl 1 rfl) ?_
    refine lv_iload_n hx hb dX0_measure_14 rfl (lv_at hl 2 rfl) ?_
    have hF := gFree hD hS hA
    refine va_callvD hd0 (va_runV_D (As := [.int ((σ o).1 2), .int p0, .int p1]) (rest := []) ⟨hx, hb, hml, hown, hts⟩ (n_X6_setCounted l dC dI ad cA adK adV s.heap.size σ hI a2 ha2 ((σ o).1 2) p0 p1) (cwV 3 hts gX0_measure_X6_setCounted rfl rfl rfl (by decide +kernel) ⟨Nat.le_of_ble_eq_true rfl, Nat.le_of_ble_eq_true rfl⟩) ⟨gBlind, va_recv hK hP (ci := 5) (q0 := a2) rfl (at_5 ha2), gStart (As := [.ref (ad a2), .int ((σ o).1 2), .int p0, .int p1]) hP hD hK0 hT hS hF (s.drawn)⟩ rfl rfl hl.1 rfl (lv_room (Nat.le_of_ble_eq_true rfl)) dX0_measure_15 ⟨Nat.le_of_ble_eq_true rfl, Nat.le_of_ble_eq_true rfl⟩) hS (fun q _ h => hF q h) hF (fun σ3 t H locs ht hvm hw hB hz1 hk1 hS d_25 hd0 => ?_)
    have hts := dr_words hts0 (d_25)
    have hK := gKd hK0 (d_25)
    have hown : (s.setDrawn (d_25)).vm.findClass RX0 = some m.cls := hown0
    obtain ⟨hP, hD⟩ := gBack hF ht hB
    obtain ⟨hIσ3, fcσ3, hp_26⟩ := hw
    refine W.endD hd0 ?_
    exact W.vret hx hb hr (fun t ht hW => ⟨⟨σ3, rfl, ⟨hIσ3, (gFr.tr (gFr.rfl (L := [5]) (σ := σ)) fcσ3 (by decide)), trivial⟩, ⟨by rw [ht]; exact hP, hD⟩⟩, hS.F ht⟩) hS.2.2 dX0_measure_18
set_option maxHeartbeats 8000000 in
set_option maxRecDepth 100000 in
theorem n_X0_measurePeriod (l : Launch) (dC : Nat → ClassId) (dI : Nat → Nat → Nat) (ad : Nat → Nat) (cA : Nat → ClassId) (adK adV : Nat → Nat) (sz : Nat) (σ : gs) (hI : InvX σ) (o : Nat) (ho : kX o = 0) (p0 : Int32) (a1 : Nat) (ha1 : kX a1 = 5) : MetD lw_cs l yX0_measurePeriod wsX0_measurePeriod ({ frames := 4, cells := 0, slots := 0, locals := 109 }) (va_Pc [.ref (ad o), .int p0, .ref (ad a1)] (gPre adK adV (dC, dI) (wX ad cA σ) (tX cA) sz)) (va_Qv (fun (τ : gs) => InvX τ ∧ gFr [5] σ τ ∧ (True)) (fun τ t => gPost (dC, dI) (va_A (wX ad cA σ) sz) (wX ad cA τ) t) (va_A (wX ad cA σ) sz)) 0 0 (va_A (wX ad cA σ) sz) := by
  refine MetD.ofW (cc := cX0_measurePeriod) (maxL := 3) (ret := none) (by decide) rfl ?_
  intro p e s m args below meth c s₁ B hml hv hd0
  obtain ⟨rfl, hsz, hP, hK, hD0, hT⟩ := hv
  have hx := B.exec
  have hb := B.bytes
  have hr := B.returns
  have hts0 := atoms_spec (ws := wsX0_measurePeriod) B.pre
  have hK0 := hK
  have hown0 : s.vm.findClass RX0 = some m.cls := findClass_of_methodNamed B.named
  have hlocks := B.notSynchronized
  have hinX0 : ∀ w ∈ u_ws RX0 TX0 16, w ∈ wsX0_measurePeriod := (fun _ h9 => List.mem_cons_of_mem _ (List.mem_append_left _ (List.mem_append_right _ h9)))
  subst hsz
  have hD := hD0.self (sz := s.heap.size)
  generalize hAe : va_A (wX ad cA σ) s.heap.size = A at hD hT ⊢
  have hA : ∀ q : Nat, s.heap.size ≤ q → A q := fun q h => by rw [← hAe]; exact Or.inr h
  have hS : va_S A s.heap s.heap [] := va_S.rf
  have hl := lv_entry ([.ref (ad o), .int p0, .ref (ad a1)]) (n := 3) (Nat.le_of_ble_eq_true rfl)
  rw [lg_entry_eq]
  generalize (lg_sl ([.ref (ad o), .int p0, .ref (ad a1)]) ++ List.replicate (3 - (lg_sl ([.ref (ad o), .int p0, .ref (ad a1)])).length) Slot.unset).toArray = ls at hl ⊢
  have hl : lv_has ls 3 [(0, .ref (ad o)), (1, .int p0), (2, .ref (ad a1))] := hl
  have hts := dr_words hts0 (s.drawn)
  have hK := gKd hK0 (s.drawn)
  have hown : (s.setDrawn (s.drawn)).vm.findClass RX0 = some m.cls := hown0
  refine lv_aload_n hx hb dX0_measurePeriod_0 rfl (lv_at hl 0 rfl) ?_
  refine lv_iload_n hx hb dX0_measurePeriod_1 rfl (lv_at hl 1 rfl) ?_
  have hF := gFree hD hS hA
  refine va_calliD hd0 (va_runV_D (As := [.int p0]) (rest := []) ⟨hx, hb, hml, hown, hts⟩ (n_X0_hasPeriod l dC dI ad cA adK adV s.heap.size σ hI o ho p0) (cwV 1 hts gX0_measurePeriod_X0_hasPeriod rfl rfl rfl (by decide +kernel) ⟨Nat.le_of_ble_eq_true rfl, Nat.le_of_ble_eq_true rfl⟩) ⟨gBlind, va_recv hK hP (ci := 0) (q0 := o) rfl (at_0 ho), gStart (As := [.ref (ad o), .int p0]) hP hD hK0 hT hS hF (s.drawn)⟩ rfl rfl hl.1 rfl (lv_room (Nat.le_of_ble_eq_true rfl)) dX0_measurePeriod_2 ⟨Nat.le_of_ble_eq_true rfl, Nat.le_of_ble_eq_true rfl⟩) hS (fun q _ h => hF q h) hF (fun r_1 σ1 t H locs ht hvm hw hB hz1 hk1 hS d_2 hd0 => ?_)
  have hts := dr_words hts0 (d_2)
  have hK := gKd hK0 (d_2)
  have hown : (s.setDrawn (d_2)).vm.findClass RX0 = some m.cls := hown0
  obtain ⟨hP, hD⟩ := gBack hF ht hB
  obtain ⟨hIσ1, hro, hp_3⟩ := hw
  subst hro
  refine lv_if_eq (tgt := 24) hx hb dX0_measurePeriod_5 (by decide) (fun c_4 => ?_) (fun c_4 => ?_)
  · refine W.endD hd0 ?_
    exact W.vret hx hb hr (fun t ht hW => ⟨⟨σ, rfl, ⟨hI, (gFr.rfl (L := [5]) (σ := σ)), trivial⟩, ⟨by rw [ht]; exact hP, hD⟩⟩, hS.F ht⟩) hS.2.2 dX0_measurePeriod_24
  · refine lv_aload_n hx hb dX0_measurePeriod_8 rfl (lv_at hl 0 rfl) ?_
    refine lv_aload_n hx hb dX0_measurePeriod_9 rfl (lv_at hl 0 rfl) ?_
    refine lv_iload_n hx hb dX0_measurePeriod_10 rfl (lv_at hl 1 rfl) ?_
    have hF := gFree hD hS hA
    refine va_calliD hd0 (va_runV_D (As := [.int p0]) (rest := [.ref (ad o)]) ⟨hx, hb, hml, hown, hts⟩ (n_X0_startOf l dC dI ad cA adK adV H.size σ hI o ho p0) (cwV 1 hts gX0_measurePeriod_X0_startOf rfl rfl rfl (by decide +kernel) ⟨Nat.le_of_ble_eq_true rfl, Nat.le_of_ble_eq_true rfl⟩) ⟨gBlind, va_recv hK hP (ci := 0) (q0 := o) rfl (at_0 ho), gStart (As := [.ref (ad o), .int p0]) hP hD hK0 hT hS hF (d_2)⟩ rfl rfl hl.1 rfl (lv_room (Nat.le_of_ble_eq_true rfl)) dX0_measurePeriod_11 ⟨Nat.le_of_ble_eq_true rfl, Nat.le_of_ble_eq_true rfl⟩) hS (fun q _ h => hF q h) hF (fun r_5 σ2 t H locs ht hvm hw hB hz1 hk1 hS d_6 hd0 => ?_)
    have hts := dr_words hts0 (d_6)
    have hK := gKd hK0 (d_6)
    have hown : (s.setDrawn (d_6)).vm.findClass RX0 = some m.cls := hown0
    obtain ⟨hP, hD⟩ := gBack hF ht hB
    obtain ⟨hIσ2, hro, hp_7⟩ := hw
    subst hro
    refine lv_aload_n hx hb dX0_measurePeriod_14 rfl (lv_at hl 0 rfl) ?_
    refine va_get (D := (dC, dI)) (ci := 0) (v := .ref (ad (o + 2))) (C := RX0) (T := TX0) (N := 16) hx hb hts hinX0 hown hK hP o (at_0 ho) rfl 11 (by decide) (hts (.fieldLink RX0 47 "BondCalendars$Bond" "endDays" "[I") (by decide +kernel)) (fun _ h9 => h9) rfl dX0_measurePeriod_15 ?_
    refine lv_iload_n hx hb dX0_measurePeriod_18 rfl (lv_at hl 1 rfl) ?_
    refine va_iald hx hb hK hP ((o + 2)) ((o + 2)) (at_24 (kk_0_2 ho)) (ty_24 (kk_0_2 ho)) (gin (N := 81) (by decide) (hp_3.2 c_4).1 (hp_3.2 c_4).2) dX0_measurePeriod_19 ?_
    refine lv_topi (fun x_8 _ => ?_)
    refine lv_aload_n hx hb dX0_measurePeriod_20 rfl (lv_at hl 2 rfl) ?_
    have hF := gFree hD hS hA
    refine va_callvD hd0 (va_runV_D (As := [.int r_5, .int x_8, .ref (ad a1)]) (rest := []) ⟨hx, hb, hml, hown, hts⟩ (n_X0_measure l dC dI ad cA adK adV H.size σ hI o ho r_5 x_8 a1 ha1) (cwV 3 hts gX0_measurePeriod_X0_measure rfl rfl rfl (by decide +kernel) ⟨Nat.le_of_ble_eq_true rfl, Nat.le_of_ble_eq_true rfl⟩) ⟨gBlind, va_recv hK hP (ci := 0) (q0 := o) rfl (at_0 ho), gStart (As := [.ref (ad o), .int r_5, .int x_8, .ref (ad a1)]) hP hD hK0 hT hS hF (d_6)⟩ rfl rfl hl.1 rfl (lv_room (Nat.le_of_ble_eq_true rfl)) dX0_measurePeriod_21 ⟨Nat.le_of_ble_eq_true rfl, Nat.le_of_ble_eq_true rfl⟩) hS (fun q _ h => hF q h) hF (fun σ3 t H locs ht hvm hw hB hz1 hk1 hS d_10 hd0 => ?_)
    have hts := dr_words hts0 (d_10)
    have hK := gKd hK0 (d_10)
    have hown : (s.setDrawn (d_10)).vm.findClass RX0 = some m.cls := hown0
    obtain ⟨hP, hD⟩ := gBack hF ht hB
    obtain ⟨hIσ3, fcσ3, hp_11⟩ := hw
    refine W.endD hd0 ?_
    exact W.vret hx hb hr (fun t ht hW => ⟨⟨σ3, rfl, ⟨hIσ3, (gFr.tr (gFr.rfl (L := [5]) (σ := σ)) fcσ3 (by decide)), trivial⟩, ⟨by rw [ht]; exact hP, hD⟩⟩, hS.F ht⟩) hS.2.2 dX0_measurePeriod_24
set_option maxHeartbeats 8000000 in
set_option maxRecDepth 100000 in
theorem n_X0_measureCoupon (l : Launch) (dC : Nat → ClassId) (dI : Nat → Nat → Nat) (ad : Nat → Nat) (cA : Nat → ClassId) (adK adV : Nat → Nat) (sz : Nat) (σ : gs) (hI : InvX σ) (o : Nat) (ho : kX o = 0) (p0 : Int32) (a1 : Nat) (ha1 : kX a1 = 5) : MetD lw_cs l yX0_measureCoupon wsX0_measureCoupon ({ frames := 4, cells := 0, slots := 0, locals := 109 }) (va_Pc [.ref (ad o), .int p0, .ref (ad a1)] (gPre adK adV (dC, dI) (wX ad cA σ) (tX cA) sz)) (va_Qv (fun (τ : gs) => InvX τ ∧ gFr [5] σ τ ∧ (True)) (fun τ t => gPost (dC, dI) (va_A (wX ad cA σ) sz) (wX ad cA τ) t) (va_A (wX ad cA σ) sz)) 0 0 (va_A (wX ad cA σ) sz) := by
  refine MetD.ofW (cc := cX0_measureCoupon) (maxL := 3) (ret := none) (by decide) rfl ?_
  intro p e s m args below meth c s₁ B hml hv hd0
  obtain ⟨rfl, hsz, hP, hK, hD0, hT⟩ := hv
  have hx := B.exec
  have hb := B.bytes
  have hr := B.returns
  have hts0 := atoms_spec (ws := wsX0_measureCoupon) B.pre
  have hK0 := hK
  have hown0 : s.vm.findClass RX0 = some m.cls := findClass_of_methodNamed B.named
  have hlocks := B.notSynchronized
  have hinX0 : ∀ w ∈ u_ws RX0 TX0 16, w ∈ wsX0_measureCoupon := (fun _ h9 => List.mem_cons_of_mem _ (List.mem_append_left _ (List.mem_append_right _ h9)))
  subst hsz
  have hD := hD0.self (sz := s.heap.size)
  generalize hAe : va_A (wX ad cA σ) s.heap.size = A at hD hT ⊢
  have hA : ∀ q : Nat, s.heap.size ≤ q → A q := fun q h => by rw [← hAe]; exact Or.inr h
  have hS : va_S A s.heap s.heap [] := va_S.rf
  have hl := lv_entry ([.ref (ad o), .int p0, .ref (ad a1)]) (n := 3) (Nat.le_of_ble_eq_true rfl)
  rw [lg_entry_eq]
  generalize (lg_sl ([.ref (ad o), .int p0, .ref (ad a1)]) ++ List.replicate (3 - (lg_sl ([.ref (ad o), .int p0, .ref (ad a1)])).length) Slot.unset).toArray = ls at hl ⊢
  have hl : lv_has ls 3 [(0, .ref (ad o)), (1, .int p0), (2, .ref (ad a1))] := hl
  have hts := dr_words hts0 (s.drawn)
  have hK := gKd hK0 (s.drawn)
  have hown : (s.setDrawn (s.drawn)).vm.findClass RX0 = some m.cls := hown0
  refine lv_aload_n hx hb dX0_measureCoupon_0 rfl (lv_at hl 0 rfl) ?_
  refine lv_iload_n hx hb dX0_measureCoupon_1 rfl (lv_at hl 1 rfl) ?_
  have hF := gFree hD hS hA
  refine va_calliD hd0 (va_runV_D (As := [.int p0]) (rest := []) ⟨hx, hb, hml, hown, hts⟩ (n_X0_hasPeriod l dC dI ad cA adK adV s.heap.size σ hI o ho p0) (cwV 1 hts gX0_measureCoupon_X0_hasPeriod rfl rfl rfl (by decide +kernel) ⟨Nat.le_of_ble_eq_true rfl, Nat.le_of_ble_eq_true rfl⟩) ⟨gBlind, va_recv hK hP (ci := 0) (q0 := o) rfl (at_0 ho), gStart (As := [.ref (ad o), .int p0]) hP hD hK0 hT hS hF (s.drawn)⟩ rfl rfl hl.1 rfl (lv_room (Nat.le_of_ble_eq_true rfl)) dX0_measureCoupon_2 ⟨Nat.le_of_ble_eq_true rfl, Nat.le_of_ble_eq_true rfl⟩) hS (fun q _ h => hF q h) hF (fun r_1 σ1 t H locs ht hvm hw hB hz1 hk1 hS d_2 hd0 => ?_)
  have hts := dr_words hts0 (d_2)
  have hK := gKd hK0 (d_2)
  have hown : (s.setDrawn (d_2)).vm.findClass RX0 = some m.cls := hown0
  obtain ⟨hP, hD⟩ := gBack hF ht hB
  obtain ⟨hIσ1, hro, hp_3⟩ := hw
  subst hro
  refine lv_if_eq (tgt := 36) hx hb dX0_measureCoupon_5 (by decide) (fun c_4 => ?_) (fun c_4 => ?_)
  · refine W.endD hd0 ?_
    exact W.vret hx hb hr (fun t ht hW => ⟨⟨σ, rfl, ⟨hI, (gFr.rfl (L := [5]) (σ := σ)), trivial⟩, ⟨by rw [ht]; exact hP, hD⟩⟩, hS.F ht⟩) hS.2.2 dX0_measureCoupon_36
  · refine lv_aload_n hx hb dX0_measureCoupon_8 rfl (lv_at hl 0 rfl) ?_
    refine lv_aload_n hx hb dX0_measureCoupon_9 rfl (lv_at hl 0 rfl) ?_
    refine lv_iload_n hx hb dX0_measureCoupon_10 rfl (lv_at hl 1 rfl) ?_
    have hF := gFree hD hS hA
    refine va_calliD hd0 (va_runV_D (As := [.int p0]) (rest := [.ref (ad o)]) ⟨hx, hb, hml, hown, hts⟩ (n_X0_startOf l dC dI ad cA adK adV H.size σ hI o ho p0) (cwV 1 hts gX0_measureCoupon_X0_startOf rfl rfl rfl (by decide +kernel) ⟨Nat.le_of_ble_eq_true rfl, Nat.le_of_ble_eq_true rfl⟩) ⟨gBlind, va_recv hK hP (ci := 0) (q0 := o) rfl (at_0 ho), gStart (As := [.ref (ad o), .int p0]) hP hD hK0 hT hS hF (d_2)⟩ rfl rfl hl.1 rfl (lv_room (Nat.le_of_ble_eq_true rfl)) dX0_measureCoupon_11 ⟨Nat.le_of_ble_eq_true rfl, Nat.le_of_ble_eq_true rfl⟩) hS (fun q _ h => hF q h) hF (fun r_5 σ2 t H locs ht hvm hw hB hz1 hk1 hS d_6 hd0 => ?_)
    have hts := dr_words hts0 (d_6)
    have hK := gKd hK0 (d_6)
    have hown : (s.setDrawn (d_6)).vm.findClass RX0 = some m.cls := hown0
    obtain ⟨hP, hD⟩ := gBack hF ht hB
    obtain ⟨hIσ2, hro, hp_7⟩ := hw
    subst hro
    refine lv_aload_n hx hb dX0_measureCoupon_14 rfl (lv_at hl 0 rfl) ?_
    refine va_get (D := (dC, dI)) (ci := 0) (v := .ref (ad (o + 2))) (C := RX0) (T := TX0) (N := 16) hx hb hts hinX0 hown hK hP o (at_0 ho) rfl 11 (by decide) (hts (.fieldLink RX0 47 "BondCalendars$Bond" "endDays" "[I") (by decide +kernel)) (fun _ h9 => h9) rfl dX0_measureCoupon_15 ?_
    refine lv_iload_n hx hb dX0_measureCoupon_18 rfl (lv_at hl 1 rfl) ?_
    refine va_iald hx hb hK hP ((o + 2)) ((o + 2)) (at_24 (kk_0_2 ho)) (ty_24 (kk_0_2 ho)) (gin (N := 81) (by decide) (hp_3.2 c_4).1 (hp_3.2 c_4).2) dX0_measureCoupon_19 ?_
    refine lv_topi (fun x_8 _ => ?_)
    refine lv_aload_n hx hb dX0_measureCoupon_20 rfl (lv_at hl 2 rfl) ?_
    have hF := gFree hD hS hA
    refine va_callvD hd0 (va_runV_D (As := [.int r_5, .int x_8, .ref (ad a1)]) (rest := []) ⟨hx, hb, hml, hown, hts⟩ (n_X0_measure l dC dI ad cA adK adV H.size σ hI o ho r_5 x_8 a1 ha1) (cwV 3 hts gX0_measureCoupon_X0_measure rfl rfl rfl (by decide +kernel) ⟨Nat.le_of_ble_eq_true rfl, Nat.le_of_ble_eq_true rfl⟩) ⟨gBlind, va_recv hK hP (ci := 0) (q0 := o) rfl (at_0 ho), gStart (As := [.ref (ad o), .int r_5, .int x_8, .ref (ad a1)]) hP hD hK0 hT hS hF (d_6)⟩ rfl rfl hl.1 rfl (lv_room (Nat.le_of_ble_eq_true rfl)) dX0_measureCoupon_21 ⟨Nat.le_of_ble_eq_true rfl, Nat.le_of_ble_eq_true rfl⟩) hS (fun q _ h => hF q h) hF (fun σ3 t H locs ht hvm hw hB hz1 hk1 hS d_10 hd0 => ?_)
    have hts := dr_words hts0 (d_10)
    have hK := gKd hK0 (d_10)
    have hown : (s.setDrawn (d_10)).vm.findClass RX0 = some m.cls := hown0
    obtain ⟨hP, hD⟩ := gBack hF ht hB
    obtain ⟨hIσ3, fcσ3, hp_11⟩ := hw
    refine lv_aload_n hx hb dX0_measureCoupon_24 rfl (lv_at hl 2 rfl) ?_
    refine lv_aload_n hx hb dX0_measureCoupon_25 rfl (lv_at hl 0 rfl) ?_
    refine va_get (D := (dC, dI)) (ci := 0) (v := .int ((σ o).1 0)) (C := RX0) (T := TX0) (N := 16) hx hb hts hinX0 hown hK hP o (at_0 ho) rfl 0 (by decide) (hts (.fieldLink RX0 11 "BondCalendars$Bond" "rate" "I") (by decide +kernel)) (fun _ h9 => h9) (congrArg (fun z => some (Value.int z)) (show (σ3 o).1 0 = ((σ o).1 0) from by rw [fcσ3 o (by rw [ho]; decide)])) dX0_measureCoupon_26 ?_
    refine lv_i2l hx hb dX0_measureCoupon_29 rfl ?_
    refine lv_ldc2 (v := 100) hx hb hown (hts (.constantLong RX0 103 (100)) (by decide +kernel)) dX0_measureCoupon_30 ?_
    have hF := gFree hD hS hA
    refine va_callvD hd0 (va_runV_D (As := [.long (((σ o).1 0).toInt64), .long 100]) (rest := []) ⟨hx, hb, hml, hown, hts⟩ (n_X6_multiply l dC dI ad cA adK adV H.size σ3 hIσ3 a1 ha1 (((σ o).1 0).toInt64) 100) (cwV 2 hts gX0_measureCoupon_X6_multiply rfl rfl rfl (by decide +kernel) ⟨Nat.le_of_ble_eq_true rfl, Nat.le_of_ble_eq_true rfl⟩) ⟨gBlind, va_recv hK hP (ci := 5) (q0 := a1) rfl (at_5 ha1), gStart (As := [.ref (ad a1), .long (((σ o).1 0).toInt64), .long 100]) hP hD hK0 hT hS hF (d_10)⟩ rfl rfl hl.1 rfl (lv_room (Nat.le_of_ble_eq_true rfl)) dX0_measureCoupon_33 ⟨Nat.le_of_ble_eq_true rfl, Nat.le_of_ble_eq_true rfl⟩) hS (fun q _ h => hF q h) hF (fun σ4 t H locs ht hvm hw hB hz1 hk1 hS d_13 hd0 => ?_)
    have hts := dr_words hts0 (d_13)
    have hK := gKd hK0 (d_13)
    have hown : (s.setDrawn (d_13)).vm.findClass RX0 = some m.cls := hown0
    obtain ⟨hP, hD⟩ := gBack hF ht hB
    obtain ⟨hIσ4, fcσ4, hp_14⟩ := hw
    refine W.endD hd0 ?_
    exact W.vret hx hb hr (fun t ht hW => ⟨⟨σ4, rfl, ⟨hIσ4, (gFr.tr (gFr.tr (gFr.rfl (L := [5]) (σ := σ)) fcσ3 (by decide)) fcσ4 (by decide)), trivial⟩, ⟨by rw [ht]; exact hP, hD⟩⟩, hS.F ht⟩) hS.2.2 dX0_measureCoupon_36
set_option maxHeartbeats 8000000 in
set_option maxRecDepth 100000 in
theorem n_X0_layPeriods (l : Launch) (dC : Nat → ClassId) (dI : Nat → Nat → Nat) (ad : Nat → Nat) (cA : Nat → ClassId) (adK adV : Nat → Nat) (sz : Nat) (σ : gs) (hI : InvX σ) (o : Nat) (ho : kX o = 0) (a0 : Nat) (ha0 : kX a0 = 4) (a1 : Nat) (ha1 : kX a1 = 5) : MetD lw_cs l yX0_layPeriods wsX0_layPeriods ({ frames := 5, cells := 0, slots := 0, locals := 131 }) (va_Pc [.ref (ad o), .ref (ad a0), .ref (ad a1)] (gPre adK adV (dC, dI) (wX ad cA σ) (tX cA) sz)) (va_Qv (fun (τ : gs) => InvX τ ∧ gFr [0, 5, 24, 28] σ τ ∧ (True)) (fun τ t => gPost (dC, dI) (va_A (wX ad cA σ) sz) (wX ad cA τ) t) (va_A (wX ad cA σ) sz)) 0 0 (va_A (wX ad cA σ) sz) := by
  refine MetD.ofW (cc := cX0_layPeriods) (maxL := 4) (ret := none) (by decide) rfl ?_
  intro p e s m args below meth c s₁ B hml hv hd0
  obtain ⟨rfl, hsz, hP, hK, hD0, hT⟩ := hv
  have hx := B.exec
  have hb := B.bytes
  have hr := B.returns
  have hts0 := atoms_spec (ws := wsX0_layPeriods) B.pre
  have hK0 := hK
  have hown0 : s.vm.findClass RX0 = some m.cls := findClass_of_methodNamed B.named
  have hlocks := B.notSynchronized
  have hinX0 : ∀ w ∈ u_ws RX0 TX0 16, w ∈ wsX0_layPeriods := (fun _ h9 => List.mem_cons_of_mem _ (List.mem_append_left _ (List.mem_append_left _ (List.mem_append_right _ h9))))
  subst hsz
  have hD := hD0.self (sz := s.heap.size)
  generalize hAe : va_A (wX ad cA σ) s.heap.size = A at hD hT ⊢
  have hA : ∀ q : Nat, s.heap.size ≤ q → A q := fun q h => by rw [← hAe]; exact Or.inr h
  have hS : va_S A s.heap s.heap [] := va_S.rf
  have hl := lv_entry ([.ref (ad o), .ref (ad a0), .ref (ad a1)]) (n := 4) (Nat.le_of_ble_eq_true rfl)
  rw [lg_entry_eq]
  generalize (lg_sl ([.ref (ad o), .ref (ad a0), .ref (ad a1)]) ++ List.replicate (4 - (lg_sl ([.ref (ad o), .ref (ad a0), .ref (ad a1)])).length) Slot.unset).toArray = ls at hl ⊢
  have hl : lv_has ls 4 [(0, .ref (ad o)), (1, .ref (ad a0)), (2, .ref (ad a1))] := hl
  have hts := dr_words hts0 (s.drawn)
  have hK := gKd hK0 (s.drawn)
  have hown : (s.setDrawn (s.drawn)).vm.findClass RX0 = some m.cls := hown0
  refine lv_aload_n hx hb dX0_layPeriods_0 rfl (lv_at hl 0 rfl) ?_
  refine lv_iconst (v := 0) hx hb dX0_layPeriods_1 (by decide) ?_
  refine va_put (D := (dC, dI)) (ci := 0) (v := .int 0) (C := RX0) (T := TX0) (N := 16) hx hb hts hinX0 tyX0 tyX0_ok nmX0 hown hK hP hD hS o (at_0 ho) rfl 9 (by decide) (hts (.fieldLink RX0 40 "BondCalendars$Bond" "periods" "I") (by decide +kernel)) (fun _ h9 => h9) rfl (ty := .int) (by decide +kernel) rfl rfl (Nat.le_of_ble_eq_true rfl) dX0_layPeriods_2 (fun H locs hP hD hS => ?_)
  obtain ⟨σ1, eσ1, hP, hD⟩ := gPut (se_0_9 ho) hP hD
  have hIσ1 : InvX σ1 := by rw [eσ1]; exact inv_I hI (ok_0_9 ho _ ⟨(show (0 : Int32) ≤ 0 by decide), (show (0 : Int32) ≤ 81 by decide)⟩)
  have frσ1 : gFr [0, 5, 24, 28] σ σ1 := by rw [eσ1]; exact gFr.pI (gFr.rfl (L := [0, 5, 24, 28]) (σ := σ)) ho (by decide)
  refine lv_aload_n hx hb dX0_layPeriods_5 rfl (lv_at hl 0 rfl) ?_
  refine va_get (D := (dC, dI)) (ci := 0) (v := .int ((σ o).1 8)) (C := RX0) (T := TX0) (N := 16) hx hb hts hinX0 hown hK hP o (at_0 ho) rfl 8 (by decide) (hts (.fieldLink RX0 37 "BondCalendars$Bond" "firstAt" "I") (by decide +kernel)) (fun _ h9 => h9) (congrArg (fun z => some (Value.int z)) (show (σ1 o).1 8 = ((σ o).1 8) from by rw [eσ1, gI_oth _ _ _ (by decide)])) dX0_layPeriods_6 ?_
  refine lv_istore_n (lv' := [(3, .int ((σ o).1 8)), (0, .ref (ad o)), (1, .ref (ad a0)), (2, .ref (ad a1))]) hx hb dX0_layPeriods_9 rfl hl (by decide) rfl (fun ls hl => ?_)
  refine (fun (h : ∀ (n : Nat) (i3 : Int32) (σ10x : gs) (d10 : Drawn) (H : Heap) (locs : List Loc) (ls : Array Slot), ((91 : Int32).toInt - i3.toInt).toNat < n → InvX σ10x → gFr [0, 5, 24, 28] σ σ10x → s.drawn.sameBut d10 lw_cs → va_P (dC, dI) vwCl (wX ad cA σ10x) H → va_D A (wX ad cA σ10x) → va_S A s.heap H locs → lv_has ls 4 [(3, .int i3), (0, .ref (ad o)), (1, .ref (ad a0)), (2, .ref (ad a1))] → W p l e _ (s.setDrawn d10) m _ below meth c H locs _ _ _ (F0 m 10 ls [])) => h _ ((σ o).1 8) σ1 _ _ _ _ (Nat.lt_succ_self _)  hIσ1 frσ1 hd0 hP hD hS (lv_sub hl [0, 1, 2, 3] rfl)) ?_
  intro n10
  induction n10 with
  | zero => intro i3 σ10x d10 H locs ls hm; exact absurd hm (Nat.not_lt_zero _)
  | succ n10 ih10 =>
    intro i3 σ10x d10 H locs ls hm10  hIσ10x frσ10x hd0 hP hD hS hl
    have hts := dr_words hts0 (d10)
    have hK := gKd hK0 (d10)
    have hown : (s.setDrawn (d10)).vm.findClass RX0 = some m.cls := hown0
    refine lv_iload_n hx hb dX0_layPeriods_10 rfl (lv_at hl 0 rfl) ?_
    refine lv_if_lt (tgt := 36) hx hb dX0_layPeriods_11 (by decide) (fun c_1 => ?_) (fun c_1 => ?_)
    · refine lv_aload_n hx hb dX0_layPeriods_36 rfl (lv_at hl 1 rfl) ?_
      refine va_get (D := (dC, dI)) (ci := 0) (v := .int ((σ10x o).1 4)) (C := RX0) (T := TX0) (N := 16) hx hb hts hinX0 hown hK hP o (at_0 ho) rfl 4 (by decide) (hts (.fieldLink RX0 25 "BondCalendars$Bond" "matureDay" "I") (by decide +kernel)) (fun _ h9 => h9) rfl dX0_layPeriods_37 ?_
      refine lv_aload_n hx hb dX0_layPeriods_40 rfl (lv_at hl 1 rfl) ?_
      refine va_get (D := (dC, dI)) (ci := 0) (v := .int ((σ10x o).1 5)) (C := RX0) (T := TX0) (N := 16) hx hb hts hinX0 hown hK hP o (at_0 ho) rfl 5 (by decide) (hts (.fieldLink RX0 28 "BondCalendars$Bond" "anchorDay" "I") (by decide +kernel)) (fun _ h9 => h9) rfl dX0_layPeriods_41 ?_
      refine lv_icmp_le (tgt := 55) hx hb dX0_layPeriods_44 (by decide) (fun c_2 => ?_) (fun c_2 => ?_)
      · refine lv_iconst (v := 0) hx hb dX0_layPeriods_55 (by decide) ?_
        refine lv_istore_n (lv' := [(3, .int 0), (0, .ref (ad o)), (1, .ref (ad a0)), (2, .ref (ad a1))]) hx hb dX0_layPeriods_56 rfl hl (by decide) rfl (fun ls hl => ?_)
        refine (fun (h : ∀ (n : Nat) (k3 : Int32) (σ57x : gs) (d57 : Drawn) (H : Heap) (locs : List Loc) (ls : Array Slot), ((81 : Int32).toInt - k3.toInt).toNat < n → 0 ≤ k3 → InvX σ57x → gFr [0, 5, 24, 28] σ σ57x → s.drawn.sameBut d57 lw_cs → va_P (dC, dI) vwCl (wX ad cA σ57x) H → va_D A (wX ad cA σ57x) → va_S A s.heap H locs → lv_has ls 4 [(3, .int k3), (0, .ref (ad o)), (1, .ref (ad a0)), (2, .ref (ad a1))] → W p l e _ (s.setDrawn d57) m _ below meth c H locs _ _ _ (F0 m 57 ls [])) => h _ 0 σ10x _ _ _ _ (Nat.lt_succ_self _) (by decide) hIσ10x frσ10x hd0 hP hD hS (lv_sub hl [0, 1, 2, 3] rfl)) ?_
        intro n57
        induction n57 with
        | zero => intro k3 σ57x d57 H locs ls hm; exact absurd hm (Nat.not_lt_zero _)
        | succ n57 ih57 =>
          intro k3 σ57x d57 H locs ls hm57 iv57_0 hIσ57x frσ57x hd0 hP hD hS hl
          have hts := dr_words hts0 (d57)
          have hK := gKd hK0 (d57)
          have hown : (s.setDrawn (d57)).vm.findClass RX0 = some m.cls := hown0
          refine lv_iload_n hx hb dX0_layPeriods_57 rfl (lv_at hl 0 rfl) ?_
          refine lv_aload_n hx hb dX0_layPeriods_58 rfl (lv_at hl 1 rfl) ?_
          have bd_3 := rd_0_9 (c := o) hIσ57x ho
          refine va_get (D := (dC, dI)) (ci := 0) (v := .int ((σ57x o).1 9)) (C := RX0) (T := TX0) (N := 16) hx hb hts hinX0 hown hK hP o (at_0 ho) rfl 9 (by decide) (hts (.fieldLink RX0 40 "BondCalendars$Bond" "periods" "I") (by decide +kernel)) (fun _ h9 => h9) rfl dX0_layPeriods_59 ?_
          refine lv_icmp_ge (tgt := 146) hx hb dX0_layPeriods_62 (by decide) (fun c_4 => ?_) (fun c_4 => ?_)
          · refine W.endD hd0 ?_
            exact W.vret hx hb hr (fun t ht hW => ⟨⟨σ57x, rfl, ⟨hIσ57x, frσ57x, trivial⟩, ⟨by rw [ht]; exact hP, hD⟩⟩, hS.F ht⟩) hS.2.2 dX0_layPeriods_146
          · refine lv_aload_n hx hb dX0_layPeriods_65 rfl (lv_at hl 1 rfl) ?_
            refine va_get (D := (dC, dI)) (ci := 0) (v := .ref (ad (o + 3))) (C := RX0) (T := TX0) (N := 16) hx hb hts hinX0 hown hK hP o (at_0 ho) rfl 12 (by decide) (hts (.fieldLink RX0 50 "BondCalendars$Bond" "exFrom" "[I") (by decide +kernel)) (fun _ h9 => h9) rfl dX0_layPeriods_66 ?_
            refine lv_iload_n hx hb dX0_layPeriods_69 rfl (lv_at hl 0 rfl) ?_
            refine lv_aload_n hx hb dX0_layPeriods_70 rfl (lv_at hl 2 rfl) ?_
            refine lv_aload_n hx hb dX0_layPeriods_71 rfl (lv_at hl 1 rfl) ?_
            refine va_get (D := (dC, dI)) (ci := 0) (v := .ref (ad (o + 2))) (C := RX0) (T := TX0) (N := 16) hx hb hts hinX0 hown hK hP o (at_0 ho) rfl 11 (by decide) (hts (.fieldLink RX0 47 "BondCalendars$Bond" "endDays" "[I") (by decide +kernel)) (fun _ h9 => h9) rfl dX0_layPeriods_72 ?_
            refine lv_iload_n hx hb dX0_layPeriods_75 rfl (lv_at hl 0 rfl) ?_
            refine va_iald hx hb hK hP ((o + 2)) ((o + 2)) (at_24 (kk_0_2 ho)) (ty_24 (kk_0_2 ho)) (gin (N := 81) (by decide) iv57_0 (Int32.lt_of_lt_of_le (Int32.not_le.mp c_4) bd_3.2)) dX0_layPeriods_76 ?_
            refine lv_topi (fun x_5 _ => ?_)
            refine lv_aload_n hx hb dX0_layPeriods_77 rfl (lv_at hl 1 rfl) ?_
            refine va_get (D := (dC, dI)) (ci := 0) (v := .int ((σ57x o).1 7)) (C := RX0) (T := TX0) (N := 16) hx hb hts hinX0 hown hK hP o (at_0 ho) rfl 7 (by decide) (hts (.fieldLink RX0 34 "BondCalendars$Bond" "exDays" "I") (by decide +kernel)) (fun _ h9 => h9) rfl dX0_layPeriods_78 ?_
            refine lv_ineg hx hb dX0_layPeriods_81 ?_
            have hF := gFree hD hS hA
            refine va_calliD hd0 (va_runV_D (As := [.int x_5, .int (-((σ57x o).1 7))]) (rest := [.int k3, .ref (ad (o + 3))]) ⟨hx, hb, hml, hown, hts⟩ (n_X5_businessDaysFrom l dC dI ad cA adK adV H.size σ57x hIσ57x a0 ha0 x_5 (-((σ57x o).1 7))) (cwV 2 hts gX0_layPeriods_X5_businessDaysFrom rfl rfl rfl (by decide +kernel) ⟨Nat.le_of_ble_eq_true rfl, Nat.le_of_ble_eq_true rfl⟩) ⟨gBlind, va_recv hK hP (ci := 4) (q0 := a0) rfl (at_4 ha0), gStart (As := [.ref (ad a0), .int x_5, .int (-((σ57x o).1 7))]) hP hD hK0 hT hS hF (d57)⟩ rfl rfl hl.1 rfl (lv_room (Nat.le_of_ble_eq_true rfl)) dX0_layPeriods_82 ⟨Nat.le_of_ble_eq_true rfl, Nat.le_of_ble_eq_true rfl⟩) hS (fun q _ h => hF q h) hF (fun r_6 σ2 t H locs ht hvm hw hB hz1 hk1 hS d_7 hd0 => ?_)
            have hts := dr_words hts0 (d_7)
            have hK := gKd hK0 (d_7)
            have hown : (s.setDrawn (d_7)).vm.findClass RX0 = some m.cls := hown0
            obtain ⟨hP, hD⟩ := gBack hF ht hB
            obtain ⟨hIσ2, hro, hp_8⟩ := hw
            subst hro
            refine va_iast hx hb hK hP hD hS ((o + 3)) ((o + 3)) (at_24 (kk_0_3 ho)) (ty_24 (kk_0_3 ho)) (gin (N := 81) (by decide) iv57_0 (Int32.lt_of_lt_of_le (Int32.not_le.mp c_4) bd_3.2)) dX0_layPeriods_85 (fun H locs hP hD hS => ?_)
            obtain ⟨σ3, eσ3, hP, hD⟩ := gPut (se_24 (kk_0_3 ho)) hP hD
            have hIσ3 : InvX σ3 := by rw [eσ3]; exact inv_I hIσ57x (ok_24 (kk_0_3 ho) _ _)
            have frσ3 : gFr [0, 5, 24, 28] σ σ3 := by rw [eσ3]; exact gFr.pI frσ57x (kk_0_3 ho) (by decide)
            refine lv_aload_n hx hb dX0_layPeriods_86 rfl (lv_at hl 1 rfl) ?_
            refine va_get (D := (dC, dI)) (ci := 0) (v := .ref (ad (o + 4))) (C := RX0) (T := TX0) (N := 16) hx hb hts hinX0 hown hK hP o (at_0 ho) rfl 13 (by decide) (hts (.fieldLink RX0 53 "BondCalendars$Bond" "payDays" "[I") (by decide +kernel)) (fun _ h9 => h9) rfl dX0_layPeriods_87 ?_
            refine lv_iload_n hx hb dX0_layPeriods_90 rfl (lv_at hl 0 rfl) ?_
            refine lv_aload_n hx hb dX0_layPeriods_91 rfl (lv_at hl 2 rfl) ?_
            refine lv_aload_n hx hb dX0_layPeriods_92 rfl (lv_at hl 1 rfl) ?_
            refine va_get (D := (dC, dI)) (ci := 0) (v := .ref (ad (o + 2))) (C := RX0) (T := TX0) (N := 16) hx hb hts hinX0 hown hK hP o (at_0 ho) rfl 11 (by decide) (hts (.fieldLink RX0 47 "BondCalendars$Bond" "endDays" "[I") (by decide +kernel)) (fun _ h9 => h9) rfl dX0_layPeriods_93 ?_
            refine lv_iload_n hx hb dX0_layPeriods_96 rfl (lv_at hl 0 rfl) ?_
            refine va_iald hx hb hK hP ((o + 2)) ((o + 2)) (at_24 (kk_0_2 ho)) (ty_24 (kk_0_2 ho)) (gin (N := 81) (by decide) iv57_0 (Int32.lt_of_lt_of_le (Int32.not_le.mp c_4) bd_3.2)) dX0_layPeriods_97 ?_
            refine lv_topi (fun x_9 _ => ?_)
            have hF := gFree hD hS hA
            refine va_calliD hd0 (va_runV_D (As := [.int x_9]) (rest := [.int k3, .ref (ad (o + 4))]) ⟨hx, hb, hml, hown, hts⟩ (n_X5_businessDayNotBefore l dC dI ad cA adK adV H.size σ3 hIσ3 a0 ha0 x_9) (cwV 1 hts gX0_layPeriods_X5_businessDayNotBefore rfl rfl rfl (by decide +kernel) ⟨Nat.le_of_ble_eq_true rfl, Nat.le_of_ble_eq_true rfl⟩) ⟨gBlind, va_recv hK hP (ci := 4) (q0 := a0) rfl (at_4 ha0), gStart (As := [.ref (ad a0), .int x_9]) hP hD hK0 hT hS hF (d_7)⟩ rfl rfl hl.1 rfl (lv_room (Nat.le_of_ble_eq_true rfl)) dX0_layPeriods_98 ⟨Nat.le_of_ble_eq_true rfl, Nat.le_of_ble_eq_true rfl⟩) hS (fun q _ h => hF q h) hF (fun r_10 σ4 t H locs ht hvm hw hB hz1 hk1 hS d_11 hd0 => ?_)
            have hts := dr_words hts0 (d_11)
            have hK := gKd hK0 (d_11)
            have hown : (s.setDrawn (d_11)).vm.findClass RX0 = some m.cls := hown0
            obtain ⟨hP, hD⟩ := gBack hF ht hB
            obtain ⟨hIσ4, hro, hp_12⟩ := hw
            subst hro
            refine va_iast hx hb hK hP hD hS ((o + 4)) ((o + 4)) (at_24 (kk_0_4 ho)) (ty_24 (kk_0_4 ho)) (gin (N := 81) (by decide) iv57_0 (Int32.lt_of_lt_of_le (Int32.not_le.mp c_4) bd_3.2)) dX0_layPeriods_101 (fun H locs hP hD hS => ?_)
            obtain ⟨σ5, eσ5, hP, hD⟩ := gPut (se_24 (kk_0_4 ho)) hP hD
            have hIσ5 : InvX σ5 := by rw [eσ5]; exact inv_I hIσ3 (ok_24 (kk_0_4 ho) _ _)
            have frσ5 : gFr [0, 5, 24, 28] σ σ5 := by rw [eσ5]; exact gFr.pI frσ3 (kk_0_4 ho) (by decide)
            refine lv_aload_n hx hb dX0_layPeriods_102 rfl (lv_at hl 1 rfl) ?_
            refine lv_iload_n hx hb dX0_layPeriods_103 rfl (lv_at hl 0 rfl) ?_
            refine lv_aload_n hx hb dX0_layPeriods_104 rfl (lv_at hl 3 rfl) ?_
            have hF := gFree hD hS hA
            refine va_callvD hd0 (va_runV_D (As := [.int k3, .ref (ad a1)]) (rest := []) ⟨hx, hb, hml, hown, hts⟩ (n_X0_measurePeriod l dC dI ad cA adK adV H.size σ5 hIσ5 o ho k3 a1 ha1) (cwV 2 hts gX0_layPeriods_X0_measurePeriod rfl rfl rfl (by decide +kernel) ⟨Nat.le_of_ble_eq_true rfl, Nat.le_of_ble_eq_true rfl⟩) ⟨gBlind, va_recv hK hP (ci := 0) (q0 := o) rfl (at_0 ho), gStart (As := [.ref (ad o), .int k3, .ref (ad a1)]) hP hD hK0 hT hS hF (d_11)⟩ rfl rfl hl.1 rfl (lv_room (Nat.le_of_ble_eq_true rfl)) dX0_layPeriods_105 ⟨Nat.le_of_ble_eq_true rfl, Nat.le_of_ble_eq_true rfl⟩) hS (fun q _ h => hF q h) hF (fun σ6 t H locs ht hvm hw hB hz1 hk1 hS d_14 hd0 => ?_)
            have hts := dr_words hts0 (d_14)
            have hK := gKd hK0 (d_14)
            have hown : (s.setDrawn (d_14)).vm.findClass RX0 = some m.cls := hown0
            obtain ⟨hP, hD⟩ := gBack hF ht hB
            obtain ⟨hIσ6, fcσ6, hp_15⟩ := hw
            refine lv_aload_n hx hb dX0_layPeriods_108 rfl (lv_at hl 1 rfl) ?_
            refine va_get (D := (dC, dI)) (ci := 0) (v := .ref (ad (o + 5))) (C := RX0) (T := TX0) (N := 16) hx hb hts hinX0 hown hK hP o (at_0 ho) rfl 14 (by decide) (hts (.fieldLink RX0 56 "BondCalendars$Bond" "fractions" "[D") (by decide +kernel)) (fun _ h9 => h9) rfl dX0_layPeriods_109 ?_
            refine lv_iload_n hx hb dX0_layPeriods_112 rfl (lv_at hl 0 rfl) ?_
            refine lv_aload_n hx hb dX0_layPeriods_113 rfl (lv_at hl 3 rfl) ?_
            have hF := gFree hD hS hA
            refine va_calldD hd0 (va_runV_D (As := []) (rest := [.int k3, .ref (ad (o + 5))]) ⟨hx, hb, hml, hown, hts⟩ (n_X6_value l dC dI ad cA adK adV H.size σ6 hIσ6 a1 ha1) (cwV 0 hts gX0_layPeriods_X6_value rfl rfl rfl (by decide +kernel) ⟨Nat.le_of_ble_eq_true rfl, Nat.le_of_ble_eq_true rfl⟩) ⟨gBlind, va_recv hK hP (ci := 5) (q0 := a1) rfl (at_5 ha1), gStart (As := [.ref (ad a1)]) hP hD hK0 hT hS hF (d_14)⟩ rfl rfl hl.1 rfl (lv_room (Nat.le_of_ble_eq_true rfl)) dX0_layPeriods_114 ⟨Nat.le_of_ble_eq_true rfl, Nat.le_of_ble_eq_true rfl⟩) hS (fun q _ h => hF q h) hF (fun r_16 σ7 t H locs ht hvm hw hB hz1 hk1 hS d_17 hd0 => ?_)
            have hts := dr_words hts0 (d_17)
            have hK := gKd hK0 (d_17)
            have hown : (s.setDrawn (d_17)).vm.findClass RX0 = some m.cls := hown0
            obtain ⟨hP, hD⟩ := gBack hF ht hB
            obtain ⟨hIσ7, hro, hp_18⟩ := hw
            subst hro
            refine va_dast hx hb hK hP hD hS ((o + 5)) ((o + 5)) (at_28 (kk_0_5 ho)) (ty_28 (kk_0_5 ho)) (gin (N := 81) (by decide) iv57_0 (Int32.lt_of_lt_of_le (Int32.not_le.mp c_4) bd_3.2)) dX0_layPeriods_117 (fun H locs hP hD hS => ?_)
            obtain ⟨σ8, eσ8, hP, hD⟩ := gPut (se_28 (kk_0_5 ho)) hP hD
            have hIσ8 : InvX σ8 := by rw [eσ8]; exact inv_D hIσ6
            have frσ8 : gFr [0, 5, 24, 28] σ σ8 := by rw [eσ8]; exact gFr.pD (gFr.tr frσ5 fcσ6 (by decide)) (kk_0_5 ho) (by decide)
            refine lv_aload_n hx hb dX0_layPeriods_118 rfl (lv_at hl 3 rfl) ?_
            refine lv_aload_n hx hb dX0_layPeriods_119 rfl (lv_at hl 1 rfl) ?_
            refine va_get (D := (dC, dI)) (ci := 0) (v := .int ((σ57x o).1 0)) (C := RX0) (T := TX0) (N := 16) hx hb hts hinX0 hown hK hP o (at_0 ho) rfl 0 (by decide) (hts (.fieldLink RX0 11 "BondCalendars$Bond" "rate" "I") (by decide +kernel)) (fun _ h9 => h9) (congrArg (fun z => some (Value.int z)) (show (σ8 o).1 0 = ((σ57x o).1 0) from by rw [eσ8, gD_ne _ _ _ (kne ho (kk_0_5 ho) (by decide)), fcσ6 o (by rw [ho]; decide), eσ5, gI_ne _ _ _ (kne ho (kk_0_4 ho) (by decide)), eσ3, gI_ne _ _ _ (kne ho (kk_0_3 ho) (by decide))])) dX0_layPeriods_120 ?_
            refine lv_i2l hx hb dX0_layPeriods_123 rfl ?_
            refine lv_ldc2 (v := 100) hx hb hown (hts (.constantLong RX0 103 (100)) (by decide +kernel)) dX0_layPeriods_124 ?_
            have hF := gFree hD hS hA
            refine va_callvD hd0 (va_runV_D (As := [.long (((σ57x o).1 0).toInt64), .long 100]) (rest := []) ⟨hx, hb, hml, hown, hts⟩ (n_X6_multiply l dC dI ad cA adK adV H.size σ8 hIσ8 a1 ha1 (((σ57x o).1 0).toInt64) 100) (cwV 2 hts gX0_layPeriods_X6_multiply rfl rfl rfl (by decide +kernel) ⟨Nat.le_of_ble_eq_true rfl, Nat.le_of_ble_eq_true rfl⟩) ⟨gBlind, va_recv hK hP (ci := 5) (q0 := a1) rfl (at_5 ha1), gStart (As := [.ref (ad a1), .long (((σ57x o).1 0).toInt64), .long 100]) hP hD hK0 hT hS hF (d_17)⟩ rfl rfl hl.1 rfl (lv_room (Nat.le_of_ble_eq_true rfl)) dX0_layPeriods_127 ⟨Nat.le_of_ble_eq_true rfl, Nat.le_of_ble_eq_true rfl⟩) hS (fun q _ h => hF q h) hF (fun σ9 t H locs ht hvm hw hB hz1 hk1 hS d_20 hd0 => ?_)
            have hts := dr_words hts0 (d_20)
            have hK := gKd hK0 (d_20)
            have hown : (s.setDrawn (d_20)).vm.findClass RX0 = some m.cls := hown0
            obtain ⟨hP, hD⟩ := gBack hF ht hB
            obtain ⟨hIσ9, fcσ9, hp_21⟩ := hw
            refine lv_aload_n hx hb dX0_layPeriods_130 rfl (lv_at hl 1 rfl) ?_
            refine va_get (D := (dC, dI)) (ci := 0) (v := .ref (ad (o + 6))) (C := RX0) (T := TX0) (N := 16) hx hb hts hinX0 hown hK hP o (at_0 ho) rfl 15 (by decide) (hts (.fieldLink RX0 60 "BondCalendars$Bond" "coupons" "[D") (by decide +kernel)) (fun _ h9 => h9) rfl dX0_layPeriods_131 ?_
            refine lv_iload_n hx hb dX0_layPeriods_134 rfl (lv_at hl 0 rfl) ?_
            refine lv_aload_n hx hb dX0_layPeriods_135 rfl (lv_at hl 3 rfl) ?_
            have hF := gFree hD hS hA
            refine va_calldD hd0 (va_runV_D (As := []) (rest := [.int k3, .ref (ad (o + 6))]) ⟨hx, hb, hml, hown, hts⟩ (n_X6_value l dC dI ad cA adK adV H.size σ9 hIσ9 a1 ha1) (cwV 0 hts gX0_layPeriods_X6_value rfl rfl rfl (by decide +kernel) ⟨Nat.le_of_ble_eq_true rfl, Nat.le_of_ble_eq_true rfl⟩) ⟨gBlind, va_recv hK hP (ci := 5) (q0 := a1) rfl (at_5 ha1), gStart (As := [.ref (ad a1)]) hP hD hK0 hT hS hF (d_20)⟩ rfl rfl hl.1 rfl (lv_room (Nat.le_of_ble_eq_true rfl)) dX0_layPeriods_136 ⟨Nat.le_of_ble_eq_true rfl, Nat.le_of_ble_eq_true rfl⟩) hS (fun q _ h => hF q h) hF (fun r_22 σ10 t H locs ht hvm hw hB hz1 hk1 hS d_23 hd0 => ?_)
            have hts := dr_words hts0 (d_23)
            have hK := gKd hK0 (d_23)
            have hown : (s.setDrawn (d_23)).vm.findClass RX0 = some m.cls := hown0
            obtain ⟨hP, hD⟩ := gBack hF ht hB
            obtain ⟨hIσ10, hro, hp_24⟩ := hw
            subst hro
            refine va_dast hx hb hK hP hD hS ((o + 6)) ((o + 6)) (at_28 (kk_0_6 ho)) (ty_28 (kk_0_6 ho)) (gin (N := 81) (by decide) iv57_0 (Int32.lt_of_lt_of_le (Int32.not_le.mp c_4) bd_3.2)) dX0_layPeriods_139 (fun H locs hP hD hS => ?_)
            obtain ⟨σ11, eσ11, hP, hD⟩ := gPut (se_28 (kk_0_6 ho)) hP hD
            have hIσ11 : InvX σ11 := by rw [eσ11]; exact inv_D hIσ9
            have frσ11 : gFr [0, 5, 24, 28] σ σ11 := by rw [eσ11]; exact gFr.pD (gFr.tr frσ8 fcσ9 (by decide)) (kk_0_6 ho) (by decide)
            obtain ⟨x_25, ex_25⟩ : ∃ zz : Int32, zz = k3 + 1 := ⟨_, rfl⟩
            refine lv_iinc (v := x_25) (lv' := [(3, .int x_25), (0, .ref (ad o)), (1, .ref (ad a0)), (2, .ref (ad a1))]) hx hb dX0_layPeriods_140 hl (k := 0) rfl (by rw [ex_25]; rfl) (by decide) rfl (fun ls hl => ?_)
            refine lv_goto (tgt := 57) hx hb dX0_layPeriods_143 (by decide) ?_
            exact ih57 x_25 σ11 _ _ _ _ (cnt_m iv57_0 (Int32.lt_of_lt_of_le (Int32.not_le.mp c_4) bd_3.2) hm57 ex_25) (cnt_0 iv57_0 (Int32.lt_of_lt_of_le (Int32.not_le.mp c_4) bd_3.2) ex_25) hIσ11 frσ11 hd0 hP hD hS (lv_sub hl [0, 1, 2, 3] rfl)
      · refine lv_aload_n hx hb dX0_layPeriods_47 rfl (lv_at hl 1 rfl) ?_
        refine lv_aload_n hx hb dX0_layPeriods_48 rfl (lv_at hl 1 rfl) ?_
        refine va_get (D := (dC, dI)) (ci := 0) (v := .int ((σ10x o).1 4)) (C := RX0) (T := TX0) (N := 16) hx hb hts hinX0 hown hK hP o (at_0 ho) rfl 4 (by decide) (hts (.fieldLink RX0 25 "BondCalendars$Bond" "matureDay" "I") (by decide +kernel)) (fun _ h9 => h9) rfl dX0_layPeriods_49 ?_
        have hF := gFree hD hS hA
        refine va_callvD hd0 (va_runV_D (As := [.int ((σ10x o).1 4)]) (rest := []) ⟨hx, hb, hml, hown, hts⟩ (n_X0_addPeriod l dC dI ad cA adK adV H.size σ10x hIσ10x o ho ((σ10x o).1 4)) (cwV 1 hts gX0_layPeriods_X0_addPeriod rfl rfl rfl (by decide +kernel) ⟨Nat.le_of_ble_eq_true rfl, Nat.le_of_ble_eq_true rfl⟩) ⟨gBlind, va_recv hK hP (ci := 0) (q0 := o) rfl (at_0 ho), gStart (As := [.ref (ad o), .int ((σ10x o).1 4)]) hP hD hK0 hT hS hF (d10)⟩ rfl rfl hl.1 rfl (lv_room (Nat.le_of_ble_eq_true rfl)) dX0_layPeriods_52 ⟨Nat.le_of_ble_eq_true rfl, Nat.le_of_ble_eq_true rfl⟩) hS (fun q _ h => hF q h) hF (fun σ12 t H locs ht hvm hw hB hz1 hk1 hS d_27 hd0 => ?_)
        have hts := dr_words hts0 (d_27)
        have hK := gKd hK0 (d_27)
        have hown : (s.setDrawn (d_27)).vm.findClass RX0 = some m.cls := hown0
        obtain ⟨hP, hD⟩ := gBack hF ht hB
        obtain ⟨hIσ12, fcσ12, hp_28⟩ := hw
        refine lv_iconst (v := 0) hx hb dX0_layPeriods_55 (by decide) ?_
        refine lv_istore_n (lv' := [(3, .int 0), (0, .ref (ad o)), (1, .ref (ad a0)), (2, .ref (ad a1))]) hx hb dX0_layPeriods_56 rfl hl (by decide) rfl (fun ls hl => ?_)
        refine (fun (h : ∀ (n : Nat) (k3 : Int32) (σ57x : gs) (d57 : Drawn) (H : Heap) (locs : List Loc) (ls : Array Slot), ((81 : Int32).toInt - k3.toInt).toNat < n → 0 ≤ k3 → InvX σ57x → gFr [0, 5, 24, 28] σ σ57x → s.drawn.sameBut d57 lw_cs → va_P (dC, dI) vwCl (wX ad cA σ57x) H → va_D A (wX ad cA σ57x) → va_S A s.heap H locs → lv_has ls 4 [(3, .int k3), (0, .ref (ad o)), (1, .ref (ad a0)), (2, .ref (ad a1))] → W p l e _ (s.setDrawn d57) m _ below meth c H locs _ _ _ (F0 m 57 ls [])) => h _ 0 σ12 _ _ _ _ (Nat.lt_succ_self _) (by decide) hIσ12 (gFr.tr frσ10x fcσ12 (by decide)) hd0 hP hD hS (lv_sub hl [0, 1, 2, 3] rfl)) ?_
        intro n57
        induction n57 with
        | zero => intro k3 σ57x d57 H locs ls hm; exact absurd hm (Nat.not_lt_zero _)
        | succ n57 ih57 =>
          intro k3 σ57x d57 H locs ls hm57 iv57_0 hIσ57x frσ57x hd0 hP hD hS hl
          have hts := dr_words hts0 (d57)
          have hK := gKd hK0 (d57)
          have hown : (s.setDrawn (d57)).vm.findClass RX0 = some m.cls := hown0
          refine lv_iload_n hx hb dX0_layPeriods_57 rfl (lv_at hl 0 rfl) ?_
          refine lv_aload_n hx hb dX0_layPeriods_58 rfl (lv_at hl 1 rfl) ?_
          have bd_29 := rd_0_9 (c := o) hIσ57x ho
          refine va_get (D := (dC, dI)) (ci := 0) (v := .int ((σ57x o).1 9)) (C := RX0) (T := TX0) (N := 16) hx hb hts hinX0 hown hK hP o (at_0 ho) rfl 9 (by decide) (hts (.fieldLink RX0 40 "BondCalendars$Bond" "periods" "I") (by decide +kernel)) (fun _ h9 => h9) rfl dX0_layPeriods_59 ?_
          refine lv_icmp_ge (tgt := 146) hx hb dX0_layPeriods_62 (by decide) (fun c_30 => ?_) (fun c_30 => ?_)
          · refine W.endD hd0 ?_
            exact W.vret hx hb hr (fun t ht hW => ⟨⟨σ57x, rfl, ⟨hIσ57x, frσ57x, trivial⟩, ⟨by rw [ht]; exact hP, hD⟩⟩, hS.F ht⟩) hS.2.2 dX0_layPeriods_146
          · refine lv_aload_n hx hb dX0_layPeriods_65 rfl (lv_at hl 1 rfl) ?_
            refine va_get (D := (dC, dI)) (ci := 0) (v := .ref (ad (o + 3))) (C := RX0) (T := TX0) (N := 16) hx hb hts hinX0 hown hK hP o (at_0 ho) rfl 12 (by decide) (hts (.fieldLink RX0 50 "BondCalendars$Bond" "exFrom" "[I") (by decide +kernel)) (fun _ h9 => h9) rfl dX0_layPeriods_66 ?_
            refine lv_iload_n hx hb dX0_layPeriods_69 rfl (lv_at hl 0 rfl) ?_
            refine lv_aload_n hx hb dX0_layPeriods_70 rfl (lv_at hl 2 rfl) ?_
            refine lv_aload_n hx hb dX0_layPeriods_71 rfl (lv_at hl 1 rfl) ?_
            refine va_get (D := (dC, dI)) (ci := 0) (v := .ref (ad (o + 2))) (C := RX0) (T := TX0) (N := 16) hx hb hts hinX0 hown hK hP o (at_0 ho) rfl 11 (by decide) (hts (.fieldLink RX0 47 "BondCalendars$Bond" "endDays" "[I") (by decide +kernel)) (fun _ h9 => h9) rfl dX0_layPeriods_72 ?_
            refine lv_iload_n hx hb dX0_layPeriods_75 rfl (lv_at hl 0 rfl) ?_
            refine va_iald hx hb hK hP ((o + 2)) ((o + 2)) (at_24 (kk_0_2 ho)) (ty_24 (kk_0_2 ho)) (gin (N := 81) (by decide) iv57_0 (Int32.lt_of_lt_of_le (Int32.not_le.mp c_30) bd_29.2)) dX0_layPeriods_76 ?_
            refine lv_topi (fun x_31 _ => ?_)
            refine lv_aload_n hx hb dX0_layPeriods_77 rfl (lv_at hl 1 rfl) ?_
            refine va_get (D := (dC, dI)) (ci := 0) (v := .int ((σ57x o).1 7)) (C := RX0) (T := TX0) (N := 16) hx hb hts hinX0 hown hK hP o (at_0 ho) rfl 7 (by decide) (hts (.fieldLink RX0 34 "BondCalendars$Bond" "exDays" "I") (by decide +kernel)) (fun _ h9 => h9) rfl dX0_layPeriods_78 ?_
            refine lv_ineg hx hb dX0_layPeriods_81 ?_
            have hF := gFree hD hS hA
            refine va_calliD hd0 (va_runV_D (As := [.int x_31, .int (-((σ57x o).1 7))]) (rest := [.int k3, .ref (ad (o + 3))]) ⟨hx, hb, hml, hown, hts⟩ (n_X5_businessDaysFrom l dC dI ad cA adK adV H.size σ57x hIσ57x a0 ha0 x_31 (-((σ57x o).1 7))) (cwV 2 hts gX0_layPeriods_X5_businessDaysFrom rfl rfl rfl (by decide +kernel) ⟨Nat.le_of_ble_eq_true rfl, Nat.le_of_ble_eq_true rfl⟩) ⟨gBlind, va_recv hK hP (ci := 4) (q0 := a0) rfl (at_4 ha0), gStart (As := [.ref (ad a0), .int x_31, .int (-((σ57x o).1 7))]) hP hD hK0 hT hS hF (d57)⟩ rfl rfl hl.1 rfl (lv_room (Nat.le_of_ble_eq_true rfl)) dX0_layPeriods_82 ⟨Nat.le_of_ble_eq_true rfl, Nat.le_of_ble_eq_true rfl⟩) hS (fun q _ h => hF q h) hF (fun r_32 σ13 t H locs ht hvm hw hB hz1 hk1 hS d_33 hd0 => ?_)
            have hts := dr_words hts0 (d_33)
            have hK := gKd hK0 (d_33)
            have hown : (s.setDrawn (d_33)).vm.findClass RX0 = some m.cls := hown0
            obtain ⟨hP, hD⟩ := gBack hF ht hB
            obtain ⟨hIσ13, hro, hp_34⟩ := hw
            subst hro
            refine va_iast hx hb hK hP hD hS ((o + 3)) ((o + 3)) (at_24 (kk_0_3 ho)) (ty_24 (kk_0_3 ho)) (gin (N := 81) (by decide) iv57_0 (Int32.lt_of_lt_of_le (Int32.not_le.mp c_30) bd_29.2)) dX0_layPeriods_85 (fun H locs hP hD hS => ?_)
            obtain ⟨σ14, eσ14, hP, hD⟩ := gPut (se_24 (kk_0_3 ho)) hP hD
            have hIσ14 : InvX σ14 := by rw [eσ14]; exact inv_I hIσ57x (ok_24 (kk_0_3 ho) _ _)
            have frσ14 : gFr [0, 5, 24, 28] σ σ14 := by rw [eσ14]; exact gFr.pI frσ57x (kk_0_3 ho) (by decide)
            refine lv_aload_n hx hb dX0_layPeriods_86 rfl (lv_at hl 1 rfl) ?_
            refine va_get (D := (dC, dI)) (ci := 0) (v := .ref (ad (o + 4))) (C := RX0) (T := TX0) (N := 16) hx hb hts hinX0 hown hK hP o (at_0 ho) rfl 13 (by decide) (hts (.fieldLink RX0 53 "BondCalendars$Bond" "payDays" "[I") (by decide +kernel)) (fun _ h9 => h9) rfl dX0_layPeriods_87 ?_
            refine lv_iload_n hx hb dX0_layPeriods_90 rfl (lv_at hl 0 rfl) ?_
            refine lv_aload_n hx hb dX0_layPeriods_91 rfl (lv_at hl 2 rfl) ?_
            refine lv_aload_n hx hb dX0_layPeriods_92 rfl (lv_at hl 1 rfl) ?_
            refine va_get (D := (dC, dI)) (ci := 0) (v := .ref (ad (o + 2))) (C := RX0) (T := TX0) (N := 16) hx hb hts hinX0 hown hK hP o (at_0 ho) rfl 11 (by decide) (hts (.fieldLink RX0 47 "BondCalendars$Bond" "endDays" "[I") (by decide +kernel)) (fun _ h9 => h9) rfl dX0_layPeriods_93 ?_
            refine lv_iload_n hx hb dX0_layPeriods_96 rfl (lv_at hl 0 rfl) ?_
            refine va_iald hx hb hK hP ((o + 2)) ((o + 2)) (at_24 (kk_0_2 ho)) (ty_24 (kk_0_2 ho)) (gin (N := 81) (by decide) iv57_0 (Int32.lt_of_lt_of_le (Int32.not_le.mp c_30) bd_29.2)) dX0_layPeriods_97 ?_
            refine lv_topi (fun x_35 _ => ?_)
            have hF := gFree hD hS hA
            refine va_calliD hd0 (va_runV_D (As := [.int x_35]) (rest := [.int k3, .ref (ad (o + 4))]) ⟨hx, hb, hml, hown, hts⟩ (n_X5_businessDayNotBefore l dC dI ad cA adK adV H.size σ14 hIσ14 a0 ha0 x_35) (cwV 1 hts gX0_layPeriods_X5_businessDayNotBefore rfl rfl rfl (by decide +kernel) ⟨Nat.le_of_ble_eq_true rfl, Nat.le_of_ble_eq_true rfl⟩) ⟨gBlind, va_recv hK hP (ci := 4) (q0 := a0) rfl (at_4 ha0), gStart (As := [.ref (ad a0), .int x_35]) hP hD hK0 hT hS hF (d_33)⟩ rfl rfl hl.1 rfl (lv_room (Nat.le_of_ble_eq_true rfl)) dX0_layPeriods_98 ⟨Nat.le_of_ble_eq_true rfl, Nat.le_of_ble_eq_true rfl⟩) hS (fun q _ h => hF q h) hF (fun r_36 σ15 t H locs ht hvm hw hB hz1 hk1 hS d_37 hd0 => ?_)
            have hts := dr_words hts0 (d_37)
            have hK := gKd hK0 (d_37)
            have hown : (s.setDrawn (d_37)).vm.findClass RX0 = some m.cls := hown0
            obtain ⟨hP, hD⟩ := gBack hF ht hB
            obtain ⟨hIσ15, hro, hp_38⟩ := hw
            subst hro
            refine va_iast hx hb hK hP hD hS ((o + 4)) ((o + 4)) (at_24 (kk_0_4 ho)) (ty_24 (kk_0_4 ho)) (gin (N := 81) (by decide) iv57_0 (Int32.lt_of_lt_of_le (Int32.not_le.mp c_30) bd_29.2)) dX0_layPeriods_101 (fun H locs hP hD hS => ?_)
            obtain ⟨σ16, eσ16, hP, hD⟩ := gPut (se_24 (kk_0_4 ho)) hP hD
            have hIσ16 : InvX σ16 := by rw [eσ16]; exact inv_I hIσ14 (ok_24 (kk_0_4 ho) _ _)
            have frσ16 : gFr [0, 5, 24, 28] σ σ16 := by rw [eσ16]; exact gFr.pI frσ14 (kk_0_4 ho) (by decide)
            refine lv_aload_n hx hb dX0_layPeriods_102 rfl (lv_at hl 1 rfl) ?_
            refine lv_iload_n hx hb dX0_layPeriods_103 rfl (lv_at hl 0 rfl) ?_
            refine lv_aload_n hx hb dX0_layPeriods_104 rfl (lv_at hl 3 rfl) ?_
            have hF := gFree hD hS hA
            refine va_callvD hd0 (va_runV_D (As := [.int k3, .ref (ad a1)]) (rest := []) ⟨hx, hb, hml, hown, hts⟩ (n_X0_measurePeriod l dC dI ad cA adK adV H.size σ16 hIσ16 o ho k3 a1 ha1) (cwV 2 hts gX0_layPeriods_X0_measurePeriod rfl rfl rfl (by decide +kernel) ⟨Nat.le_of_ble_eq_true rfl, Nat.le_of_ble_eq_true rfl⟩) ⟨gBlind, va_recv hK hP (ci := 0) (q0 := o) rfl (at_0 ho), gStart (As := [.ref (ad o), .int k3, .ref (ad a1)]) hP hD hK0 hT hS hF (d_37)⟩ rfl rfl hl.1 rfl (lv_room (Nat.le_of_ble_eq_true rfl)) dX0_layPeriods_105 ⟨Nat.le_of_ble_eq_true rfl, Nat.le_of_ble_eq_true rfl⟩) hS (fun q _ h => hF q h) hF (fun σ17 t H locs ht hvm hw hB hz1 hk1 hS d_40 hd0 => ?_)
            have hts := dr_words hts0 (d_40)
            have hK := gKd hK0 (d_40)
            have hown : (s.setDrawn (d_40)).vm.findClass RX0 = some m.cls := hown0
            obtain ⟨hP, hD⟩ := gBack hF ht hB
            obtain ⟨hIσ17, fcσ17, hp_41⟩ := hw
            refine lv_aload_n hx hb dX0_layPeriods_108 rfl (lv_at hl 1 rfl) ?_
            refine va_get (D := (dC, dI)) (ci := 0) (v := .ref (ad (o + 5))) (C := RX0) (T := TX0) (N := 16) hx hb hts hinX0 hown hK hP o (at_0 ho) rfl 14 (by decide) (hts (.fieldLink RX0 56 "BondCalendars$Bond" "fractions" "[D") (by decide +kernel)) (fun _ h9 => h9) rfl dX0_layPeriods_109 ?_
            refine lv_iload_n hx hb dX0_layPeriods_112 rfl (lv_at hl 0 rfl) ?_
            refine lv_aload_n hx hb dX0_layPeriods_113 rfl (lv_at hl 3 rfl) ?_
            have hF := gFree hD hS hA
            refine va_calldD hd0 (va_runV_D (As := []) (rest := [.int k3, .ref (ad (o + 5))]) ⟨hx, hb, hml, hown, hts⟩ (n_X6_value l dC dI ad cA adK adV H.size σ17 hIσ17 a1 ha1) (cwV 0 hts gX0_layPeriods_X6_value rfl rfl rfl (by decide +kernel) ⟨Nat.le_of_ble_eq_true rfl, Nat.le_of_ble_eq_true rfl⟩) ⟨gBlind, va_recv hK hP (ci := 5) (q0 := a1) rfl (at_5 ha1), gStart (As := [.ref (ad a1)]) hP hD hK0 hT hS hF (d_40)⟩ rfl rfl hl.1 rfl (lv_room (Nat.le_of_ble_eq_true rfl)) dX0_layPeriods_114 ⟨Nat.le_of_ble_eq_true rfl, Nat.le_of_ble_eq_true rfl⟩) hS (fun q _ h => hF q h) hF (fun r_42 σ18 t H locs ht hvm hw hB hz1 hk1 hS d_43 hd0 => ?_)
            have hts := dr_words hts0 (d_43)
            have hK := gKd hK0 (d_43)
            have hown : (s.setDrawn (d_43)).vm.findClass RX0 = some m.cls := hown0
            obtain ⟨hP, hD⟩ := gBack hF ht hB
            obtain ⟨hIσ18, hro, hp_44⟩ := hw
            subst hro
            refine va_dast hx hb hK hP hD hS ((o + 5)) ((o + 5)) (at_28 (kk_0_5 ho)) (ty_28 (kk_0_5 ho)) (gin (N := 81) (by decide) iv57_0 (Int32.lt_of_lt_of_le (Int32.not_le.mp c_30) bd_29.2)) dX0_layPeriods_117 (fun H locs hP hD hS => ?_)
            obtain ⟨σ19, eσ19, hP, hD⟩ := gPut (se_28 (kk_0_5 ho)) hP hD
            have hIσ19 : InvX σ19 := by rw [eσ19]; exact inv_D hIσ17
            have frσ19 : gFr [0, 5, 24, 28] σ σ19 := by rw [eσ19]; exact gFr.pD (gFr.tr frσ16 fcσ17 (by decide)) (kk_0_5 ho) (by decide)
            refine lv_aload_n hx hb dX0_layPeriods_118 rfl (lv_at hl 3 rfl) ?_
            refine lv_aload_n hx hb dX0_layPeriods_119 rfl (lv_at hl 1 rfl) ?_
            refine va_get (D := (dC, dI)) (ci := 0) (v := .int ((σ57x o).1 0)) (C := RX0) (T := TX0) (N := 16) hx hb hts hinX0 hown hK hP o (at_0 ho) rfl 0 (by decide) (hts (.fieldLink RX0 11 "BondCalendars$Bond" "rate" "I") (by decide +kernel)) (fun _ h9 => h9) (congrArg (fun z => some (Value.int z)) (show (σ19 o).1 0 = ((σ57x o).1 0) from by rw [eσ19, gD_ne _ _ _ (kne ho (kk_0_5 ho) (by decide)), fcσ17 o (by rw [ho]; decide), eσ16, gI_ne _ _ _ (kne ho (kk_0_4 ho) (by decide)), eσ14, gI_ne _ _ _ (kne ho (kk_0_3 ho) (by decide))])) dX0_layPeriods_120 ?_
            refine lv_i2l hx hb dX0_layPeriods_123 rfl ?_
            refine lv_ldc2 (v := 100) hx hb hown (hts (.constantLong RX0 103 (100)) (by decide +kernel)) dX0_layPeriods_124 ?_
            have hF := gFree hD hS hA
            refine va_callvD hd0 (va_runV_D (As := [.long (((σ57x o).1 0).toInt64), .long 100]) (rest := []) ⟨hx, hb, hml, hown, hts⟩ (n_X6_multiply l dC dI ad cA adK adV H.size σ19 hIσ19 a1 ha1 (((σ57x o).1 0).toInt64) 100) (cwV 2 hts gX0_layPeriods_X6_multiply rfl rfl rfl (by decide +kernel) ⟨Nat.le_of_ble_eq_true rfl, Nat.le_of_ble_eq_true rfl⟩) ⟨gBlind, va_recv hK hP (ci := 5) (q0 := a1) rfl (at_5 ha1), gStart (As := [.ref (ad a1), .long (((σ57x o).1 0).toInt64), .long 100]) hP hD hK0 hT hS hF (d_43)⟩ rfl rfl hl.1 rfl (lv_room (Nat.le_of_ble_eq_true rfl)) dX0_layPeriods_127 ⟨Nat.le_of_ble_eq_true rfl, Nat.le_of_ble_eq_true rfl⟩) hS (fun q _ h => hF q h) hF (fun σ20 t H locs ht hvm hw hB hz1 hk1 hS d_46 hd0 => ?_)
            have hts := dr_words hts0 (d_46)
            have hK := gKd hK0 (d_46)
            have hown : (s.setDrawn (d_46)).vm.findClass RX0 = some m.cls := hown0
            obtain ⟨hP, hD⟩ := gBack hF ht hB
            obtain ⟨hIσ20, fcσ20, hp_47⟩ := hw
            refine lv_aload_n hx hb dX0_layPeriods_130 rfl (lv_at hl 1 rfl) ?_
            refine va_get (D := (dC, dI)) (ci := 0) (v := .ref (ad (o + 6))) (C := RX0) (T := TX0) (N := 16) hx hb hts hinX0 hown hK hP o (at_0 ho) rfl 15 (by decide) (hts (.fieldLink RX0 60 "BondCalendars$Bond" "coupons" "[D") (by decide +kernel)) (fun _ h9 => h9) rfl dX0_layPeriods_131 ?_
            refine lv_iload_n hx hb dX0_layPeriods_134 rfl (lv_at hl 0 rfl) ?_
            refine lv_aload_n hx hb dX0_layPeriods_135 rfl (lv_at hl 3 rfl) ?_
            have hF := gFree hD hS hA
            refine va_calldD hd0 (va_runV_D (As := []) (rest := [.int k3, .ref (ad (o + 6))]) ⟨hx, hb, hml, hown, hts⟩ (n_X6_value l dC dI ad cA adK adV H.size σ20 hIσ20 a1 ha1) (cwV 0 hts gX0_layPeriods_X6_value rfl rfl rfl (by decide +kernel) ⟨Nat.le_of_ble_eq_true rfl, Nat.le_of_ble_eq_true rfl⟩) ⟨gBlind, va_recv hK hP (ci := 5) (q0 := a1) rfl (at_5 ha1), gStart (As := [.ref (ad a1)]) hP hD hK0 hT hS hF (d_46)⟩ rfl rfl hl.1 rfl (lv_room (Nat.le_of_ble_eq_true rfl)) dX0_layPeriods_136 ⟨Nat.le_of_ble_eq_true rfl, Nat.le_of_ble_eq_true rfl⟩) hS (fun q _ h => hF q h) hF (fun r_48 σ21 t H locs ht hvm hw hB hz1 hk1 hS d_49 hd0 => ?_)
            have hts := dr_words hts0 (d_49)
            have hK := gKd hK0 (d_49)
            have hown : (s.setDrawn (d_49)).vm.findClass RX0 = some m.cls := hown0
            obtain ⟨hP, hD⟩ := gBack hF ht hB
            obtain ⟨hIσ21, hro, hp_50⟩ := hw
            subst hro
            refine va_dast hx hb hK hP hD hS ((o + 6)) ((o + 6)) (at_28 (kk_0_6 ho)) (ty_28 (kk_0_6 ho)) (gin (N := 81) (by decide) iv57_0 (Int32.lt_of_lt_of_le (Int32.not_le.mp c_30) bd_29.2)) dX0_layPeriods_139 (fun H locs hP hD hS => ?_)
            obtain ⟨σ22, eσ22, hP, hD⟩ := gPut (se_28 (kk_0_6 ho)) hP hD
            have hIσ22 : InvX σ22 := by rw [eσ22]; exact inv_D hIσ20
            have frσ22 : gFr [0, 5, 24, 28] σ σ22 := by rw [eσ22]; exact gFr.pD (gFr.tr frσ19 fcσ20 (by decide)) (kk_0_6 ho) (by decide)
            obtain ⟨x_51, ex_51⟩ : ∃ zz : Int32, zz = k3 + 1 := ⟨_, rfl⟩
            refine lv_iinc (v := x_51) (lv' := [(3, .int x_51), (0, .ref (ad o)), (1, .ref (ad a0)), (2, .ref (ad a1))]) hx hb dX0_layPeriods_140 hl (k := 0) rfl (by rw [ex_51]; rfl) (by decide) rfl (fun ls hl => ?_)
            refine lv_goto (tgt := 57) hx hb dX0_layPeriods_143 (by decide) ?_
            exact ih57 x_51 σ22 _ _ _ _ (cnt_m iv57_0 (Int32.lt_of_lt_of_le (Int32.not_le.mp c_30) bd_29.2) hm57 ex_51) (cnt_0 iv57_0 (Int32.lt_of_lt_of_le (Int32.not_le.mp c_30) bd_29.2) ex_51) hIσ22 frσ22 hd0 hP hD hS (lv_sub hl [0, 1, 2, 3] rfl)
    · refine lv_iload_n hx hb dX0_layPeriods_14 rfl (lv_at hl 0 rfl) ?_
      refine lv_bipush (v := 90) hx hb dX0_layPeriods_15 (by decide) ?_
      refine lv_icmp_gt (tgt := 36) hx hb dX0_layPeriods_17 (by decide) (fun c_52 => ?_) (fun c_52 => ?_)
      · refine lv_aload_n hx hb dX0_layPeriods_36 rfl (lv_at hl 1 rfl) ?_
        refine va_get (D := (dC, dI)) (ci := 0) (v := .int ((σ10x o).1 4)) (C := RX0) (T := TX0) (N := 16) hx hb hts hinX0 hown hK hP o (at_0 ho) rfl 4 (by decide) (hts (.fieldLink RX0 25 "BondCalendars$Bond" "matureDay" "I") (by decide +kernel)) (fun _ h9 => h9) rfl dX0_layPeriods_37 ?_
        refine lv_aload_n hx hb dX0_layPeriods_40 rfl (lv_at hl 1 rfl) ?_
        refine va_get (D := (dC, dI)) (ci := 0) (v := .int ((σ10x o).1 5)) (C := RX0) (T := TX0) (N := 16) hx hb hts hinX0 hown hK hP o (at_0 ho) rfl 5 (by decide) (hts (.fieldLink RX0 28 "BondCalendars$Bond" "anchorDay" "I") (by decide +kernel)) (fun _ h9 => h9) rfl dX0_layPeriods_41 ?_
        refine lv_icmp_le (tgt := 55) hx hb dX0_layPeriods_44 (by decide) (fun c_53 => ?_) (fun c_53 => ?_)
        · refine lv_iconst (v := 0) hx hb dX0_layPeriods_55 (by decide) ?_
          refine lv_istore_n (lv' := [(3, .int 0), (0, .ref (ad o)), (1, .ref (ad a0)), (2, .ref (ad a1))]) hx hb dX0_layPeriods_56 rfl hl (by decide) rfl (fun ls hl => ?_)
          refine (fun (h : ∀ (n : Nat) (k3 : Int32) (σ57x : gs) (d57 : Drawn) (H : Heap) (locs : List Loc) (ls : Array Slot), ((81 : Int32).toInt - k3.toInt).toNat < n → 0 ≤ k3 → InvX σ57x → gFr [0, 5, 24, 28] σ σ57x → s.drawn.sameBut d57 lw_cs → va_P (dC, dI) vwCl (wX ad cA σ57x) H → va_D A (wX ad cA σ57x) → va_S A s.heap H locs → lv_has ls 4 [(3, .int k3), (0, .ref (ad o)), (1, .ref (ad a0)), (2, .ref (ad a1))] → W p l e _ (s.setDrawn d57) m _ below meth c H locs _ _ _ (F0 m 57 ls [])) => h _ 0 σ10x _ _ _ _ (Nat.lt_succ_self _) (by decide) hIσ10x frσ10x hd0 hP hD hS (lv_sub hl [0, 1, 2, 3] rfl)) ?_
          intro n57
          induction n57 with
          | zero => intro k3 σ57x d57 H locs ls hm; exact absurd hm (Nat.not_lt_zero _)
          | succ n57 ih57 =>
            intro k3 σ57x d57 H locs ls hm57 iv57_0 hIσ57x frσ57x hd0 hP hD hS hl
            have hts := dr_words hts0 (d57)
            have hK := gKd hK0 (d57)
            have hown : (s.setDrawn (d57)).vm.findClass RX0 = some m.cls := hown0
            refine lv_iload_n hx hb dX0_layPeriods_57 rfl (lv_at hl 0 rfl) ?_
            refine lv_aload_n hx hb dX0_layPeriods_58 rfl (lv_at hl 1 rfl) ?_
            have bd_54 := rd_0_9 (c := o) hIσ57x ho
            refine va_get (D := (dC, dI)) (ci := 0) (v := .int ((σ57x o).1 9)) (C := RX0) (T := TX0) (N := 16) hx hb hts hinX0 hown hK hP o (at_0 ho) rfl 9 (by decide) (hts (.fieldLink RX0 40 "BondCalendars$Bond" "periods" "I") (by decide +kernel)) (fun _ h9 => h9) rfl dX0_layPeriods_59 ?_
            refine lv_icmp_ge (tgt := 146) hx hb dX0_layPeriods_62 (by decide) (fun c_55 => ?_) (fun c_55 => ?_)
            · refine W.endD hd0 ?_
              exact W.vret hx hb hr (fun t ht hW => ⟨⟨σ57x, rfl, ⟨hIσ57x, frσ57x, trivial⟩, ⟨by rw [ht]; exact hP, hD⟩⟩, hS.F ht⟩) hS.2.2 dX0_layPeriods_146
            · refine lv_aload_n hx hb dX0_layPeriods_65 rfl (lv_at hl 1 rfl) ?_
              refine va_get (D := (dC, dI)) (ci := 0) (v := .ref (ad (o + 3))) (C := RX0) (T := TX0) (N := 16) hx hb hts hinX0 hown hK hP o (at_0 ho) rfl 12 (by decide) (hts (.fieldLink RX0 50 "BondCalendars$Bond" "exFrom" "[I") (by decide +kernel)) (fun _ h9 => h9) rfl dX0_layPeriods_66 ?_
              refine lv_iload_n hx hb dX0_layPeriods_69 rfl (lv_at hl 0 rfl) ?_
              refine lv_aload_n hx hb dX0_layPeriods_70 rfl (lv_at hl 2 rfl) ?_
              refine lv_aload_n hx hb dX0_layPeriods_71 rfl (lv_at hl 1 rfl) ?_
              refine va_get (D := (dC, dI)) (ci := 0) (v := .ref (ad (o + 2))) (C := RX0) (T := TX0) (N := 16) hx hb hts hinX0 hown hK hP o (at_0 ho) rfl 11 (by decide) (hts (.fieldLink RX0 47 "BondCalendars$Bond" "endDays" "[I") (by decide +kernel)) (fun _ h9 => h9) rfl dX0_layPeriods_72 ?_
              refine lv_iload_n hx hb dX0_layPeriods_75 rfl (lv_at hl 0 rfl) ?_
              refine va_iald hx hb hK hP ((o + 2)) ((o + 2)) (at_24 (kk_0_2 ho)) (ty_24 (kk_0_2 ho)) (gin (N := 81) (by decide) iv57_0 (Int32.lt_of_lt_of_le (Int32.not_le.mp c_55) bd_54.2)) dX0_layPeriods_76 ?_
              refine lv_topi (fun x_56 _ => ?_)
              refine lv_aload_n hx hb dX0_layPeriods_77 rfl (lv_at hl 1 rfl) ?_
              refine va_get (D := (dC, dI)) (ci := 0) (v := .int ((σ57x o).1 7)) (C := RX0) (T := TX0) (N := 16) hx hb hts hinX0 hown hK hP o (at_0 ho) rfl 7 (by decide) (hts (.fieldLink RX0 34 "BondCalendars$Bond" "exDays" "I") (by decide +kernel)) (fun _ h9 => h9) rfl dX0_layPeriods_78 ?_
              refine lv_ineg hx hb dX0_layPeriods_81 ?_
              have hF := gFree hD hS hA
              refine va_calliD hd0 (va_runV_D (As := [.int x_56, .int (-((σ57x o).1 7))]) (rest := [.int k3, .ref (ad (o + 3))]) ⟨hx, hb, hml, hown, hts⟩ (n_X5_businessDaysFrom l dC dI ad cA adK adV H.size σ57x hIσ57x a0 ha0 x_56 (-((σ57x o).1 7))) (cwV 2 hts gX0_layPeriods_X5_businessDaysFrom rfl rfl rfl (by decide +kernel) ⟨Nat.le_of_ble_eq_true rfl, Nat.le_of_ble_eq_true rfl⟩) ⟨gBlind, va_recv hK hP (ci := 4) (q0 := a0) rfl (at_4 ha0), gStart (As := [.ref (ad a0), .int x_56, .int (-((σ57x o).1 7))]) hP hD hK0 hT hS hF (d57)⟩ rfl rfl hl.1 rfl (lv_room (Nat.le_of_ble_eq_true rfl)) dX0_layPeriods_82 ⟨Nat.le_of_ble_eq_true rfl, Nat.le_of_ble_eq_true rfl⟩) hS (fun q _ h => hF q h) hF (fun r_57 σ23 t H locs ht hvm hw hB hz1 hk1 hS d_58 hd0 => ?_)
              have hts := dr_words hts0 (d_58)
              have hK := gKd hK0 (d_58)
              have hown : (s.setDrawn (d_58)).vm.findClass RX0 = some m.cls := hown0
              obtain ⟨hP, hD⟩ := gBack hF ht hB
              obtain ⟨hIσ23, hro, hp_59⟩ := hw
              subst hro
              refine va_iast hx hb hK hP hD hS ((o + 3)) ((o + 3)) (at_24 (kk_0_3 ho)) (ty_24 (kk_0_3 ho)) (gin (N := 81) (by decide) iv57_0 (Int32.lt_of_lt_of_le (Int32.not_le.mp c_55) bd_54.2)) dX0_layPeriods_85 (fun H locs hP hD hS => ?_)
              obtain ⟨σ24, eσ24, hP, hD⟩ := gPut (se_24 (kk_0_3 ho)) hP hD
              have hIσ24 : InvX σ24 := by rw [eσ24]; exact inv_I hIσ57x (ok_24 (kk_0_3 ho) _ _)
              have frσ24 : gFr [0, 5, 24, 28] σ σ24 := by rw [eσ24]; exact gFr.pI frσ57x (kk_0_3 ho) (by decide)
              refine lv_aload_n hx hb dX0_layPeriods_86 rfl (lv_at hl 1 rfl) ?_
              refine va_get (D := (dC, dI)) (ci := 0) (v := .ref (ad (o + 4))) (C := RX0) (T := TX0) (N := 16) hx hb hts hinX0 hown hK hP o (at_0 ho) rfl 13 (by decide) (hts (.fieldLink RX0 53 "BondCalendars$Bond" "payDays" "[I") (by decide +kernel)) (fun _ h9 => h9) rfl dX0_layPeriods_87 ?_
              refine lv_iload_n hx hb dX0_layPeriods_90 rfl (lv_at hl 0 rfl) ?_
              refine lv_aload_n hx hb dX0_layPeriods_91 rfl (lv_at hl 2 rfl) ?_
              refine lv_aload_n hx hb dX0_layPeriods_92 rfl (lv_at hl 1 rfl) ?_
              refine va_get (D := (dC, dI)) (ci := 0) (v := .ref (ad (o + 2))) (C := RX0) (T := TX0) (N := 16) hx hb hts hinX0 hown hK hP o (at_0 ho) rfl 11 (by decide) (hts (.fieldLink RX0 47 "BondCalendars$Bond" "endDays" "[I") (by decide +kernel)) (fun _ h9 => h9) rfl dX0_layPeriods_93 ?_
              refine lv_iload_n hx hb dX0_layPeriods_96 rfl (lv_at hl 0 rfl) ?_
              refine va_iald hx hb hK hP ((o + 2)) ((o + 2)) (at_24 (kk_0_2 ho)) (ty_24 (kk_0_2 ho)) (gin (N := 81) (by decide) iv57_0 (Int32.lt_of_lt_of_le (Int32.not_le.mp c_55) bd_54.2)) dX0_layPeriods_97 ?_
              refine lv_topi (fun x_60 _ => ?_)
              have hF := gFree hD hS hA
              refine va_calliD hd0 (va_runV_D (As := [.int x_60]) (rest := [.int k3, .ref (ad (o + 4))]) ⟨hx, hb, hml, hown, hts⟩ (n_X5_businessDayNotBefore l dC dI ad cA adK adV H.size σ24 hIσ24 a0 ha0 x_60) (cwV 1 hts gX0_layPeriods_X5_businessDayNotBefore rfl rfl rfl (by decide +kernel) ⟨Nat.le_of_ble_eq_true rfl, Nat.le_of_ble_eq_true rfl⟩) ⟨gBlind, va_recv hK hP (ci := 4) (q0 := a0) rfl (at_4 ha0), gStart (As := [.ref (ad a0), .int x_60]) hP hD hK0 hT hS hF (d_58)⟩ rfl rfl hl.1 rfl (lv_room (Nat.le_of_ble_eq_true rfl)) dX0_layPeriods_98 ⟨Nat.le_of_ble_eq_true rfl, Nat.le_of_ble_eq_true rfl⟩) hS (fun q _ h => hF q h) hF (fun r_61 σ25 t H locs ht hvm hw hB hz1 hk1 hS d_62 hd0 => ?_)
              have hts := dr_words hts0 (d_62)
              have hK := gKd hK0 (d_62)
              have hown : (s.setDrawn (d_62)).vm.findClass RX0 = some m.cls := hown0
              obtain ⟨hP, hD⟩ := gBack hF ht hB
              obtain ⟨hIσ25, hro, hp_63⟩ := hw
              subst hro
              refine va_iast hx hb hK hP hD hS ((o + 4)) ((o + 4)) (at_24 (kk_0_4 ho)) (ty_24 (kk_0_4 ho)) (gin (N := 81) (by decide) iv57_0 (Int32.lt_of_lt_of_le (Int32.not_le.mp c_55) bd_54.2)) dX0_layPeriods_101 (fun H locs hP hD hS => ?_)
              obtain ⟨σ26, eσ26, hP, hD⟩ := gPut (se_24 (kk_0_4 ho)) hP hD
              have hIσ26 : InvX σ26 := by rw [eσ26]; exact inv_I hIσ24 (ok_24 (kk_0_4 ho) _ _)
              have frσ26 : gFr [0, 5, 24, 28] σ σ26 := by rw [eσ26]; exact gFr.pI frσ24 (kk_0_4 ho) (by decide)
              refine lv_aload_n hx hb dX0_layPeriods_102 rfl (lv_at hl 1 rfl) ?_
              refine lv_iload_n hx hb dX0_layPeriods_103 rfl (lv_at hl 0 rfl) ?_
              refine lv_aload_n hx hb dX0_layPeriods_104 rfl (lv_at hl 3 rfl) ?_
              have hF := gFree hD hS hA
              refine va_callvD hd0 (va_runV_D (As := [.int k3, .ref (ad a1)]) (rest := []) ⟨hx, hb, hml, hown, hts⟩ (n_X0_measurePeriod l dC dI ad cA adK adV H.size σ26 hIσ26 o ho k3 a1 ha1) (cwV 2 hts gX0_layPeriods_X0_measurePeriod rfl rfl rfl (by decide +kernel) ⟨Nat.le_of_ble_eq_true rfl, Nat.le_of_ble_eq_true rfl⟩) ⟨gBlind, va_recv hK hP (ci := 0) (q0 := o) rfl (at_0 ho), gStart (As := [.ref (ad o), .int k3, .ref (ad a1)]) hP hD hK0 hT hS hF (d_62)⟩ rfl rfl hl.1 rfl (lv_room (Nat.le_of_ble_eq_true rfl)) dX0_layPeriods_105 ⟨Nat.le_of_ble_eq_true rfl, Nat.le_of_ble_eq_true rfl⟩) hS (fun q _ h => hF q h) hF (fun σ27 t H locs ht hvm hw hB hz1 hk1 hS d_65 hd0 => ?_)
              have hts := dr_words hts0 (d_65)
              have hK := gKd hK0 (d_65)
              have hown : (s.setDrawn (d_65)).vm.findClass RX0 = some m.cls := hown0
              obtain ⟨hP, hD⟩ := gBack hF ht hB
              obtain ⟨hIσ27, fcσ27, hp_66⟩ := hw
              refine lv_aload_n hx hb dX0_layPeriods_108 rfl (lv_at hl 1 rfl) ?_
              refine va_get (D := (dC, dI)) (ci := 0) (v := .ref (ad (o + 5))) (C := RX0) (T := TX0) (N := 16) hx hb hts hinX0 hown hK hP o (at_0 ho) rfl 14 (by decide) (hts (.fieldLink RX0 56 "BondCalendars$Bond" "fractions" "[D") (by decide +kernel)) (fun _ h9 => h9) rfl dX0_layPeriods_109 ?_
              refine lv_iload_n hx hb dX0_layPeriods_112 rfl (lv_at hl 0 rfl) ?_
              refine lv_aload_n hx hb dX0_layPeriods_113 rfl (lv_at hl 3 rfl) ?_
              have hF := gFree hD hS hA
              refine va_calldD hd0 (va_runV_D (As := []) (rest := [.int k3, .ref (ad (o + 5))]) ⟨hx, hb, hml, hown, hts⟩ (n_X6_value l dC dI ad cA adK adV H.size σ27 hIσ27 a1 ha1) (cwV 0 hts gX0_layPeriods_X6_value rfl rfl rfl (by decide +kernel) ⟨Nat.le_of_ble_eq_true rfl, Nat.le_of_ble_eq_true rfl⟩) ⟨gBlind, va_recv hK hP (ci := 5) (q0 := a1) rfl (at_5 ha1), gStart (As := [.ref (ad a1)]) hP hD hK0 hT hS hF (d_65)⟩ rfl rfl hl.1 rfl (lv_room (Nat.le_of_ble_eq_true rfl)) dX0_layPeriods_114 ⟨Nat.le_of_ble_eq_true rfl, Nat.le_of_ble_eq_true rfl⟩) hS (fun q _ h => hF q h) hF (fun r_67 σ28 t H locs ht hvm hw hB hz1 hk1 hS d_68 hd0 => ?_)
              have hts := dr_words hts0 (d_68)
              have hK := gKd hK0 (d_68)
              have hown : (s.setDrawn (d_68)).vm.findClass RX0 = some m.cls := hown0
              obtain ⟨hP, hD⟩ := gBack hF ht hB
              obtain ⟨hIσ28, hro, hp_69⟩ := hw
              subst hro
              refine va_dast hx hb hK hP hD hS ((o + 5)) ((o + 5)) (at_28 (kk_0_5 ho)) (ty_28 (kk_0_5 ho)) (gin (N := 81) (by decide) iv57_0 (Int32.lt_of_lt_of_le (Int32.not_le.mp c_55) bd_54.2)) dX0_layPeriods_117 (fun H locs hP hD hS => ?_)
              obtain ⟨σ29, eσ29, hP, hD⟩ := gPut (se_28 (kk_0_5 ho)) hP hD
              have hIσ29 : InvX σ29 := by rw [eσ29]; exact inv_D hIσ27
              have frσ29 : gFr [0, 5, 24, 28] σ σ29 := by rw [eσ29]; exact gFr.pD (gFr.tr frσ26 fcσ27 (by decide)) (kk_0_5 ho) (by decide)
              refine lv_aload_n hx hb dX0_layPeriods_118 rfl (lv_at hl 3 rfl) ?_
              refine lv_aload_n hx hb dX0_layPeriods_119 rfl (lv_at hl 1 rfl) ?_
              refine va_get (D := (dC, dI)) (ci := 0) (v := .int ((σ57x o).1 0)) (C := RX0) (T := TX0) (N := 16) hx hb hts hinX0 hown hK hP o (at_0 ho) rfl 0 (by decide) (hts (.fieldLink RX0 11 "BondCalendars$Bond" "rate" "I") (by decide +kernel)) (fun _ h9 => h9) (congrArg (fun z => some (Value.int z)) (show (σ29 o).1 0 = ((σ57x o).1 0) from by rw [eσ29, gD_ne _ _ _ (kne ho (kk_0_5 ho) (by decide)), fcσ27 o (by rw [ho]; decide), eσ26, gI_ne _ _ _ (kne ho (kk_0_4 ho) (by decide)), eσ24, gI_ne _ _ _ (kne ho (kk_0_3 ho) (by decide))])) dX0_layPeriods_120 ?_
              refine lv_i2l hx hb dX0_layPeriods_123 rfl ?_
              refine lv_ldc2 (v := 100) hx hb hown (hts (.constantLong RX0 103 (100)) (by decide +kernel)) dX0_layPeriods_124 ?_
              have hF := gFree hD hS hA
              refine va_callvD hd0 (va_runV_D (As := [.long (((σ57x o).1 0).toInt64), .long 100]) (rest := []) ⟨hx, hb, hml, hown, hts⟩ (n_X6_multiply l dC dI ad cA adK adV H.size σ29 hIσ29 a1 ha1 (((σ57x o).1 0).toInt64) 100) (cwV 2 hts gX0_layPeriods_X6_multiply rfl rfl rfl (by decide +kernel) ⟨Nat.le_of_ble_eq_true rfl, Nat.le_of_ble_eq_true rfl⟩) ⟨gBlind, va_recv hK hP (ci := 5) (q0 := a1) rfl (at_5 ha1), gStart (As := [.ref (ad a1), .long (((σ57x o).1 0).toInt64), .long 100]) hP hD hK0 hT hS hF (d_68)⟩ rfl rfl hl.1 rfl (lv_room (Nat.le_of_ble_eq_true rfl)) dX0_layPeriods_127 ⟨Nat.le_of_ble_eq_true rfl, Nat.le_of_ble_eq_true rfl⟩) hS (fun q _ h => hF q h) hF (fun σ30 t H locs ht hvm hw hB hz1 hk1 hS d_71 hd0 => ?_)
              have hts := dr_words hts0 (d_71)
              have hK := gKd hK0 (d_71)
              have hown : (s.setDrawn (d_71)).vm.findClass RX0 = some m.cls := hown0
              obtain ⟨hP, hD⟩ := gBack hF ht hB
              obtain ⟨hIσ30, fcσ30, hp_72⟩ := hw
              refine lv_aload_n hx hb dX0_layPeriods_130 rfl (lv_at hl 1 rfl) ?_
              refine va_get (D := (dC, dI)) (ci := 0) (v := .ref (ad (o + 6))) (C := RX0) (T := TX0) (N := 16) hx hb hts hinX0 hown hK hP o (at_0 ho) rfl 15 (by decide) (hts (.fieldLink RX0 60 "BondCalendars$Bond" "coupons" "[D") (by decide +kernel)) (fun _ h9 => h9) rfl dX0_layPeriods_131 ?_
              refine lv_iload_n hx hb dX0_layPeriods_134 rfl (lv_at hl 0 rfl) ?_
              refine lv_aload_n hx hb dX0_layPeriods_135 rfl (lv_at hl 3 rfl) ?_
              have hF := gFree hD hS hA
              refine va_calldD hd0 (va_runV_D (As := []) (rest := [.int k3, .ref (ad (o + 6))]) ⟨hx, hb, hml, hown, hts⟩ (n_X6_value l dC dI ad cA adK adV H.size σ30 hIσ30 a1 ha1) (cwV 0 hts gX0_layPeriods_X6_value rfl rfl rfl (by decide +kernel) ⟨Nat.le_of_ble_eq_true rfl, Nat.le_of_ble_eq_true rfl⟩) ⟨gBlind, va_recv hK hP (ci := 5) (q0 := a1) rfl (at_5 ha1), gStart (As := [.ref (ad a1)]) hP hD hK0 hT hS hF (d_71)⟩ rfl rfl hl.1 rfl (lv_room (Nat.le_of_ble_eq_true rfl)) dX0_layPeriods_136 ⟨Nat.le_of_ble_eq_true rfl, Nat.le_of_ble_eq_true rfl⟩) hS (fun q _ h => hF q h) hF (fun r_73 σ31 t H locs ht hvm hw hB hz1 hk1 hS d_74 hd0 => ?_)
              have hts := dr_words hts0 (d_74)
              have hK := gKd hK0 (d_74)
              have hown : (s.setDrawn (d_74)).vm.findClass RX0 = some m.cls := hown0
              obtain ⟨hP, hD⟩ := gBack hF ht hB
              obtain ⟨hIσ31, hro, hp_75⟩ := hw
              subst hro
              refine va_dast hx hb hK hP hD hS ((o + 6)) ((o + 6)) (at_28 (kk_0_6 ho)) (ty_28 (kk_0_6 ho)) (gin (N := 81) (by decide) iv57_0 (Int32.lt_of_lt_of_le (Int32.not_le.mp c_55) bd_54.2)) dX0_layPeriods_139 (fun H locs hP hD hS => ?_)
              obtain ⟨σ32, eσ32, hP, hD⟩ := gPut (se_28 (kk_0_6 ho)) hP hD
              have hIσ32 : InvX σ32 := by rw [eσ32]; exact inv_D hIσ30
              have frσ32 : gFr [0, 5, 24, 28] σ σ32 := by rw [eσ32]; exact gFr.pD (gFr.tr frσ29 fcσ30 (by decide)) (kk_0_6 ho) (by decide)
              obtain ⟨x_76, ex_76⟩ : ∃ zz : Int32, zz = k3 + 1 := ⟨_, rfl⟩
              refine lv_iinc (v := x_76) (lv' := [(3, .int x_76), (0, .ref (ad o)), (1, .ref (ad a0)), (2, .ref (ad a1))]) hx hb dX0_layPeriods_140 hl (k := 0) rfl (by rw [ex_76]; rfl) (by decide) rfl (fun ls hl => ?_)
              refine lv_goto (tgt := 57) hx hb dX0_layPeriods_143 (by decide) ?_
              exact ih57 x_76 σ32 _ _ _ _ (cnt_m iv57_0 (Int32.lt_of_lt_of_le (Int32.not_le.mp c_55) bd_54.2) hm57 ex_76) (cnt_0 iv57_0 (Int32.lt_of_lt_of_le (Int32.not_le.mp c_55) bd_54.2) ex_76) hIσ32 frσ32 hd0 hP hD hS (lv_sub hl [0, 1, 2, 3] rfl)
        · refine lv_aload_n hx hb dX0_layPeriods_47 rfl (lv_at hl 1 rfl) ?_
          refine lv_aload_n hx hb dX0_layPeriods_48 rfl (lv_at hl 1 rfl) ?_
          refine va_get (D := (dC, dI)) (ci := 0) (v := .int ((σ10x o).1 4)) (C := RX0) (T := TX0) (N := 16) hx hb hts hinX0 hown hK hP o (at_0 ho) rfl 4 (by decide) (hts (.fieldLink RX0 25 "BondCalendars$Bond" "matureDay" "I") (by decide +kernel)) (fun _ h9 => h9) rfl dX0_layPeriods_49 ?_
          have hF := gFree hD hS hA
          refine va_callvD hd0 (va_runV_D (As := [.int ((σ10x o).1 4)]) (rest := []) ⟨hx, hb, hml, hown, hts⟩ (n_X0_addPeriod l dC dI ad cA adK adV H.size σ10x hIσ10x o ho ((σ10x o).1 4)) (cwV 1 hts gX0_layPeriods_X0_addPeriod rfl rfl rfl (by decide +kernel) ⟨Nat.le_of_ble_eq_true rfl, Nat.le_of_ble_eq_true rfl⟩) ⟨gBlind, va_recv hK hP (ci := 0) (q0 := o) rfl (at_0 ho), gStart (As := [.ref (ad o), .int ((σ10x o).1 4)]) hP hD hK0 hT hS hF (d10)⟩ rfl rfl hl.1 rfl (lv_room (Nat.le_of_ble_eq_true rfl)) dX0_layPeriods_52 ⟨Nat.le_of_ble_eq_true rfl, Nat.le_of_ble_eq_true rfl⟩) hS (fun q _ h => hF q h) hF (fun σ33 t H locs ht hvm hw hB hz1 hk1 hS d_78 hd0 => ?_)
          have hts := dr_words hts0 (d_78)
          have hK := gKd hK0 (d_78)
          have hown : (s.setDrawn (d_78)).vm.findClass RX0 = some m.cls := hown0
          obtain ⟨hP, hD⟩ := gBack hF ht hB
          obtain ⟨hIσ33, fcσ33, hp_79⟩ := hw
          refine lv_iconst (v := 0) hx hb dX0_layPeriods_55 (by decide) ?_
          refine lv_istore_n (lv' := [(3, .int 0), (0, .ref (ad o)), (1, .ref (ad a0)), (2, .ref (ad a1))]) hx hb dX0_layPeriods_56 rfl hl (by decide) rfl (fun ls hl => ?_)
          refine (fun (h : ∀ (n : Nat) (k3 : Int32) (σ57x : gs) (d57 : Drawn) (H : Heap) (locs : List Loc) (ls : Array Slot), ((81 : Int32).toInt - k3.toInt).toNat < n → 0 ≤ k3 → InvX σ57x → gFr [0, 5, 24, 28] σ σ57x → s.drawn.sameBut d57 lw_cs → va_P (dC, dI) vwCl (wX ad cA σ57x) H → va_D A (wX ad cA σ57x) → va_S A s.heap H locs → lv_has ls 4 [(3, .int k3), (0, .ref (ad o)), (1, .ref (ad a0)), (2, .ref (ad a1))] → W p l e _ (s.setDrawn d57) m _ below meth c H locs _ _ _ (F0 m 57 ls [])) => h _ 0 σ33 _ _ _ _ (Nat.lt_succ_self _) (by decide) hIσ33 (gFr.tr frσ10x fcσ33 (by decide)) hd0 hP hD hS (lv_sub hl [0, 1, 2, 3] rfl)) ?_
          intro n57
          induction n57 with
          | zero => intro k3 σ57x d57 H locs ls hm; exact absurd hm (Nat.not_lt_zero _)
          | succ n57 ih57 =>
            intro k3 σ57x d57 H locs ls hm57 iv57_0 hIσ57x frσ57x hd0 hP hD hS hl
            have hts := dr_words hts0 (d57)
            have hK := gKd hK0 (d57)
            have hown : (s.setDrawn (d57)).vm.findClass RX0 = some m.cls := hown0
            refine lv_iload_n hx hb dX0_layPeriods_57 rfl (lv_at hl 0 rfl) ?_
            refine lv_aload_n hx hb dX0_layPeriods_58 rfl (lv_at hl 1 rfl) ?_
            have bd_80 := rd_0_9 (c := o) hIσ57x ho
            refine va_get (D := (dC, dI)) (ci := 0) (v := .int ((σ57x o).1 9)) (C := RX0) (T := TX0) (N := 16) hx hb hts hinX0 hown hK hP o (at_0 ho) rfl 9 (by decide) (hts (.fieldLink RX0 40 "BondCalendars$Bond" "periods" "I") (by decide +kernel)) (fun _ h9 => h9) rfl dX0_layPeriods_59 ?_
            refine lv_icmp_ge (tgt := 146) hx hb dX0_layPeriods_62 (by decide) (fun c_81 => ?_) (fun c_81 => ?_)
            · refine W.endD hd0 ?_
              exact W.vret hx hb hr (fun t ht hW => ⟨⟨σ57x, rfl, ⟨hIσ57x, frσ57x, trivial⟩, ⟨by rw [ht]; exact hP, hD⟩⟩, hS.F ht⟩) hS.2.2 dX0_layPeriods_146
            · refine lv_aload_n hx hb dX0_layPeriods_65 rfl (lv_at hl 1 rfl) ?_
              refine va_get (D := (dC, dI)) (ci := 0) (v := .ref (ad (o + 3))) (C := RX0) (T := TX0) (N := 16) hx hb hts hinX0 hown hK hP o (at_0 ho) rfl 12 (by decide) (hts (.fieldLink RX0 50 "BondCalendars$Bond" "exFrom" "[I") (by decide +kernel)) (fun _ h9 => h9) rfl dX0_layPeriods_66 ?_
              refine lv_iload_n hx hb dX0_layPeriods_69 rfl (lv_at hl 0 rfl) ?_
              refine lv_aload_n hx hb dX0_layPeriods_70 rfl (lv_at hl 2 rfl) ?_
              refine lv_aload_n hx hb dX0_layPeriods_71 rfl (lv_at hl 1 rfl) ?_
              refine va_get (D := (dC, dI)) (ci := 0) (v := .ref (ad (o + 2))) (C := RX0) (T := TX0) (N := 16) hx hb hts hinX0 hown hK hP o (at_0 ho) rfl 11 (by decide) (hts (.fieldLink RX0 47 "BondCalendars$Bond" "endDays" "[I") (by decide +kernel)) (fun _ h9 => h9) rfl dX0_layPeriods_72 ?_
              refine lv_iload_n hx hb dX0_layPeriods_75 rfl (lv_at hl 0 rfl) ?_
              refine va_iald hx hb hK hP ((o + 2)) ((o + 2)) (at_24 (kk_0_2 ho)) (ty_24 (kk_0_2 ho)) (gin (N := 81) (by decide) iv57_0 (Int32.lt_of_lt_of_le (Int32.not_le.mp c_81) bd_80.2)) dX0_layPeriods_76 ?_
              refine lv_topi (fun x_82 _ => ?_)
              refine lv_aload_n hx hb dX0_layPeriods_77 rfl (lv_at hl 1 rfl) ?_
              refine va_get (D := (dC, dI)) (ci := 0) (v := .int ((σ57x o).1 7)) (C := RX0) (T := TX0) (N := 16) hx hb hts hinX0 hown hK hP o (at_0 ho) rfl 7 (by decide) (hts (.fieldLink RX0 34 "BondCalendars$Bond" "exDays" "I") (by decide +kernel)) (fun _ h9 => h9) rfl dX0_layPeriods_78 ?_
              refine lv_ineg hx hb dX0_layPeriods_81 ?_
              have hF := gFree hD hS hA
              refine va_calliD hd0 (va_runV_D (As := [.int x_82, .int (-((σ57x o).1 7))]) (rest := [.int k3, .ref (ad (o + 3))]) ⟨hx, hb, hml, hown, hts⟩ (n_X5_businessDaysFrom l dC dI ad cA adK adV H.size σ57x hIσ57x a0 ha0 x_82 (-((σ57x o).1 7))) (cwV 2 hts gX0_layPeriods_X5_businessDaysFrom rfl rfl rfl (by decide +kernel) ⟨Nat.le_of_ble_eq_true rfl, Nat.le_of_ble_eq_true rfl⟩) ⟨gBlind, va_recv hK hP (ci := 4) (q0 := a0) rfl (at_4 ha0), gStart (As := [.ref (ad a0), .int x_82, .int (-((σ57x o).1 7))]) hP hD hK0 hT hS hF (d57)⟩ rfl rfl hl.1 rfl (lv_room (Nat.le_of_ble_eq_true rfl)) dX0_layPeriods_82 ⟨Nat.le_of_ble_eq_true rfl, Nat.le_of_ble_eq_true rfl⟩) hS (fun q _ h => hF q h) hF (fun r_83 σ34 t H locs ht hvm hw hB hz1 hk1 hS d_84 hd0 => ?_)
              have hts := dr_words hts0 (d_84)
              have hK := gKd hK0 (d_84)
              have hown : (s.setDrawn (d_84)).vm.findClass RX0 = some m.cls := hown0
              obtain ⟨hP, hD⟩ := gBack hF ht hB
              obtain ⟨hIσ34, hro, hp_85⟩ := hw
              subst hro
              refine va_iast hx hb hK hP hD hS ((o + 3)) ((o + 3)) (at_24 (kk_0_3 ho)) (ty_24 (kk_0_3 ho)) (gin (N := 81) (by decide) iv57_0 (Int32.lt_of_lt_of_le (Int32.not_le.mp c_81) bd_80.2)) dX0_layPeriods_85 (fun H locs hP hD hS => ?_)
              obtain ⟨σ35, eσ35, hP, hD⟩ := gPut (se_24 (kk_0_3 ho)) hP hD
              have hIσ35 : InvX σ35 := by rw [eσ35]; exact inv_I hIσ57x (ok_24 (kk_0_3 ho) _ _)
              have frσ35 : gFr [0, 5, 24, 28] σ σ35 := by rw [eσ35]; exact gFr.pI frσ57x (kk_0_3 ho) (by decide)
              refine lv_aload_n hx hb dX0_layPeriods_86 rfl (lv_at hl 1 rfl) ?_
              refine va_get (D := (dC, dI)) (ci := 0) (v := .ref (ad (o + 4))) (C := RX0) (T := TX0) (N := 16) hx hb hts hinX0 hown hK hP o (at_0 ho) rfl 13 (by decide) (hts (.fieldLink RX0 53 "BondCalendars$Bond" "payDays" "[I") (by decide +kernel)) (fun _ h9 => h9) rfl dX0_layPeriods_87 ?_
              refine lv_iload_n hx hb dX0_layPeriods_90 rfl (lv_at hl 0 rfl) ?_
              refine lv_aload_n hx hb dX0_layPeriods_91 rfl (lv_at hl 2 rfl) ?_
              refine lv_aload_n hx hb dX0_layPeriods_92 rfl (lv_at hl 1 rfl) ?_
              refine va_get (D := (dC, dI)) (ci := 0) (v := .ref (ad (o + 2))) (C := RX0) (T := TX0) (N := 16) hx hb hts hinX0 hown hK hP o (at_0 ho) rfl 11 (by decide) (hts (.fieldLink RX0 47 "BondCalendars$Bond" "endDays" "[I") (by decide +kernel)) (fun _ h9 => h9) rfl dX0_layPeriods_93 ?_
              refine lv_iload_n hx hb dX0_layPeriods_96 rfl (lv_at hl 0 rfl) ?_
              refine va_iald hx hb hK hP ((o + 2)) ((o + 2)) (at_24 (kk_0_2 ho)) (ty_24 (kk_0_2 ho)) (gin (N := 81) (by decide) iv57_0 (Int32.lt_of_lt_of_le (Int32.not_le.mp c_81) bd_80.2)) dX0_layPeriods_97 ?_
              refine lv_topi (fun x_86 _ => ?_)
              have hF := gFree hD hS hA
              refine va_calliD hd0 (va_runV_D (As := [.int x_86]) (rest := [.int k3, .ref (ad (o + 4))]) ⟨hx, hb, hml, hown, hts⟩ (n_X5_businessDayNotBefore l dC dI ad cA adK adV H.size σ35 hIσ35 a0 ha0 x_86) (cwV 1 hts gX0_layPeriods_X5_businessDayNotBefore rfl rfl rfl (by decide +kernel) ⟨Nat.le_of_ble_eq_true rfl, Nat.le_of_ble_eq_true rfl⟩) ⟨gBlind, va_recv hK hP (ci := 4) (q0 := a0) rfl (at_4 ha0), gStart (As := [.ref (ad a0), .int x_86]) hP hD hK0 hT hS hF (d_84)⟩ rfl rfl hl.1 rfl (lv_room (Nat.le_of_ble_eq_true rfl)) dX0_layPeriods_98 ⟨Nat.le_of_ble_eq_true rfl, Nat.le_of_ble_eq_true rfl⟩) hS (fun q _ h => hF q h) hF (fun r_87 σ36 t H locs ht hvm hw hB hz1 hk1 hS d_88 hd0 => ?_)
              have hts := dr_words hts0 (d_88)
              have hK := gKd hK0 (d_88)
              have hown : (s.setDrawn (d_88)).vm.findClass RX0 = some m.cls := hown0
              obtain ⟨hP, hD⟩ := gBack hF ht hB
              obtain ⟨hIσ36, hro, hp_89⟩ := hw
              subst hro
              refine va_iast hx hb hK hP hD hS ((o + 4)) ((o + 4)) (at_24 (kk_0_4 ho)) (ty_24 (kk_0_4 ho)) (gin (N := 81) (by decide) iv57_0 (Int32.lt_of_lt_of_le (Int32.not_le.mp c_81) bd_80.2)) dX0_layPeriods_101 (fun H locs hP hD hS => ?_)
              obtain ⟨σ37, eσ37, hP, hD⟩ := gPut (se_24 (kk_0_4 ho)) hP hD
              have hIσ37 : InvX σ37 := by rw [eσ37]; exact inv_I hIσ35 (ok_24 (kk_0_4 ho) _ _)
              have frσ37 : gFr [0, 5, 24, 28] σ σ37 := by rw [eσ37]; exact gFr.pI frσ35 (kk_0_4 ho) (by decide)
              refine lv_aload_n hx hb dX0_layPeriods_102 rfl (lv_at hl 1 rfl) ?_
              refine lv_iload_n hx hb dX0_layPeriods_103 rfl (lv_at hl 0 rfl) ?_
              refine lv_aload_n hx hb dX0_layPeriods_104 rfl (lv_at hl 3 rfl) ?_
              have hF := gFree hD hS hA
              refine va_callvD hd0 (va_runV_D (As := [.int k3, .ref (ad a1)]) (rest := []) ⟨hx, hb, hml, hown, hts⟩ (n_X0_measurePeriod l dC dI ad cA adK adV H.size σ37 hIσ37 o ho k3 a1 ha1) (cwV 2 hts gX0_layPeriods_X0_measurePeriod rfl rfl rfl (by decide +kernel) ⟨Nat.le_of_ble_eq_true rfl, Nat.le_of_ble_eq_true rfl⟩) ⟨gBlind, va_recv hK hP (ci := 0) (q0 := o) rfl (at_0 ho), gStart (As := [.ref (ad o), .int k3, .ref (ad a1)]) hP hD hK0 hT hS hF (d_88)⟩ rfl rfl hl.1 rfl (lv_room (Nat.le_of_ble_eq_true rfl)) dX0_layPeriods_105 ⟨Nat.le_of_ble_eq_true rfl, Nat.le_of_ble_eq_true rfl⟩) hS (fun q _ h => hF q h) hF (fun σ38 t H locs ht hvm hw hB hz1 hk1 hS d_91 hd0 => ?_)
              have hts := dr_words hts0 (d_91)
              have hK := gKd hK0 (d_91)
              have hown : (s.setDrawn (d_91)).vm.findClass RX0 = some m.cls := hown0
              obtain ⟨hP, hD⟩ := gBack hF ht hB
              obtain ⟨hIσ38, fcσ38, hp_92⟩ := hw
              refine lv_aload_n hx hb dX0_layPeriods_108 rfl (lv_at hl 1 rfl) ?_
              refine va_get (D := (dC, dI)) (ci := 0) (v := .ref (ad (o + 5))) (C := RX0) (T := TX0) (N := 16) hx hb hts hinX0 hown hK hP o (at_0 ho) rfl 14 (by decide) (hts (.fieldLink RX0 56 "BondCalendars$Bond" "fractions" "[D") (by decide +kernel)) (fun _ h9 => h9) rfl dX0_layPeriods_109 ?_
              refine lv_iload_n hx hb dX0_layPeriods_112 rfl (lv_at hl 0 rfl) ?_
              refine lv_aload_n hx hb dX0_layPeriods_113 rfl (lv_at hl 3 rfl) ?_
              have hF := gFree hD hS hA
              refine va_calldD hd0 (va_runV_D (As := []) (rest := [.int k3, .ref (ad (o + 5))]) ⟨hx, hb, hml, hown, hts⟩ (n_X6_value l dC dI ad cA adK adV H.size σ38 hIσ38 a1 ha1) (cwV 0 hts gX0_layPeriods_X6_value rfl rfl rfl (by decide +kernel) ⟨Nat.le_of_ble_eq_true rfl, Nat.le_of_ble_eq_true rfl⟩) ⟨gBlind, va_recv hK hP (ci := 5) (q0 := a1) rfl (at_5 ha1), gStart (As := [.ref (ad a1)]) hP hD hK0 hT hS hF (d_91)⟩ rfl rfl hl.1 rfl (lv_room (Nat.le_of_ble_eq_true rfl)) dX0_layPeriods_114 ⟨Nat.le_of_ble_eq_true rfl, Nat.le_of_ble_eq_true rfl⟩) hS (fun q _ h => hF q h) hF (fun r_93 σ39 t H locs ht hvm hw hB hz1 hk1 hS d_94 hd0 => ?_)
              have hts := dr_words hts0 (d_94)
              have hK := gKd hK0 (d_94)
              have hown : (s.setDrawn (d_94)).vm.findClass RX0 = some m.cls := hown0
              obtain ⟨hP, hD⟩ := gBack hF ht hB
              obtain ⟨hIσ39, hro, hp_95⟩ := hw
              subst hro
              refine va_dast hx hb hK hP hD hS ((o + 5)) ((o + 5)) (at_28 (kk_0_5 ho)) (ty_28 (kk_0_5 ho)) (gin (N := 81) (by decide) iv57_0 (Int32.lt_of_lt_of_le (Int32.not_le.mp c_81) bd_80.2)) dX0_layPeriods_117 (fun H locs hP hD hS => ?_)
              obtain ⟨σ40, eσ40, hP, hD⟩ := gPut (se_28 (kk_0_5 ho)) hP hD
              have hIσ40 : InvX σ40 := by rw [eσ40]; exact inv_D hIσ38
              have frσ40 : gFr [0, 5, 24, 28] σ σ40 := by rw [eσ40]; exact gFr.pD (gFr.tr frσ37 fcσ38 (by decide)) (kk_0_5 ho) (by decide)
              refine lv_aload_n hx hb dX0_layPeriods_118 rfl (lv_at hl 3 rfl) ?_
              refine lv_aload_n hx hb dX0_layPeriods_119 rfl (lv_at hl 1 rfl) ?_
              refine va_get (D := (dC, dI)) (ci := 0) (v := .int ((σ57x o).1 0)) (C := RX0) (T := TX0) (N := 16) hx hb hts hinX0 hown hK hP o (at_0 ho) rfl 0 (by decide) (hts (.fieldLink RX0 11 "BondCalendars$Bond" "rate" "I") (by decide +kernel)) (fun _ h9 => h9) (congrArg (fun z => some (Value.int z)) (show (σ40 o).1 0 = ((σ57x o).1 0) from by rw [eσ40, gD_ne _ _ _ (kne ho (kk_0_5 ho) (by decide)), fcσ38 o (by rw [ho]; decide), eσ37, gI_ne _ _ _ (kne ho (kk_0_4 ho) (by decide)), eσ35, gI_ne _ _ _ (kne ho (kk_0_3 ho) (by decide))])) dX0_layPeriods_120 ?_
              refine lv_i2l hx hb dX0_layPeriods_123 rfl ?_
              refine lv_ldc2 (v := 100) hx hb hown (hts (.constantLong RX0 103 (100)) (by decide +kernel)) dX0_layPeriods_124 ?_
              have hF := gFree hD hS hA
              refine va_callvD hd0 (va_runV_D (As := [.long (((σ57x o).1 0).toInt64), .long 100]) (rest := []) ⟨hx, hb, hml, hown, hts⟩ (n_X6_multiply l dC dI ad cA adK adV H.size σ40 hIσ40 a1 ha1 (((σ57x o).1 0).toInt64) 100) (cwV 2 hts gX0_layPeriods_X6_multiply rfl rfl rfl (by decide +kernel) ⟨Nat.le_of_ble_eq_true rfl, Nat.le_of_ble_eq_true rfl⟩) ⟨gBlind, va_recv hK hP (ci := 5) (q0 := a1) rfl (at_5 ha1), gStart (As := [.ref (ad a1), .long (((σ57x o).1 0).toInt64), .long 100]) hP hD hK0 hT hS hF (d_94)⟩ rfl rfl hl.1 rfl (lv_room (Nat.le_of_ble_eq_true rfl)) dX0_layPeriods_127 ⟨Nat.le_of_ble_eq_true rfl, Nat.le_of_ble_eq_true rfl⟩) hS (fun q _ h => hF q h) hF (fun σ41 t H locs ht hvm hw hB hz1 hk1 hS d_97 hd0 => ?_)
              have hts := dr_words hts0 (d_97)
              have hK := gKd hK0 (d_97)
              have hown : (s.setDrawn (d_97)).vm.findClass RX0 = some m.cls := hown0
              obtain ⟨hP, hD⟩ := gBack hF ht hB
              obtain ⟨hIσ41, fcσ41, hp_98⟩ := hw
              refine lv_aload_n hx hb dX0_layPeriods_130 rfl (lv_at hl 1 rfl) ?_
              refine va_get (D := (dC, dI)) (ci := 0) (v := .ref (ad (o + 6))) (C := RX0) (T := TX0) (N := 16) hx hb hts hinX0 hown hK hP o (at_0 ho) rfl 15 (by decide) (hts (.fieldLink RX0 60 "BondCalendars$Bond" "coupons" "[D") (by decide +kernel)) (fun _ h9 => h9) rfl dX0_layPeriods_131 ?_
              refine lv_iload_n hx hb dX0_layPeriods_134 rfl (lv_at hl 0 rfl) ?_
              refine lv_aload_n hx hb dX0_layPeriods_135 rfl (lv_at hl 3 rfl) ?_
              have hF := gFree hD hS hA
              refine va_calldD hd0 (va_runV_D (As := []) (rest := [.int k3, .ref (ad (o + 6))]) ⟨hx, hb, hml, hown, hts⟩ (n_X6_value l dC dI ad cA adK adV H.size σ41 hIσ41 a1 ha1) (cwV 0 hts gX0_layPeriods_X6_value rfl rfl rfl (by decide +kernel) ⟨Nat.le_of_ble_eq_true rfl, Nat.le_of_ble_eq_true rfl⟩) ⟨gBlind, va_recv hK hP (ci := 5) (q0 := a1) rfl (at_5 ha1), gStart (As := [.ref (ad a1)]) hP hD hK0 hT hS hF (d_97)⟩ rfl rfl hl.1 rfl (lv_room (Nat.le_of_ble_eq_true rfl)) dX0_layPeriods_136 ⟨Nat.le_of_ble_eq_true rfl, Nat.le_of_ble_eq_true rfl⟩) hS (fun q _ h => hF q h) hF (fun r_99 σ42 t H locs ht hvm hw hB hz1 hk1 hS d_100 hd0 => ?_)
              have hts := dr_words hts0 (d_100)
              have hK := gKd hK0 (d_100)
              have hown : (s.setDrawn (d_100)).vm.findClass RX0 = some m.cls := hown0
              obtain ⟨hP, hD⟩ := gBack hF ht hB
              obtain ⟨hIσ42, hro, hp_101⟩ := hw
              subst hro
              refine va_dast hx hb hK hP hD hS ((o + 6)) ((o + 6)) (at_28 (kk_0_6 ho)) (ty_28 (kk_0_6 ho)) (gin (N := 81) (by decide) iv57_0 (Int32.lt_of_lt_of_le (Int32.not_le.mp c_81) bd_80.2)) dX0_layPeriods_139 (fun H locs hP hD hS => ?_)
              obtain ⟨σ43, eσ43, hP, hD⟩ := gPut (se_28 (kk_0_6 ho)) hP hD
              have hIσ43 : InvX σ43 := by rw [eσ43]; exact inv_D hIσ41
              have frσ43 : gFr [0, 5, 24, 28] σ σ43 := by rw [eσ43]; exact gFr.pD (gFr.tr frσ40 fcσ41 (by decide)) (kk_0_6 ho) (by decide)
              obtain ⟨x_102, ex_102⟩ : ∃ zz : Int32, zz = k3 + 1 := ⟨_, rfl⟩
              refine lv_iinc (v := x_102) (lv' := [(3, .int x_102), (0, .ref (ad o)), (1, .ref (ad a0)), (2, .ref (ad a1))]) hx hb dX0_layPeriods_140 hl (k := 0) rfl (by rw [ex_102]; rfl) (by decide) rfl (fun ls hl => ?_)
              refine lv_goto (tgt := 57) hx hb dX0_layPeriods_143 (by decide) ?_
              exact ih57 x_102 σ43 _ _ _ _ (cnt_m iv57_0 (Int32.lt_of_lt_of_le (Int32.not_le.mp c_81) bd_80.2) hm57 ex_102) (cnt_0 iv57_0 (Int32.lt_of_lt_of_le (Int32.not_le.mp c_81) bd_80.2) ex_102) hIσ43 frσ43 hd0 hP hD hS (lv_sub hl [0, 1, 2, 3] rfl)
      · refine lv_aload_n hx hb dX0_layPeriods_20 rfl (lv_at hl 1 rfl) ?_
        refine lv_aload_n hx hb dX0_layPeriods_21 rfl (lv_at hl 1 rfl) ?_
        refine va_get (D := (dC, dI)) (ci := 0) (v := .ref (ad (o + 1))) (C := RX0) (T := TX0) (N := 16) hx hb hts hinX0 hown hK hP o (at_0 ho) rfl 10 (by decide) (hts (.fieldLink RX0 43 "BondCalendars$Bond" "gridDays" "[I") (by decide +kernel)) (fun _ h9 => h9) rfl dX0_layPeriods_22 ?_
        refine lv_iload_n hx hb dX0_layPeriods_25 rfl (lv_at hl 0 rfl) ?_
        refine va_iald hx hb hK hP ((o + 1)) ((o + 1)) (at_27 (kk_0_1 ho)) (ty_27 (kk_0_1 ho)) (gin (N := 94) (by decide) (Int32.not_lt.mp c_1) (Int32.lt_of_le_of_lt (Int32.not_lt.mp c_52) (show (90 : Int32) < 94 by decide))) dX0_layPeriods_26 ?_
        refine lv_topi (fun x_103 _ => ?_)
        have hF := gFree hD hS hA
        refine va_callvD hd0 (va_runV_D (As := [.int x_103]) (rest := []) ⟨hx, hb, hml, hown, hts⟩ (n_X0_addPeriod l dC dI ad cA adK adV H.size σ10x hIσ10x o ho x_103) (cwV 1 hts gX0_layPeriods_X0_addPeriod rfl rfl rfl (by decide +kernel) ⟨Nat.le_of_ble_eq_true rfl, Nat.le_of_ble_eq_true rfl⟩) ⟨gBlind, va_recv hK hP (ci := 0) (q0 := o) rfl (at_0 ho), gStart (As := [.ref (ad o), .int x_103]) hP hD hK0 hT hS hF (d10)⟩ rfl rfl hl.1 rfl (lv_room (Nat.le_of_ble_eq_true rfl)) dX0_layPeriods_27 ⟨Nat.le_of_ble_eq_true rfl, Nat.le_of_ble_eq_true rfl⟩) hS (fun q _ h => hF q h) hF (fun σ44 t H locs ht hvm hw hB hz1 hk1 hS d_105 hd0 => ?_)
        have hts := dr_words hts0 (d_105)
        have hK := gKd hK0 (d_105)
        have hown : (s.setDrawn (d_105)).vm.findClass RX0 = some m.cls := hown0
        obtain ⟨hP, hD⟩ := gBack hF ht hB
        obtain ⟨hIσ44, fcσ44, hp_106⟩ := hw
        obtain ⟨x_107, ex_107⟩ : ∃ zz : Int32, zz = i3 + 1 := ⟨_, rfl⟩
        refine lv_iinc (v := x_107) (lv' := [(3, .int x_107), (0, .ref (ad o)), (1, .ref (ad a0)), (2, .ref (ad a1))]) hx hb dX0_layPeriods_30 hl (k := 0) rfl (by rw [ex_107]; rfl) (by decide) rfl (fun ls hl => ?_)
        refine lv_goto (tgt := 10) hx hb dX0_layPeriods_33 (by decide) ?_
        exact ih10 x_107 σ44 _ _ _ _ (cnt_m (Int32.not_lt.mp c_1) (Int32.lt_of_le_of_lt (Int32.not_lt.mp c_52) (show (90 : Int32) < 91 by decide)) hm10 ex_107)  hIσ44 (gFr.tr frσ10x fcσ44 (by decide)) hd0 hP hD hS (lv_sub hl [0, 1, 2, 3] rfl)
