set_option maxHeartbeats 8000000 in
set_option maxRecDepth 100000 in
theorem n_X12_currentOf (l : Launch) (dC : Nat → ClassId) (dI : Nat → Nat → Nat) (ad : Nat → Nat) (cA : Nat → ClassId) (adK adV : Nat → Nat) (sz : Nat) (σ : gs) (hI : InvM σ) (p0 : Int32) (p1 : Int32) (hh0 : 0 ≤ p0) (hh1 : p0 < 4) (hh2 : EndOK σ p0.toNatClampNeg) (hh3 : p1 < (σ 4).1 p0.toNatClampNeg) : MetD lw_cs l yX12_currentOf wsX12_currentOf ({ frames := 1, cells := 0, slots := 0, locals := 22 }) (va_Pc [.ref (ad 0), .int p0, .int p1] (gPre adK adV (dC, dI) (wM ad cA σ) (tM cA) sz)) (va_Qi (fun (r : Int32) (τ : gs) => InvM τ ∧ σ = τ ∧ (0 ≤ r ∧ r < 82 ∧ r < (σ 17).1 p0.toNatClampNeg)) (fun τ t => gPost (dC, dI) (va_A (wM ad cA σ) sz) (wM ad cA τ) t) (va_A (wM ad cA σ) sz)) 0 0 (va_A (wM ad cA σ) sz) := by
  refine MetD.ofW (cc := cX12_currentOf) (maxL := 4) (ret := (some .int)) (by decide) rfl ?_
  intro p e s m args below meth c s₁ B hml hv hd0
  obtain ⟨rfl, hsz, hP, hK, hD0, hT⟩ := hv
  have hx := B.exec
  have hb := B.bytes
  have hr := B.returns
  have hts0 := atoms_spec (ws := wsX12_currentOf) B.pre
  have hK0 := hK
  have hown0 : s.vm.findClass RX12 = some m.cls := findClass_of_methodNamed B.named
  have hlocks := B.notSynchronized
  subst hsz
  have hD := hD0.self (sz := s.heap.size)
  generalize hAe : va_A (wM ad cA σ) s.heap.size = A at hD hT ⊢
  have hA : ∀ q : Nat, s.heap.size ≤ q → A q := fun q h => by rw [← hAe]; exact Or.inr h
  have hS : va_S A s.heap s.heap [] := va_S.rf
  have hl := lv_entry ([.ref (ad 0), .int p0, .int p1]) (n := 4) (Nat.le_of_ble_eq_true rfl)
  rw [lg_entry_eq]
  generalize (lg_sl ([.ref (ad 0), .int p0, .int p1]) ++ List.replicate (4 - (lg_sl ([.ref (ad 0), .int p0, .int p1])).length) Slot.unset).toArray = ls at hl ⊢
  have hl : lv_has ls 4 [(0, .ref (ad 0)), (1, .int p0), (2, .int p1)] := hl
  have hts := dr_words hts0 (s.drawn)
  have hK := gKd hK0 (s.drawn)
  have hown : (s.setDrawn (s.drawn)).vm.findClass RX12 = some m.cls := hown0
  have bd17 := mrd_57 (c := 17) hI rfl p0.toNatClampNeg
  refine lv_iconst (v := 0) hx hb dX12_currentOf_0 (by decide) ?_
  refine lv_istore_n (lv' := [(3, .int 0), (0, .ref (ad 0)), (1, .int p0), (2, .int p1)]) hx hb dX12_currentOf_1 rfl hl (by decide) rfl (fun ls hl => ?_)
  refine (fun (h : ∀ (n : Nat) (k3 : Int32) (d2 : Drawn) (H : Heap) (locs : List Loc) (ls : Array Slot), ((82 : Int32).toInt - k3.toInt).toNat < n → 0 ≤ k3 → k3 < (σ 17).1 p0.toNatClampNeg → s.drawn.sameBut d2 lw_cs → va_P (dC, dI) vwCl (wM ad cA σ) H → va_D A (wM ad cA σ) → va_S A s.heap H locs → lv_has ls 4 [(3, .int k3), (0, .ref (ad 0)), (1, .int p0), (2, .int p1)] → W p l e _ (s.setDrawn d2) m _ below meth c H locs _ _ _ (F0 m 2 ls [])) => h _ 0 _ _ _ _ (Nat.lt_succ_self _) (by decide) (Int32.lt_of_lt_of_le (show (0 : Int32) < 1 by decide) hh2.1) hd0 hP hD hS (lv_sub hl [0, 1, 2, 3] rfl)) ?_
  intro n2
  induction n2 with
  | zero => intro k3  d2 H locs ls hm; exact absurd hm (Nat.not_lt_zero _)
  | succ n2 ih2 =>
    intro k3  d2 H locs ls hm2 iv2_0 iv2_1  hd0 hP hD hS hl
    have hts := dr_words hts0 (d2)
    have hK := gKd hK0 (d2)
    have hown : (s.setDrawn (d2)).vm.findClass RX12 = some m.cls := hown0
    refine lv_aload_n hx hb dX12_currentOf_2 rfl (lv_at hl 1 rfl) ?_
    refine lv_iload_n hx hb dX12_currentOf_3 rfl (lv_at hl 2 rfl) ?_
    refine lv_iload_n hx hb dX12_currentOf_4 rfl (lv_at hl 0 rfl) ?_
    have hF := gFree hD hS hA
    refine va_calliD hd0 (va_runV_D (As := [.int p0, .int k3]) (rest := []) ⟨hx, hb, hml, hown, hts⟩ (n_X12_endOf l dC dI ad cA adK adV H.size σ hI p0 k3 hh0 hh1 iv2_0 (Int32.lt_of_lt_of_le iv2_1 bd17.2)) (cwV 2 hts gX12_currentOf_X12_endOf rfl rfl rfl (by decide +kernel) ⟨Nat.le_of_ble_eq_true rfl, Nat.le_of_ble_eq_true rfl⟩) ⟨gBlind, va_recv hK hP (ci := 11) (q0 := 0) rfl (mat_11 rfl), gStart (As := [.ref (ad 0), .int p0, .int k3]) hP hD hK0 hT hS hF (d2)⟩ rfl rfl hl.1 rfl (lv_room (Nat.le_of_ble_eq_true rfl)) dX12_currentOf_5 ⟨Nat.le_of_ble_eq_true rfl, Nat.le_of_ble_eq_true rfl⟩) hS (fun q _ h => hF q h) hF (fun r_1 σ1 t H locs ht hvm hw hB hz1 hk1 hS d_2 hd0 => ?_)
    have hts := dr_words hts0 (d_2)
    have hK := gKd hK0 (d_2)
    have hown : (s.setDrawn (d_2)).vm.findClass RX12 = some m.cls := hown0
    obtain ⟨hP, hD⟩ := gBack hF ht hB
    obtain ⟨hIσ1, hro, hp_3⟩ := hw
    subst hro
    have eo_4 : ∀ j : Nat, (j : Int) = 82 * p0.toInt + k3.toInt → r_1 = (σ 18).1 j := hp_3.2.2
    refine lv_iload_n hx hb dX12_currentOf_8 rfl (lv_at hl 3 rfl) ?_
    refine lv_icmp_gt (tgt := 18) hx hb dX12_currentOf_9 (by decide) (fun c_5 => ?_) (fun c_5 => ?_)
    · refine lv_iload_n hx hb dX12_currentOf_18 rfl (lv_at hl 0 rfl) ?_
      refine W.endD hd0 ?_
      exact W.iret (v := k3) hx hb hr (fun t ht hW => ⟨⟨k3, σ, rfl, ⟨hI, rfl, ⟨iv2_0, (Int32.lt_of_lt_of_le iv2_1 bd17.2), iv2_1⟩⟩, ⟨by rw [ht]; exact hP, hD⟩⟩, hS.F ht⟩) hS.2.2 dX12_currentOf_19
    · obtain ⟨x_6, ex_6⟩ : ∃ zz : Int32, zz = k3 + 1 := ⟨_, rfl⟩
      refine lv_iinc (v := x_6) (lv' := [(3, .int x_6), (0, .ref (ad 0)), (1, .int p0), (2, .int p1)]) hx hb dX12_currentOf_12 hl (k := 0) rfl (by rw [ex_6]; rfl) (by decide) rfl (fun ls hl => ?_)
      refine lv_goto (tgt := 2) hx hb dX12_currentOf_15 (by decide) ?_
      exact ih2 x_6 _ _ _ _ (cnt_m iv2_0 (Int32.lt_of_lt_of_le iv2_1 bd17.2) hm2 ex_6) (cur_s hI hh2 hh3 hh0 iv2_0 iv2_1 eo_4 (Int32.not_lt.mp c_5) ex_6).2 (cur_s hI hh2 hh3 hh0 iv2_0 iv2_1 eo_4 (Int32.not_lt.mp c_5) ex_6).1 hd0 hP hD hS (lv_sub hl [0, 1, 2, 3] rfl)
set_option maxHeartbeats 8000000 in
set_option maxRecDepth 100000 in
theorem n_X12_isExAt (l : Launch) (dC : Nat → ClassId) (dI : Nat → Nat → Nat) (ad : Nat → Nat) (cA : Nat → ClassId) (adK adV : Nat → Nat) (sz : Nat) (σ : gs) (hI : InvM σ) (p0 : Int32) (p1 : Int32) (hh0 : 0 ≤ p0) (hh1 : p0 < 4) (hh2 : EndOK σ p0.toNatClampNeg) (hh3 : p1 < (σ 4).1 p0.toNatClampNeg) : MetD lw_cs l yX12_isExAt wsX12_isExAt ({ frames := 2, cells := 0, slots := 0, locals := 45 }) (va_Pc [.ref (ad 0), .int p0, .int p1] (gPre adK adV (dC, dI) (wM ad cA σ) (tM cA) sz)) (va_Qi (fun (r : Int32) (τ : gs) => InvM τ ∧ σ = τ ∧ (r = 0 ∨ r = 1)) (fun τ t => gPost (dC, dI) (va_A (wM ad cA σ) sz) (wM ad cA τ) t) (va_A (wM ad cA σ) sz)) 0 0 (va_A (wM ad cA σ) sz) := by
  refine MetD.ofW (cc := cX12_isExAt) (maxL := 3) (ret := (some .boolean)) (by decide) rfl ?_
  intro p e s m args below meth c s₁ B hml hv hd0
  obtain ⟨rfl, hsz, hP, hK, hD0, hT⟩ := hv
  have hx := B.exec
  have hb := B.bytes
  have hr := B.returns
  have hts0 := atoms_spec (ws := wsX12_isExAt) B.pre
  have hK0 := hK
  have hown0 : s.vm.findClass RX12 = some m.cls := findClass_of_methodNamed B.named
  have hlocks := B.notSynchronized
  have hinX12 : ∀ w ∈ u_ws RX12 TX12 69, w ∈ wsX12_isExAt := (fun _ h9 => List.mem_cons_of_mem _ (List.mem_append_right _ h9))
  subst hsz
  have hD := hD0.self (sz := s.heap.size)
  generalize hAe : va_A (wM ad cA σ) s.heap.size = A at hD hT ⊢
  have hA : ∀ q : Nat, s.heap.size ≤ q → A q := fun q h => by rw [← hAe]; exact Or.inr h
  have hS : va_S A s.heap s.heap [] := va_S.rf
  have hl := lv_entry ([.ref (ad 0), .int p0, .int p1]) (n := 3) (Nat.le_of_ble_eq_true rfl)
  rw [lg_entry_eq]
  generalize (lg_sl ([.ref (ad 0), .int p0, .int p1]) ++ List.replicate (3 - (lg_sl ([.ref (ad 0), .int p0, .int p1])).length) Slot.unset).toArray = ls at hl ⊢
  have hl : lv_has ls 3 [(0, .ref (ad 0)), (1, .int p0), (2, .int p1)] := hl
  have hts := dr_words hts0 (s.drawn)
  have hK := gKd hK0 (s.drawn)
  have hown : (s.setDrawn (s.drawn)).vm.findClass RX12 = some m.cls := hown0
  refine lv_aload_n hx hb dX12_isExAt_0 rfl (lv_at hl 0 rfl) ?_
  refine va_get (D := (dC, dI)) (ci := 11) (v := .ref (ad 19)) (C := RX12) (T := TX12) (N := 69) hx hb hts hinX12 hown hK hP 0 (mat_11 rfl) rfl 41 (by decide) (hts (.fieldLink RX12 70 "BondCalendarsModel" "exDay" "[I") (by decide +kernel)) (fun _ h9 => h9) rfl dX12_isExAt_1 ?_
  refine lv_bipush (v := 82) hx hb dX12_isExAt_4 (by decide) ?_
  refine lv_iload_n hx hb dX12_isExAt_6 rfl (lv_at hl 1 rfl) ?_
  refine lv_imul hx hb dX12_isExAt_7 ?_
  refine lv_topi (fun x_1 ex_1 => ?_)
  refine lv_aload_n hx hb dX12_isExAt_8 rfl (lv_at hl 0 rfl) ?_
  refine lv_iload_n hx hb dX12_isExAt_9 rfl (lv_at hl 1 rfl) ?_
  refine lv_iload_n hx hb dX12_isExAt_10 rfl (lv_at hl 2 rfl) ?_
  have hF := gFree hD hS hA
  refine va_calliD hd0 (va_runV_D (As := [.int p0, .int p1]) (rest := [.int x_1, .ref (ad 19)]) ⟨hx, hb, hml, hown, hts⟩ (n_X12_currentOf l dC dI ad cA adK adV s.heap.size σ hI p0 p1 hh0 hh1 hh2 hh3) (cwV 2 hts gX12_isExAt_X12_currentOf rfl rfl rfl (by decide +kernel) ⟨Nat.le_of_ble_eq_true rfl, Nat.le_of_ble_eq_true rfl⟩) ⟨gBlind, va_recv hK hP (ci := 11) (q0 := 0) rfl (mat_11 rfl), gStart (As := [.ref (ad 0), .int p0, .int p1]) hP hD hK0 hT hS hF (s.drawn)⟩ rfl rfl hl.1 rfl (lv_room (Nat.le_of_ble_eq_true rfl)) dX12_isExAt_11 ⟨Nat.le_of_ble_eq_true rfl, Nat.le_of_ble_eq_true rfl⟩) hS (fun q _ h => hF q h) hF (fun r_2 σ1 t H locs ht hvm hw hB hz1 hk1 hS d_3 hd0 => ?_)
  have hts := dr_words hts0 (d_3)
  have hK := gKd hK0 (d_3)
  have hown : (s.setDrawn (d_3)).vm.findClass RX12 = some m.cls := hown0
  obtain ⟨hP, hD⟩ := gBack hF ht hB
  obtain ⟨hIσ1, hro, hp_4⟩ := hw
  subst hro
  refine lv_iadd hx hb dX12_isExAt_14 ?_
  refine lv_topi (fun x_5 ex_5 => ?_)
  have hi_6 : vp_in x_5 328 := by have ab1 : (0 : Int) ≤ p0.toInt := Int32.le_iff_toInt_le.mp hh0; have ab2 : p0.toInt ≤ (3 : Int) := Int32.le_iff_toInt_le.mp (gl2 (b := 3) hh1 (by decide)); have tt3 : x_1.toInt = (82 * p0.toInt) := (by rw [ex_1]; exact i3_mul (a := (82 : Int32)) (b := p0) (x := 82) (y := p0.toInt) rfl rfl (by omega) (by omega)); have ab4 : (0 : Int) ≤ r_2.toInt := Int32.le_iff_toInt_le.mp hp_4.1; have ab5 : r_2.toInt ≤ (81 : Int) := Int32.le_iff_toInt_le.mp (gl2 (b := 81) hp_4.2.1 (by decide)); have tt6 : x_5.toInt = ((82 * p0.toInt) + r_2.toInt) := (by rw [ex_5]; exact i3_add (a := x_1) (b := r_2) (x := (82 * p0.toInt)) (y := r_2.toInt) tt3 rfl (by omega) (by omega)); have z0 : (0 : Int32).toInt = 0 := (by decide); have zn : (328 : Int32).toInt = 328 := (by decide); exact gin (N := 328) (by decide) (Int32.le_iff_toInt_le.mpr (by omega)) (Int32.lt_iff_toInt_lt.mpr (by omega))
  refine va_iald hx hb hK hP 19 19 (mat_59 rfl) (mty_59 rfl) hi_6 dX12_isExAt_15 ?_
  refine lv_topi (fun x_7 ex_7 => ?_)
  have bd_8 := mrd_59 (c := 19) hI rfl x_5.toNatClampNeg
  refine lv_iload_n hx hb dX12_isExAt_16 rfl (lv_at hl 2 rfl) ?_
  have hF := gFree (w := []) (hx_D0 (A := A)) hS hA
  have hKe := hK.sub (tys' := []) [] rfl
  refine va_calli (va_runS (As := [.int p1]) (rest := [.int x_7]) ⟨hx, hb, hml, hown, hts⟩ (k_X12_dayOf l dC dI H.size p1 ) (va_cwS 1 hts gX12_isExAt_X12_dayOf rfl rfl rfl (by decide +kernel) ⟨Nat.le_of_ble_eq_true rfl, Nat.le_of_ble_eq_true rfl⟩) ⟨fun a U g mk q => by obtain ⟨q0, q1, qP, qK, qD⟩ := q; exact ⟨q0, q1, qP, va_K.moved (u := U) (U := U.calling g mk a) (Vm.Alike.refl U.vm) qK, qD⟩, fun U hU hW => ⟨rfl, by rw [hU], hx_P0, va_K.moved hW.alike hKe, hx_D0⟩⟩ rfl rfl hl.1 rfl (lv_room (Nat.le_of_ble_eq_true rfl)) dX12_isExAt_17 ⟨Nat.le_of_ble_eq_true rfl, Nat.le_of_ble_eq_true rfl⟩) hS (fun q _ h => hF q h) hF (fun r_9 u t H locs ht hvm hw hB hz1 hk1 hS => ?_)
  have hP := gKeep hP hk1
  have pu_10 : r_9 = f_X12_dayOf p1 := hw
  refine lv_icmp_gt (tgt := 27) hx hb dX12_isExAt_20 (by decide) (fun c_11 => ?_) (fun c_11 => ?_)
  · refine lv_iconst (v := 0) hx hb dX12_isExAt_27 (by decide) ?_
    refine W.endD hd0 ?_
    exact W.zret (v := 0) hx hb hr (by decide) (fun t ht hW => ⟨⟨0, σ, rfl, ⟨hI, rfl, Or.inl rfl⟩, ⟨by rw [ht]; exact hP, hD⟩⟩, hS.F ht⟩) hS.2.2 dX12_isExAt_28
  · refine lv_iconst (v := 1) hx hb dX12_isExAt_23 (by decide) ?_
    refine lv_goto (tgt := 28) hx hb dX12_isExAt_24 (by decide) ?_
    refine W.endD hd0 ?_
    exact W.zret (v := 1) hx hb hr (by decide) (fun t ht hW => ⟨⟨1, σ, rfl, ⟨hI, rfl, Or.inr rfl⟩, ⟨by rw [ht]; exact hP, hD⟩⟩, hS.F ht⟩) hS.2.2 dX12_isExAt_28
set_option maxHeartbeats 8000000 in
set_option maxRecDepth 100000 in
theorem n_X12_accrues (l : Launch) (dC : Nat → ClassId) (dI : Nat → Nat → Nat) (ad : Nat → Nat) (cA : Nat → ClassId) (adK adV : Nat → Nat) (sz : Nat) (σ : gs) (hI : InvM σ) (p0 : Int32) (p1 : Int32) (hh0 : 0 ≤ p0) (hh1 : p0 < 4) (hh2 : GridOK σ p0.toNatClampNeg) (hh3 : EndOK σ p0.toNatClampNeg) (hh4 : p1 < (σ 4).1 p0.toNatClampNeg) : MetD lw_cs l yX12_accrues wsX12_accrues ({ frames := 5, cells := 0, slots := 0, locals := 132 }) (va_Pc [.ref (ad 0), .int p0, .int p1] (gPre adK adV (dC, dI) (wM ad cA σ) (tM cA) sz)) (va_Qv (fun (τ : gs) => InvM τ ∧ mFr [] [] σ τ ∧ ((((τ 0).2.1 4).toInt.natAbs ∣ LLn))) (fun τ t => gPost (dC, dI) (va_A (wM ad cA σ) sz) (wM ad cA τ) t) (va_A (wM ad cA σ) sz)) 0 0 (va_A (wM ad cA σ) sz) := by
  refine MetD.ofW (cc := cX12_accrues) (maxL := 8) (ret := none) (by decide) rfl ?_
  intro p e s m args below meth c s₁ B hml hv hd0
  obtain ⟨rfl, hsz, hP, hK, hD0, hT⟩ := hv
  have hx := B.exec
  have hb := B.bytes
  have hr := B.returns
  have hts0 := atoms_spec (ws := wsX12_accrues) B.pre
  have hK0 := hK
  have hown0 : s.vm.findClass RX12 = some m.cls := findClass_of_methodNamed B.named
  have hlocks := B.notSynchronized
  have hinX12 : ∀ w ∈ u_ws RX12 TX12 69, w ∈ wsX12_accrues := (fun _ h9 => List.mem_cons_of_mem _ (List.mem_append_right _ h9))
  subst hsz
  have hD := hD0.self (sz := s.heap.size)
  generalize hAe : va_A (wM ad cA σ) s.heap.size = A at hD hT ⊢
  have hA : ∀ q : Nat, s.heap.size ≤ q → A q := fun q h => by rw [← hAe]; exact Or.inr h
  have hS : va_S A s.heap s.heap [] := va_S.rf
  have hl := lv_entry ([.ref (ad 0), .int p0, .int p1]) (n := 8) (Nat.le_of_ble_eq_true rfl)
  rw [lg_entry_eq]
  generalize (lg_sl ([.ref (ad 0), .int p0, .int p1]) ++ List.replicate (8 - (lg_sl ([.ref (ad 0), .int p0, .int p1])).length) Slot.unset).toArray = ls at hl ⊢
  have hl : lv_has ls 8 [(0, .ref (ad 0)), (1, .int p0), (2, .int p1)] := hl
  have hts := dr_words hts0 (s.drawn)
  have hK := gKd hK0 (s.drawn)
  have hown : (s.setDrawn (s.drawn)).vm.findClass RX12 = some m.cls := hown0
  refine lv_aload_n hx hb dX12_accrues_0 rfl (lv_at hl 0 rfl) ?_
  refine lv_iload_n hx hb dX12_accrues_1 rfl (lv_at hl 1 rfl) ?_
  refine lv_iload_n hx hb dX12_accrues_2 rfl (lv_at hl 2 rfl) ?_
  have hF := gFree hD hS hA
  refine va_calliD hd0 (va_runV_D (As := [.int p0, .int p1]) (rest := []) ⟨hx, hb, hml, hown, hts⟩ (n_X12_currentOf l dC dI ad cA adK adV s.heap.size σ hI p0 p1 hh0 hh1 hh3 hh4) (cwV 2 hts gX12_accrues_X12_currentOf rfl rfl rfl (by decide +kernel) ⟨Nat.le_of_ble_eq_true rfl, Nat.le_of_ble_eq_true rfl⟩) ⟨gBlind, va_recv hK hP (ci := 11) (q0 := 0) rfl (mat_11 rfl), gStart (As := [.ref (ad 0), .int p0, .int p1]) hP hD hK0 hT hS hF (s.drawn)⟩ rfl rfl hl.1 rfl (lv_room (Nat.le_of_ble_eq_true rfl)) dX12_accrues_3 ⟨Nat.le_of_ble_eq_true rfl, Nat.le_of_ble_eq_true rfl⟩) hS (fun q _ h => hF q h) hF (fun r_1 σ1 t H locs ht hvm hw hB hz1 hk1 hS d_2 hd0 => ?_)
  have hts := dr_words hts0 (d_2)
  have hK := gKd hK0 (d_2)
  have hown : (s.setDrawn (d_2)).vm.findClass RX12 = some m.cls := hown0
  obtain ⟨hP, hD⟩ := gBack hF ht hB
  obtain ⟨hIσ1, hro, hp_3⟩ := hw
  subst hro
  refine lv_istore_n (lv' := [(3, .int r_1), (0, .ref (ad 0)), (1, .int p0), (2, .int p1)]) hx hb dX12_accrues_6 rfl hl (by decide) rfl (fun ls hl => ?_)
  refine lv_lconst (v := 0) hx hb dX12_accrues_7 (by decide) ?_
  refine lv_lstore (lv' := [(4, .long 0), (3, .int r_1), (0, .ref (ad 0)), (1, .int p0), (2, .int p1)]) hx hb dX12_accrues_8 hl (by decide) rfl (fun ls hl => ?_)
  refine lv_lconst (v := 1) hx hb dX12_accrues_10 (by decide) ?_
  refine lv_lstore (lv' := [(6, .long 1), (4, .long 0), (3, .int r_1), (0, .ref (ad 0)), (1, .int p0), (2, .int p1)]) hx hb dX12_accrues_11 hl (by decide) rfl (fun ls hl => ?_)
  refine lv_aload_n hx hb dX12_accrues_13 rfl (lv_at hl 3 rfl) ?_
  refine lv_iload_n hx hb dX12_accrues_14 rfl (lv_at hl 4 rfl) ?_
  refine lv_iload_n hx hb dX12_accrues_15 rfl (lv_at hl 5 rfl) ?_
  have hF := gFree hD hS hA
  refine va_calliD hd0 (va_runV_D (As := [.int p0, .int p1]) (rest := []) ⟨hx, hb, hml, hown, hts⟩ (n_X12_isExAt l dC dI ad cA adK adV H.size σ hI p0 p1 hh0 hh1 hh3 hh4) (cwV 2 hts gX12_accrues_X12_isExAt rfl rfl rfl (by decide +kernel) ⟨Nat.le_of_ble_eq_true rfl, Nat.le_of_ble_eq_true rfl⟩) ⟨gBlind, va_recv hK hP (ci := 11) (q0 := 0) rfl (mat_11 rfl), gStart (As := [.ref (ad 0), .int p0, .int p1]) hP hD hK0 hT hS hF (d_2)⟩ rfl rfl hl.1 rfl (lv_room (Nat.le_of_ble_eq_true rfl)) dX12_accrues_16 ⟨Nat.le_of_ble_eq_true rfl, Nat.le_of_ble_eq_true rfl⟩) hS (fun q _ h => hF q h) hF (fun r_4 σ2 t H locs ht hvm hw hB hz1 hk1 hS d_5 hd0 => ?_)
  have hts := dr_words hts0 (d_5)
  have hK := gKd hK0 (d_5)
  have hown : (s.setDrawn (d_5)).vm.findClass RX12 = some m.cls := hown0
  obtain ⟨hP, hD⟩ := gBack hF ht hB
  obtain ⟨hIσ2, hro, hp_6⟩ := hw
  subst hro
  refine lv_if_eq (tgt := 41) hx hb dX12_accrues_19 (by decide) (fun c_7 => ?_) (fun c_7 => ?_)
  · refine lv_aload_n hx hb dX12_accrues_41 rfl (lv_at hl 3 rfl) ?_
    refine lv_iload_n hx hb dX12_accrues_42 rfl (lv_at hl 4 rfl) ?_
    refine lv_aload_n hx hb dX12_accrues_43 rfl (lv_at hl 3 rfl) ?_
    refine lv_iload_n hx hb dX12_accrues_44 rfl (lv_at hl 4 rfl) ?_
    refine lv_iload_n hx hb dX12_accrues_45 rfl (lv_at hl 2 rfl) ?_
    have hF := gFree hD hS hA
    refine va_calliD hd0 (va_runV_D (As := [.int p0, .int r_1]) (rest := [.int p0, .ref (ad 0)]) ⟨hx, hb, hml, hown, hts⟩ (n_X12_startOf l dC dI ad cA adK adV H.size σ hI p0 r_1 hh0 hh1 hp_3.1 hp_3.2.1) (cwV 2 hts gX12_accrues_X12_startOf rfl rfl rfl (by decide +kernel) ⟨Nat.le_of_ble_eq_true rfl, Nat.le_of_ble_eq_true rfl⟩) ⟨gBlind, va_recv hK hP (ci := 11) (q0 := 0) rfl (mat_11 rfl), gStart (As := [.ref (ad 0), .int p0, .int r_1]) hP hD hK0 hT hS hF (d_5)⟩ rfl rfl hl.1 rfl (lv_room (Nat.le_of_ble_eq_true rfl)) dX12_accrues_46 ⟨Nat.le_of_ble_eq_true rfl, Nat.le_of_ble_eq_true rfl⟩) hS (fun q _ h => hF q h) hF (fun r_8 σ3 t H locs ht hvm hw hB hz1 hk1 hS d_9 hd0 => ?_)
    have hts := dr_words hts0 (d_9)
    have hK := gKd hK0 (d_9)
    have hown : (s.setDrawn (d_9)).vm.findClass RX12 = some m.cls := hown0
    obtain ⟨hP, hD⟩ := gBack hF ht hB
    obtain ⟨hIσ3, hro, hp_10⟩ := hw
    subst hro
    refine lv_iload_n hx hb dX12_accrues_49 rfl (lv_at hl 5 rfl) ?_
    have hF := gFree hD hS hA
    refine va_callvD hd0 (va_runV_D (As := [.int p0, .int r_8, .int p1]) (rest := []) ⟨hx, hb, hml, hown, hts⟩ (n_X12_counts l dC dI ad cA adK adV H.size σ hI p0 r_8 p1 hh0 hh1 hh2) (cwV 3 hts gX12_accrues_X12_counts rfl rfl rfl (by decide +kernel) ⟨Nat.le_of_ble_eq_true rfl, Nat.le_of_ble_eq_true rfl⟩) ⟨gBlind, va_recv hK hP (ci := 11) (q0 := 0) rfl (mat_11 rfl), gStart (As := [.ref (ad 0), .int p0, .int r_8, .int p1]) hP hD hK0 hT hS hF (d_9)⟩ rfl rfl hl.1 rfl (lv_room (Nat.le_of_ble_eq_true rfl)) dX12_accrues_50 ⟨Nat.le_of_ble_eq_true rfl, Nat.le_of_ble_eq_true rfl⟩) hS (fun q _ h => hF q h) hF (fun σ4 t H locs ht hvm hw hB hz1 hk1 hS d_12 hd0 => ?_)
    have hts := dr_words hts0 (d_12)
    have hK := gKd hK0 (d_12)
    have hown : (s.setDrawn (d_12)).vm.findClass RX12 = some m.cls := hown0
    obtain ⟨hP, hD⟩ := gBack hF ht hB
    obtain ⟨hIσ4, fcσ4, hp_13⟩ := hw
    refine lv_aload_n hx hb dX12_accrues_53 rfl (lv_at hl 3 rfl) ?_
    refine lv_aload_n hx hb dX12_accrues_54 rfl (lv_at hl 3 rfl) ?_
    refine va_get (D := (dC, dI)) (ci := 11) (v := .ref (ad 1)) (C := RX12) (T := TX12) (N := 69) hx hb hts hinX12 hown hK hP 0 (mat_11 rfl) rfl 5 (by decide) (hts (.fieldLink RX12 13 "BondCalendarsModel" "rate" "[I") (by decide +kernel)) (fun _ h9 => h9) rfl dX12_accrues_55 ?_
    refine lv_iload_n hx hb dX12_accrues_58 rfl (lv_at hl 4 rfl) ?_
    refine va_iald hx hb hK hP 1 1 (mat_41 rfl) (mty_41 rfl) (gin (N := 8) (by decide) hh0 (Int32.lt_trans hh1 (show (4 : Int32) < 8 by decide))) dX12_accrues_59 ?_
    refine lv_topi (fun x_14 ex_14 => ?_)
    have ex_14 : x_14 = ((σ 1).1 p0.toNatClampNeg) := by rw [ex_14, fcσ4.1 1 (by decide) (by decide)]
    refine lv_i2l hx hb dX12_accrues_60 rfl ?_
    refine lv_ldc2 (v := 100) hx hb hown (hts (.constantLong RX12 408 (100)) (by decide +kernel)) dX12_accrues_61 ?_
    have hF := gFree hD hS hA
    refine va_callvD hd0 (va_runV_D (As := [.long (x_14.toInt64), .long 100]) (rest := []) ⟨hx, hb, hml, hown, hts⟩ (n_X12_times l dC dI ad cA adK adV H.size σ4 hIσ4 (x_14.toInt64) 100 (tm_100 hp_13)) (cwV 2 hts gX12_accrues_X12_times rfl rfl rfl (by decide +kernel) ⟨Nat.le_of_ble_eq_true rfl, Nat.le_of_ble_eq_true rfl⟩) ⟨gBlind, va_recv hK hP (ci := 11) (q0 := 0) rfl (mat_11 rfl), gStart (As := [.ref (ad 0), .long (x_14.toInt64), .long 100]) hP hD hK0 hT hS hF (d_12)⟩ rfl rfl hl.1 rfl (lv_room (Nat.le_of_ble_eq_true rfl)) dX12_accrues_64 ⟨Nat.le_of_ble_eq_true rfl, Nat.le_of_ble_eq_true rfl⟩) hS (fun q _ h => hF q h) hF (fun σ5 t H locs ht hvm hw hB hz1 hk1 hS d_16 hd0 => ?_)
    have hts := dr_words hts0 (d_16)
    have hK := gKd hK0 (d_16)
    have hown : (s.setDrawn (d_16)).vm.findClass RX12 = some m.cls := hown0
    obtain ⟨hP, hD⟩ := gBack hF ht hB
    obtain ⟨hIσ5, fcσ5, hp_17⟩ := hw
    refine lv_aload_n hx hb dX12_accrues_67 rfl (lv_at hl 3 rfl) ?_
    refine lv_lload hx hb dX12_accrues_68 (lv_at hl 1 rfl) ?_
    refine lv_lload hx hb dX12_accrues_70 (lv_at hl 0 rfl) ?_
    have hF := gFree hD hS hA
    refine va_callvD hd0 (va_runV_D (As := [.long 0, .long 1]) (rest := []) ⟨hx, hb, hml, hown, hts⟩ (n_X12_adds l dC dI ad cA adK adV H.size σ5 hIσ5 0 1 (dL_dv hp_17 (tm_100 hp_13)) (show dL 1 by unfold dL; decide +kernel)) (cwV 2 hts gX12_accrues_X12_adds rfl rfl rfl (by decide +kernel) ⟨Nat.le_of_ble_eq_true rfl, Nat.le_of_ble_eq_true rfl⟩) ⟨gBlind, va_recv hK hP (ci := 11) (q0 := 0) rfl (mat_11 rfl), gStart (As := [.ref (ad 0), .long 0, .long 1]) hP hD hK0 hT hS hF (d_16)⟩ rfl rfl hl.1 rfl (lv_room (Nat.le_of_ble_eq_true rfl)) dX12_accrues_72 ⟨Nat.le_of_ble_eq_true rfl, Nat.le_of_ble_eq_true rfl⟩) hS (fun q _ h => hF q h) hF (fun σ6 t H locs ht hvm hw hB hz1 hk1 hS d_19 hd0 => ?_)
    have hts := dr_words hts0 (d_19)
    have hK := gKd hK0 (d_19)
    have hown : (s.setDrawn (d_19)).vm.findClass RX12 = some m.cls := hown0
    obtain ⟨hP, hD⟩ := gBack hF ht hB
    obtain ⟨hIσ6, fcσ6, hp_20⟩ := hw
    refine W.endD hd0 ?_
    exact W.vret hx hb hr (fun t ht hW => ⟨⟨σ6, rfl, ⟨hIσ6, (mFr.tr (mFr.tr (mFr.tr (mFr.rfl (L := []) (F := []) (σ := σ)) fcσ4 (by decide) (by decide)) fcσ5 (by decide) (by decide)) fcσ6 (by decide) (by decide)), (lcm_n hp_20 (dL_dv hp_17 (tm_100 hp_13)) (show (1 : Int64).toInt.natAbs ∣ LLn by decide +kernel))⟩, ⟨by rw [ht]; exact hP, hD⟩⟩, hS.F ht⟩) hS.2.2 dX12_accrues_75
  · refine lv_aload_n hx hb dX12_accrues_22 rfl (lv_at hl 3 rfl) ?_
    refine lv_iload_n hx hb dX12_accrues_23 rfl (lv_at hl 4 rfl) ?_
    refine lv_iload_n hx hb dX12_accrues_24 rfl (lv_at hl 2 rfl) ?_
    have hF := gFree hD hS hA
    refine va_callvD hd0 (va_runV_D (As := [.int p0, .int r_1]) (rest := []) ⟨hx, hb, hml, hown, hts⟩ (n_X12_coupons l dC dI ad cA adK adV H.size σ hI p0 r_1 hh0 hh1 hp_3.1 hp_3.2.1 hh2) (cwV 2 hts gX12_accrues_X12_coupons rfl rfl rfl (by decide +kernel) ⟨Nat.le_of_ble_eq_true rfl, Nat.le_of_ble_eq_true rfl⟩) ⟨gBlind, va_recv hK hP (ci := 11) (q0 := 0) rfl (mat_11 rfl), gStart (As := [.ref (ad 0), .int p0, .int r_1]) hP hD hK0 hT hS hF (d_5)⟩ rfl rfl hl.1 rfl (lv_room (Nat.le_of_ble_eq_true rfl)) dX12_accrues_25 ⟨Nat.le_of_ble_eq_true rfl, Nat.le_of_ble_eq_true rfl⟩) hS (fun q _ h => hF q h) hF (fun σ7 t H locs ht hvm hw hB hz1 hk1 hS d_22 hd0 => ?_)
    have hts := dr_words hts0 (d_22)
    have hK := gKd hK0 (d_22)
    have hown : (s.setDrawn (d_22)).vm.findClass RX12 = some m.cls := hown0
    obtain ⟨hP, hD⟩ := gBack hF ht hB
    obtain ⟨hIσ7, fcσ7, hp_23⟩ := hw
    refine lv_aload_n hx hb dX12_accrues_28 rfl (lv_at hl 3 rfl) ?_
    refine va_get (D := (dC, dI)) (ci := 11) (v := .long ((σ7 0).2.1 3)) (C := RX12) (T := TX12) (N := 69) hx hb hts hinX12 hown hK hP 0 (mat_11 rfl) rfl 3 (by decide) (hts (.fieldLink RX12 161 "BondCalendarsModel" "up" "J") (by decide +kernel)) (fun _ h9 => h9) rfl dX12_accrues_29 ?_
    refine lv_lneg hx hb dX12_accrues_32 ?_
    refine lv_topl (fun x_24 ex_24 => ?_)
    refine lv_lstore (lv' := [(4, .long x_24), (6, .long 1), (3, .int r_1), (0, .ref (ad 0)), (1, .int p0), (2, .int p1)]) hx hb dX12_accrues_33 hl (by decide) rfl (fun ls hl => ?_)
    refine lv_aload_n hx hb dX12_accrues_35 rfl (lv_at hl 3 rfl) ?_
    refine va_get (D := (dC, dI)) (ci := 11) (v := .long ((σ7 0).2.1 4)) (C := RX12) (T := TX12) (N := 69) hx hb hts hinX12 hown hK hP 0 (mat_11 rfl) rfl 4 (by decide) (hts (.fieldLink RX12 165 "BondCalendarsModel" "lo" "J") (by decide +kernel)) (fun _ h9 => h9) rfl dX12_accrues_36 ?_
    refine lv_lstore (lv' := [(6, .long ((σ7 0).2.1 4)), (4, .long x_24), (3, .int r_1), (0, .ref (ad 0)), (1, .int p0), (2, .int p1)]) hx hb dX12_accrues_39 hl (by decide) rfl (fun ls hl => ?_)
    refine lv_aload_n hx hb dX12_accrues_41 rfl (lv_at hl 3 rfl) ?_
    refine lv_iload_n hx hb dX12_accrues_42 rfl (lv_at hl 4 rfl) ?_
    refine lv_aload_n hx hb dX12_accrues_43 rfl (lv_at hl 3 rfl) ?_
    refine lv_iload_n hx hb dX12_accrues_44 rfl (lv_at hl 4 rfl) ?_
    refine lv_iload_n hx hb dX12_accrues_45 rfl (lv_at hl 2 rfl) ?_
    have hF := gFree hD hS hA
    refine va_calliD hd0 (va_runV_D (As := [.int p0, .int r_1]) (rest := [.int p0, .ref (ad 0)]) ⟨hx, hb, hml, hown, hts⟩ (n_X12_startOf l dC dI ad cA adK adV H.size σ7 hIσ7 p0 r_1 hh0 hh1 hp_3.1 hp_3.2.1) (cwV 2 hts gX12_accrues_X12_startOf rfl rfl rfl (by decide +kernel) ⟨Nat.le_of_ble_eq_true rfl, Nat.le_of_ble_eq_true rfl⟩) ⟨gBlind, va_recv hK hP (ci := 11) (q0 := 0) rfl (mat_11 rfl), gStart (As := [.ref (ad 0), .int p0, .int r_1]) hP hD hK0 hT hS hF (d_22)⟩ rfl rfl hl.1 rfl (lv_room (Nat.le_of_ble_eq_true rfl)) dX12_accrues_46 ⟨Nat.le_of_ble_eq_true rfl, Nat.le_of_ble_eq_true rfl⟩) hS (fun q _ h => hF q h) hF (fun r_25 σ8 t H locs ht hvm hw hB hz1 hk1 hS d_26 hd0 => ?_)
    have hts := dr_words hts0 (d_26)
    have hK := gKd hK0 (d_26)
    have hown : (s.setDrawn (d_26)).vm.findClass RX12 = some m.cls := hown0
    obtain ⟨hP, hD⟩ := gBack hF ht hB
    obtain ⟨hIσ8, hro, hp_27⟩ := hw
    subst hro
    refine lv_iload_n hx hb dX12_accrues_49 rfl (lv_at hl 5 rfl) ?_
    have hF := gFree hD hS hA
    refine va_callvD hd0 (va_runV_D (As := [.int p0, .int r_25, .int p1]) (rest := []) ⟨hx, hb, hml, hown, hts⟩ (n_X12_counts l dC dI ad cA adK adV H.size σ7 hIσ7 p0 r_25 p1 hh0 hh1 (GridOK.cells hh2 (by rw [fcσ7.1 2 (by decide) (by decide)]) (by rw [fcσ7.1 9 (by decide) (by decide)]))) (cwV 3 hts gX12_accrues_X12_counts rfl rfl rfl (by decide +kernel) ⟨Nat.le_of_ble_eq_true rfl, Nat.le_of_ble_eq_true rfl⟩) ⟨gBlind, va_recv hK hP (ci := 11) (q0 := 0) rfl (mat_11 rfl), gStart (As := [.ref (ad 0), .int p0, .int r_25, .int p1]) hP hD hK0 hT hS hF (d_26)⟩ rfl rfl hl.1 rfl (lv_room (Nat.le_of_ble_eq_true rfl)) dX12_accrues_50 ⟨Nat.le_of_ble_eq_true rfl, Nat.le_of_ble_eq_true rfl⟩) hS (fun q _ h => hF q h) hF (fun σ9 t H locs ht hvm hw hB hz1 hk1 hS d_29 hd0 => ?_)
    have hts := dr_words hts0 (d_29)
    have hK := gKd hK0 (d_29)
    have hown : (s.setDrawn (d_29)).vm.findClass RX12 = some m.cls := hown0
    obtain ⟨hP, hD⟩ := gBack hF ht hB
    obtain ⟨hIσ9, fcσ9, hp_30⟩ := hw
    refine lv_aload_n hx hb dX12_accrues_53 rfl (lv_at hl 3 rfl) ?_
    refine lv_aload_n hx hb dX12_accrues_54 rfl (lv_at hl 3 rfl) ?_
    refine va_get (D := (dC, dI)) (ci := 11) (v := .ref (ad 1)) (C := RX12) (T := TX12) (N := 69) hx hb hts hinX12 hown hK hP 0 (mat_11 rfl) rfl 5 (by decide) (hts (.fieldLink RX12 13 "BondCalendarsModel" "rate" "[I") (by decide +kernel)) (fun _ h9 => h9) rfl dX12_accrues_55 ?_
    refine lv_iload_n hx hb dX12_accrues_58 rfl (lv_at hl 4 rfl) ?_
    refine va_iald hx hb hK hP 1 1 (mat_41 rfl) (mty_41 rfl) (gin (N := 8) (by decide) hh0 (Int32.lt_trans hh1 (show (4 : Int32) < 8 by decide))) dX12_accrues_59 ?_
    refine lv_topi (fun x_31 ex_31 => ?_)
    have ex_31 : x_31 = ((σ 1).1 p0.toNatClampNeg) := by rw [ex_31, fcσ9.1 1 (by decide) (by decide), fcσ7.1 1 (by decide) (by decide)]
    refine lv_i2l hx hb dX12_accrues_60 rfl ?_
    refine lv_ldc2 (v := 100) hx hb hown (hts (.constantLong RX12 408 (100)) (by decide +kernel)) dX12_accrues_61 ?_
    have hF := gFree hD hS hA
    refine va_callvD hd0 (va_runV_D (As := [.long (x_31.toInt64), .long 100]) (rest := []) ⟨hx, hb, hml, hown, hts⟩ (n_X12_times l dC dI ad cA adK adV H.size σ9 hIσ9 (x_31.toInt64) 100 (tm_100 hp_30)) (cwV 2 hts gX12_accrues_X12_times rfl rfl rfl (by decide +kernel) ⟨Nat.le_of_ble_eq_true rfl, Nat.le_of_ble_eq_true rfl⟩) ⟨gBlind, va_recv hK hP (ci := 11) (q0 := 0) rfl (mat_11 rfl), gStart (As := [.ref (ad 0), .long (x_31.toInt64), .long 100]) hP hD hK0 hT hS hF (d_29)⟩ rfl rfl hl.1 rfl (lv_room (Nat.le_of_ble_eq_true rfl)) dX12_accrues_64 ⟨Nat.le_of_ble_eq_true rfl, Nat.le_of_ble_eq_true rfl⟩) hS (fun q _ h => hF q h) hF (fun σ10 t H locs ht hvm hw hB hz1 hk1 hS d_33 hd0 => ?_)
    have hts := dr_words hts0 (d_33)
    have hK := gKd hK0 (d_33)
    have hown : (s.setDrawn (d_33)).vm.findClass RX12 = some m.cls := hown0
    obtain ⟨hP, hD⟩ := gBack hF ht hB
    obtain ⟨hIσ10, fcσ10, hp_34⟩ := hw
    refine lv_aload_n hx hb dX12_accrues_67 rfl (lv_at hl 3 rfl) ?_
    refine lv_lload hx hb dX12_accrues_68 (lv_at hl 1 rfl) ?_
    refine lv_lload hx hb dX12_accrues_70 (lv_at hl 0 rfl) ?_
    have hF := gFree hD hS hA
    refine va_callvD hd0 (va_runV_D (As := [.long x_24, .long ((σ7 0).2.1 4)]) (rest := []) ⟨hx, hb, hml, hown, hts⟩ (n_X12_adds l dC dI ad cA adK adV H.size σ10 hIσ10 x_24 ((σ7 0).2.1 4) (dL_dv hp_34 (tm_100 hp_30)) hp_23) (cwV 2 hts gX12_accrues_X12_adds rfl rfl rfl (by decide +kernel) ⟨Nat.le_of_ble_eq_true rfl, Nat.le_of_ble_eq_true rfl⟩) ⟨gBlind, va_recv hK hP (ci := 11) (q0 := 0) rfl (mat_11 rfl), gStart (As := [.ref (ad 0), .long x_24, .long ((σ7 0).2.1 4)]) hP hD hK0 hT hS hF (d_33)⟩ rfl rfl hl.1 rfl (lv_room (Nat.le_of_ble_eq_true rfl)) dX12_accrues_72 ⟨Nat.le_of_ble_eq_true rfl, Nat.le_of_ble_eq_true rfl⟩) hS (fun q _ h => hF q h) hF (fun σ11 t H locs ht hvm hw hB hz1 hk1 hS d_36 hd0 => ?_)
    have hts := dr_words hts0 (d_36)
    have hK := gKd hK0 (d_36)
    have hown : (s.setDrawn (d_36)).vm.findClass RX12 = some m.cls := hown0
    obtain ⟨hP, hD⟩ := gBack hF ht hB
    obtain ⟨hIσ11, fcσ11, hp_37⟩ := hw
    refine W.endD hd0 ?_
    exact W.vret hx hb hr (fun t ht hW => ⟨⟨σ11, rfl, ⟨hIσ11, (mFr.tr (mFr.tr (mFr.tr (mFr.tr (mFr.rfl (L := []) (F := []) (σ := σ)) fcσ7 (by decide) (by decide)) fcσ9 (by decide) (by decide)) fcσ10 (by decide) (by decide)) fcσ11 (by decide) (by decide)), (lcm_n hp_37 (dL_dv hp_34 (tm_100 hp_30)) hp_23)⟩, ⟨by rw [ht]; exact hP, hD⟩⟩, hS.F ht⟩) hS.2.2 dX12_accrues_75
set_option maxHeartbeats 8000000 in
set_option maxRecDepth 100000 in
theorem n_X12_settles (l : Launch) (dC : Nat → ClassId) (dI : Nat → Nat → Nat) (ad : Nat → Nat) (cA : Nat → ClassId) (adK adV : Nat → Nat) (sz : Nat) (σ : gs) (hI : InvM σ) (p0 : Int32) (p1 : Int32) (hh0 : 0 ≤ p0) (hh1 : p0 < 4) (hh2 : GridOK σ p0.toNatClampNeg) (hh3 : EndOK σ p0.toNatClampNeg) (hh4 : p1 < (σ 4).1 p0.toNatClampNeg) : MetD lw_cs l yX12_settles wsX12_settles ({ frames := 6, cells := 0, slots := 0, locals := 159 }) (va_Pc [.ref (ad 0), .int p0, .int p1] (gPre adK adV (dC, dI) (wM ad cA σ) (tM cA) sz)) (va_Qv (fun (τ : gs) => InvM τ ∧ mFr [] [47, 48, 49] σ τ ∧ (True)) (fun τ t => gPost (dC, dI) (va_A (wM ad cA σ) sz) (wM ad cA τ) t) (va_A (wM ad cA σ) sz)) 0 0 (va_A (wM ad cA σ) sz) := by
  refine MetD.ofW (cc := cX12_settles) (maxL := 3) (ret := none) (by decide) rfl ?_
  intro p e s m args below meth c s₁ B hml hv hd0
  obtain ⟨rfl, hsz, hP, hK, hD0, hT⟩ := hv
  have hx := B.exec
  have hb := B.bytes
  have hr := B.returns
  have hts0 := atoms_spec (ws := wsX12_settles) B.pre
  have hK0 := hK
  have hown0 : s.vm.findClass RX12 = some m.cls := findClass_of_methodNamed B.named
  have hlocks := B.notSynchronized
  have hinX12 : ∀ w ∈ u_ws RX12 TX12 69, w ∈ wsX12_settles := (fun _ h9 => List.mem_cons_of_mem _ (List.mem_append_right _ h9))
  subst hsz
  have hD := hD0.self (sz := s.heap.size)
  generalize hAe : va_A (wM ad cA σ) s.heap.size = A at hD hT ⊢
  have hA : ∀ q : Nat, s.heap.size ≤ q → A q := fun q h => by rw [← hAe]; exact Or.inr h
  have hS : va_S A s.heap s.heap [] := va_S.rf
  have hl := lv_entry ([.ref (ad 0), .int p0, .int p1]) (n := 3) (Nat.le_of_ble_eq_true rfl)
  rw [lg_entry_eq]
  generalize (lg_sl ([.ref (ad 0), .int p0, .int p1]) ++ List.replicate (3 - (lg_sl ([.ref (ad 0), .int p0, .int p1])).length) Slot.unset).toArray = ls at hl ⊢
  have hl : lv_has ls 3 [(0, .ref (ad 0)), (1, .int p0), (2, .int p1)] := hl
  have hts := dr_words hts0 (s.drawn)
  have hK := gKd hK0 (s.drawn)
  have hown : (s.setDrawn (s.drawn)).vm.findClass RX12 = some m.cls := hown0
  refine lv_aload_n hx hb dX12_settles_0 rfl (lv_at hl 0 rfl) ?_
  refine lv_iload_n hx hb dX12_settles_1 rfl (lv_at hl 1 rfl) ?_
  refine va_put (D := (dC, dI)) (ci := 11) (v := .int p0) (C := RX12) (T := TX12) (N := 69) hx hb hts hinX12 tyX12 tyX12_ok nmX12 hown hK hP hD hS 0 (mat_11 rfl) rfl 47 (by decide) (hts (.fieldLink RX12 487 "BondCalendarsModel" "settleBond" "I") (by decide +kernel)) (fun _ h9 => h9) rfl (ty := .int) (by decide +kernel) rfl rfl (Nat.le_of_ble_eq_true rfl) dX12_settles_2 (fun H locs hP hD hS => ?_)
  obtain ⟨σ1, eσ1, hP, hD⟩ := gPut (mse_11_47 rfl) hP hD
  have hIσ1 : InvM σ1 := by rw [eσ1]; exact minv_I hI (mok_11_47 rfl _ ⟨hh0, (gl2 (b := 3) hh1 (by decide))⟩)
  have frσ1 : mFr [] [47, 48, 49] σ σ1 := by rw [eσ1]; exact mFr.oI (mFr.rfl (L := []) (F := [47, 48, 49]) (σ := σ)) (by decide)
  refine lv_aload_n hx hb dX12_settles_5 rfl (lv_at hl 0 rfl) ?_
  refine lv_aload_n hx hb dX12_settles_6 rfl (lv_at hl 0 rfl) ?_
  refine lv_iload_n hx hb dX12_settles_7 rfl (lv_at hl 1 rfl) ?_
  refine lv_iload_n hx hb dX12_settles_8 rfl (lv_at hl 2 rfl) ?_
  have hF := gFree hD hS hA
  refine va_calliD hd0 (va_runV_D (As := [.int p0, .int p1]) (rest := [.ref (ad 0)]) ⟨hx, hb, hml, hown, hts⟩ (n_X12_currentOf l dC dI ad cA adK adV H.size σ1 hIσ1 p0 p1 hh0 hh1 (EndOK.cells hh3 (by rw [eσ1, gI_ne _ _ _ (by decide)]) (by rw [eσ1, gI_ne _ _ _ (by decide)]) (by rw [eσ1, gI_ne _ _ _ (by decide)])) (lt_ch (Eq.refl _) (show ((σ1 4).1 p0.toNatClampNeg : Int32) = ((σ 4).1 p0.toNatClampNeg : Int32) from by rw [eσ1, gI_ne _ _ _ (by decide)]) hh4)) (cwV 2 hts gX12_settles_X12_currentOf rfl rfl rfl (by decide +kernel) ⟨Nat.le_of_ble_eq_true rfl, Nat.le_of_ble_eq_true rfl⟩) ⟨gBlind, va_recv hK hP (ci := 11) (q0 := 0) rfl (mat_11 rfl), gStart (As := [.ref (ad 0), .int p0, .int p1]) hP hD hK0 hT hS hF (s.drawn)⟩ rfl rfl hl.1 rfl (lv_room (Nat.le_of_ble_eq_true rfl)) dX12_settles_9 ⟨Nat.le_of_ble_eq_true rfl, Nat.le_of_ble_eq_true rfl⟩) hS (fun q _ h => hF q h) hF (fun r_1 σ2 t H locs ht hvm hw hB hz1 hk1 hS d_2 hd0 => ?_)
  have hts := dr_words hts0 (d_2)
  have hK := gKd hK0 (d_2)
  have hown : (s.setDrawn (d_2)).vm.findClass RX12 = some m.cls := hown0
  obtain ⟨hP, hD⟩ := gBack hF ht hB
  obtain ⟨hIσ2, hro, hp_3⟩ := hw
  subst hro
  have of_4 : (r_1 : Int32) < ((σ 17).1 p0.toNatClampNeg : Int32) := lt_ch (Eq.refl _).symm (show ((σ1 17).1 p0.toNatClampNeg : Int32) = ((σ 17).1 p0.toNatClampNeg : Int32) from by rw [eσ1, gI_ne _ _ _ (by decide)]).symm hp_3.2.2
  refine va_put (D := (dC, dI)) (ci := 11) (v := .int r_1) (C := RX12) (T := TX12) (N := 69) hx hb hts hinX12 tyX12 tyX12_ok nmX12 hown hK hP hD hS 0 (mat_11 rfl) rfl 48 (by decide) (hts (.fieldLink RX12 490 "BondCalendarsModel" "settlePeriod" "I") (by decide +kernel)) (fun _ h9 => h9) rfl (ty := .int) (by decide +kernel) rfl rfl (Nat.le_of_ble_eq_true rfl) dX12_settles_12 (fun H locs hP hD hS => ?_)
  obtain ⟨σ3, eσ3, hP, hD⟩ := gPut (mse_11_48 rfl) hP hD
  have hIσ3 : InvM σ3 := by rw [eσ3]; exact minv_I hIσ1 (mok_11_48 rfl _ hp_3.1)
  have frσ3 : mFr [] [47, 48, 49] σ σ3 := by rw [eσ3]; exact mFr.oI frσ1 (by decide)
  refine lv_aload_n hx hb dX12_settles_15 rfl (lv_at hl 0 rfl) ?_
  refine lv_aload_n hx hb dX12_settles_16 rfl (lv_at hl 0 rfl) ?_
  refine lv_iload_n hx hb dX12_settles_17 rfl (lv_at hl 1 rfl) ?_
  refine lv_iload_n hx hb dX12_settles_18 rfl (lv_at hl 2 rfl) ?_
  have hF := gFree hD hS hA
  refine va_calliD hd0 (va_runV_D (As := [.int p0, .int p1]) (rest := [.ref (ad 0)]) ⟨hx, hb, hml, hown, hts⟩ (n_X12_isExAt l dC dI ad cA adK adV H.size σ3 hIσ3 p0 p1 hh0 hh1 (EndOK.cells hh3 (by rw [eσ3, gI_ne _ _ _ (by decide), eσ1, gI_ne _ _ _ (by decide)]) (by rw [eσ3, gI_ne _ _ _ (by decide), eσ1, gI_ne _ _ _ (by decide)]) (by rw [eσ3, gI_ne _ _ _ (by decide), eσ1, gI_ne _ _ _ (by decide)])) (lt_ch (Eq.refl _) (show ((σ3 4).1 p0.toNatClampNeg : Int32) = ((σ 4).1 p0.toNatClampNeg : Int32) from by rw [eσ3, gI_ne _ _ _ (by decide), eσ1, gI_ne _ _ _ (by decide)]) hh4)) (cwV 2 hts gX12_settles_X12_isExAt rfl rfl rfl (by decide +kernel) ⟨Nat.le_of_ble_eq_true rfl, Nat.le_of_ble_eq_true rfl⟩) ⟨gBlind, va_recv hK hP (ci := 11) (q0 := 0) rfl (mat_11 rfl), gStart (As := [.ref (ad 0), .int p0, .int p1]) hP hD hK0 hT hS hF (d_2)⟩ rfl rfl hl.1 rfl (lv_room (Nat.le_of_ble_eq_true rfl)) dX12_settles_19 ⟨Nat.le_of_ble_eq_true rfl, Nat.le_of_ble_eq_true rfl⟩) hS (fun q _ h => hF q h) hF (fun r_5 σ4 t H locs ht hvm hw hB hz1 hk1 hS d_6 hd0 => ?_)
  have hts := dr_words hts0 (d_6)
  have hK := gKd hK0 (d_6)
  have hown : (s.setDrawn (d_6)).vm.findClass RX12 = some m.cls := hown0
  obtain ⟨hP, hD⟩ := gBack hF ht hB
  obtain ⟨hIσ4, hro, hp_7⟩ := hw
  subst hro
  refine va_put (D := (dC, dI)) (ci := 11) (v := .int r_5) (C := RX12) (T := TX12) (N := 69) hx hb hts hinX12 tyX12 tyX12_ok nmX12 hown hK hP hD hS 0 (mat_11 rfl) rfl 49 (by decide) (hts (.fieldLink RX12 493 "BondCalendarsModel" "settleEx" "Z") (by decide +kernel)) (fun _ h9 => h9) rfl (ty := .boolean) (by decide +kernel) (by rcases hp_7 with h9 | h9 <;> rw [h9] <;> decide +kernel) (by rcases hp_7 with h9 | h9 <;> rw [h9] <;> decide +kernel) (Nat.le_of_ble_eq_true rfl) dX12_settles_22 (fun H locs hP hD hS => ?_)
  obtain ⟨σ5, eσ5, hP, hD⟩ := gPut (mse_11_49 rfl) hP hD
  have hIσ5 : InvM σ5 := by rw [eσ5]; exact minv_I hIσ3 (mok_11_49 rfl _)
  have frσ5 : mFr [] [47, 48, 49] σ σ5 := by rw [eσ5]; exact mFr.oI frσ3 (by decide)
  refine lv_aload_n hx hb dX12_settles_25 rfl (lv_at hl 0 rfl) ?_
  refine lv_iload_n hx hb dX12_settles_26 rfl (lv_at hl 1 rfl) ?_
  refine lv_iload_n hx hb dX12_settles_27 rfl (lv_at hl 2 rfl) ?_
  refine lv_aload_n hx hb dX12_settles_28 rfl (lv_at hl 0 rfl) ?_
  refine lv_iload_n hx hb dX12_settles_29 rfl (lv_at hl 1 rfl) ?_
  refine lv_aload_n hx hb dX12_settles_30 rfl (lv_at hl 0 rfl) ?_
  refine va_get (D := (dC, dI)) (ci := 11) (v := .int r_1) (C := RX12) (T := TX12) (N := 69) hx hb hts hinX12 hown hK hP 0 (mat_11 rfl) rfl 48 (by decide) (hts (.fieldLink RX12 490 "BondCalendarsModel" "settlePeriod" "I") (by decide +kernel)) (fun _ h9 => h9) (congrArg (fun z => some (Value.int z)) (show (σ5 0).1 48 = r_1 from by rw [eσ5, gI_oth _ _ _ (by decide), eσ3, gI_self])) dX12_settles_31 ?_
  have hF := gFree hD hS hA
  refine va_calliD hd0 (va_runV_D (As := [.int p0, .int r_1]) (rest := [.int p1, .int p0, .ref (ad 0)]) ⟨hx, hb, hml, hown, hts⟩ (n_X12_endOf l dC dI ad cA adK adV H.size σ5 hIσ5 p0 r_1 hh0 hh1 hp_3.1 hp_3.2.1) (cwV 2 hts gX12_settles_X12_endOf rfl rfl rfl (by decide +kernel) ⟨Nat.le_of_ble_eq_true rfl, Nat.le_of_ble_eq_true rfl⟩) ⟨gBlind, va_recv hK hP (ci := 11) (q0 := 0) rfl (mat_11 rfl), gStart (As := [.ref (ad 0), .int p0, .int r_1]) hP hD hK0 hT hS hF (d_6)⟩ rfl rfl hl.1 rfl (lv_room (Nat.le_of_ble_eq_true rfl)) dX12_settles_34 ⟨Nat.le_of_ble_eq_true rfl, Nat.le_of_ble_eq_true rfl⟩) hS (fun q _ h => hF q h) hF (fun r_8 σ6 t H locs ht hvm hw hB hz1 hk1 hS d_9 hd0 => ?_)
  have hts := dr_words hts0 (d_9)
  have hK := gKd hK0 (d_9)
  have hown : (s.setDrawn (d_9)).vm.findClass RX12 = some m.cls := hown0
  obtain ⟨hP, hD⟩ := gBack hF ht hB
  obtain ⟨hIσ6, hro, hp_10⟩ := hw
  subst hro
  have eo_11 : ∀ j : Nat, (j : Int) = 82 * p0.toInt + r_1.toInt → r_8 = (σ 18).1 j := fun j hj => by have h7 := hp_10.2.2 j hj; rw [eσ5, gI_ne _ _ _ (by decide), eσ3, gI_ne _ _ _ (by decide), eσ1, gI_ne _ _ _ (by decide)] at h7; exact h7
  have hF := gFree hD hS hA
  refine va_callvD hd0 (va_runV_D (As := [.int p0, .int p1, .int r_8]) (rest := []) ⟨hx, hb, hml, hown, hts⟩ (n_X12_counts l dC dI ad cA adK adV H.size σ5 hIσ5 p0 p1 r_8 hh0 hh1 (GridOK.cells hh2 (by rw [eσ5, gI_ne _ _ _ (by decide), eσ3, gI_ne _ _ _ (by decide), eσ1, gI_ne _ _ _ (by decide)]) (by rw [eσ5, gI_ne _ _ _ (by decide), eσ3, gI_ne _ _ _ (by decide), eσ1, gI_ne _ _ _ (by decide)]))) (cwV 3 hts gX12_settles_X12_counts rfl rfl rfl (by decide +kernel) ⟨Nat.le_of_ble_eq_true rfl, Nat.le_of_ble_eq_true rfl⟩) ⟨gBlind, va_recv hK hP (ci := 11) (q0 := 0) rfl (mat_11 rfl), gStart (As := [.ref (ad 0), .int p0, .int p1, .int r_8]) hP hD hK0 hT hS hF (d_9)⟩ rfl rfl hl.1 rfl (lv_room (Nat.le_of_ble_eq_true rfl)) dX12_settles_37 ⟨Nat.le_of_ble_eq_true rfl, Nat.le_of_ble_eq_true rfl⟩) hS (fun q _ h => hF q h) hF (fun σ7 t H locs ht hvm hw hB hz1 hk1 hS d_13 hd0 => ?_)
  have hts := dr_words hts0 (d_13)
  have hK := gKd hK0 (d_13)
  have hown : (s.setDrawn (d_13)).vm.findClass RX12 = some m.cls := hown0
  obtain ⟨hP, hD⟩ := gBack hF ht hB
  obtain ⟨hIσ7, fcσ7, hp_14⟩ := hw
  refine lv_aload_n hx hb dX12_settles_40 rfl (lv_at hl 0 rfl) ?_
  refine lv_aload_n hx hb dX12_settles_41 rfl (lv_at hl 0 rfl) ?_
  have hF := gFree hD hS hA
  refine va_calldD hd0 (va_runV_D (As := []) (rest := [.ref (ad 0)]) ⟨hx, hb, hml, hown, hts⟩ (n_X12_asDouble l dC dI ad cA adK adV H.size σ7 hIσ7 ) (cwV 0 hts gX12_settles_X12_asDouble rfl rfl rfl (by decide +kernel) ⟨Nat.le_of_ble_eq_true rfl, Nat.le_of_ble_eq_true rfl⟩) ⟨gBlind, va_recv hK hP (ci := 11) (q0 := 0) rfl (mat_11 rfl), gStart (As := [.ref (ad 0)]) hP hD hK0 hT hS hF (d_13)⟩ rfl rfl hl.1 rfl (lv_room (Nat.le_of_ble_eq_true rfl)) dX12_settles_42 ⟨Nat.le_of_ble_eq_true rfl, Nat.le_of_ble_eq_true rfl⟩) hS (fun q _ h => hF q h) hF (fun r_15 σ8 t H locs ht hvm hw hB hz1 hk1 hS d_16 hd0 => ?_)
  have hts := dr_words hts0 (d_16)
  have hK := gKd hK0 (d_16)
  have hown : (s.setDrawn (d_16)).vm.findClass RX12 = some m.cls := hown0
  obtain ⟨hP, hD⟩ := gBack hF ht hB
  obtain ⟨hIσ8, hro, hp_17⟩ := hw
  subst hro
  refine va_put (D := (dC, dI)) (ci := 11) (v := .double r_15) (C := RX12) (T := TX12) (N := 69) hx hb hts hinX12 tyX12 tyX12_ok nmX12 hown hK hP hD hS 0 (mat_11 rfl) rfl 50 (by decide) (hts (.fieldLink RX12 496 "BondCalendarsModel" "settleFraction" "D") (by decide +kernel)) (fun _ h9 => h9) rfl (ty := .double) (by decide +kernel) rfl rfl (Nat.le_of_ble_eq_true rfl) dX12_settles_45 (fun H locs hP hD hS => ?_)
  obtain ⟨σ9, eσ9, hP, hD⟩ := gPut (mse_11_50 rfl) hP hD
  have hIσ9 : InvM σ9 := by rw [eσ9]; exact minv_D hIσ7
  have frσ9 : mFr [] [47, 48, 49] σ σ9 := by rw [eσ9]; exact mFr.oD (mFr.tr frσ5 fcσ7 (by decide) (by decide))
  refine lv_aload_n hx hb dX12_settles_48 rfl (lv_at hl 0 rfl) ?_
  refine lv_iload_n hx hb dX12_settles_49 rfl (lv_at hl 1 rfl) ?_
  refine lv_iload_n hx hb dX12_settles_50 rfl (lv_at hl 2 rfl) ?_
  have hF := gFree hD hS hA
  refine va_callvD hd0 (va_runV_D (As := [.int p0, .int p1]) (rest := []) ⟨hx, hb, hml, hown, hts⟩ (n_X12_accrues l dC dI ad cA adK adV H.size σ9 hIσ9 p0 p1 hh0 hh1 (GridOK.cells hh2 (by rw [eσ9, gD_ne _ _ _ (by decide), fcσ7.1 2 (by decide) (by decide), eσ5, gI_ne _ _ _ (by decide), eσ3, gI_ne _ _ _ (by decide), eσ1, gI_ne _ _ _ (by decide)]) (by rw [eσ9, gD_ne _ _ _ (by decide), fcσ7.1 9 (by decide) (by decide), eσ5, gI_ne _ _ _ (by decide), eσ3, gI_ne _ _ _ (by decide), eσ1, gI_ne _ _ _ (by decide)])) (EndOK.cells hh3 (by rw [eσ9, gD_ne _ _ _ (by decide), fcσ7.1 4 (by decide) (by decide), eσ5, gI_ne _ _ _ (by decide), eσ3, gI_ne _ _ _ (by decide), eσ1, gI_ne _ _ _ (by decide)]) (by rw [eσ9, gD_ne _ _ _ (by decide), fcσ7.1 17 (by decide) (by decide), eσ5, gI_ne _ _ _ (by decide), eσ3, gI_ne _ _ _ (by decide), eσ1, gI_ne _ _ _ (by decide)]) (by rw [eσ9, gD_ne _ _ _ (by decide), fcσ7.1 18 (by decide) (by decide), eσ5, gI_ne _ _ _ (by decide), eσ3, gI_ne _ _ _ (by decide), eσ1, gI_ne _ _ _ (by decide)])) (lt_ch (Eq.refl _) (show ((σ9 4).1 p0.toNatClampNeg : Int32) = ((σ 4).1 p0.toNatClampNeg : Int32) from by rw [eσ9, gD_ne _ _ _ (by decide), fcσ7.1 4 (by decide) (by decide), eσ5, gI_ne _ _ _ (by decide), eσ3, gI_ne _ _ _ (by decide), eσ1, gI_ne _ _ _ (by decide)]) hh4)) (cwV 2 hts gX12_settles_X12_accrues rfl rfl rfl (by decide +kernel) ⟨Nat.le_of_ble_eq_true rfl, Nat.le_of_ble_eq_true rfl⟩) ⟨gBlind, va_recv hK hP (ci := 11) (q0 := 0) rfl (mat_11 rfl), gStart (As := [.ref (ad 0), .int p0, .int p1]) hP hD hK0 hT hS hF (d_16)⟩ rfl rfl hl.1 rfl (lv_room (Nat.le_of_ble_eq_true rfl)) dX12_settles_51 ⟨Nat.le_of_ble_eq_true rfl, Nat.le_of_ble_eq_true rfl⟩) hS (fun q _ h => hF q h) hF (fun σ10 t H locs ht hvm hw hB hz1 hk1 hS d_19 hd0 => ?_)
  have hts := dr_words hts0 (d_19)
  have hK := gKd hK0 (d_19)
  have hown : (s.setDrawn (d_19)).vm.findClass RX12 = some m.cls := hown0
  obtain ⟨hP, hD⟩ := gBack hF ht hB
  obtain ⟨hIσ10, fcσ10, hp_20⟩ := hw
  refine lv_aload_n hx hb dX12_settles_54 rfl (lv_at hl 0 rfl) ?_
  refine lv_aload_n hx hb dX12_settles_55 rfl (lv_at hl 0 rfl) ?_
  have hF := gFree hD hS hA
  refine va_calldD hd0 (va_runV_D (As := []) (rest := [.ref (ad 0)]) ⟨hx, hb, hml, hown, hts⟩ (n_X12_asDouble l dC dI ad cA adK adV H.size σ10 hIσ10 ) (cwV 0 hts gX12_settles_X12_asDouble rfl rfl rfl (by decide +kernel) ⟨Nat.le_of_ble_eq_true rfl, Nat.le_of_ble_eq_true rfl⟩) ⟨gBlind, va_recv hK hP (ci := 11) (q0 := 0) rfl (mat_11 rfl), gStart (As := [.ref (ad 0)]) hP hD hK0 hT hS hF (d_19)⟩ rfl rfl hl.1 rfl (lv_room (Nat.le_of_ble_eq_true rfl)) dX12_settles_56 ⟨Nat.le_of_ble_eq_true rfl, Nat.le_of_ble_eq_true rfl⟩) hS (fun q _ h => hF q h) hF (fun r_21 σ11 t H locs ht hvm hw hB hz1 hk1 hS d_22 hd0 => ?_)
  have hts := dr_words hts0 (d_22)
  have hK := gKd hK0 (d_22)
  have hown : (s.setDrawn (d_22)).vm.findClass RX12 = some m.cls := hown0
  obtain ⟨hP, hD⟩ := gBack hF ht hB
  obtain ⟨hIσ11, hro, hp_23⟩ := hw
  subst hro
  refine va_put (D := (dC, dI)) (ci := 11) (v := .double r_21) (C := RX12) (T := TX12) (N := 69) hx hb hts hinX12 tyX12 tyX12_ok nmX12 hown hK hP hD hS 0 (mat_11 rfl) rfl 51 (by decide) (hts (.fieldLink RX12 500 "BondCalendarsModel" "settleAccrued" "D") (by decide +kernel)) (fun _ h9 => h9) rfl (ty := .double) (by decide +kernel) rfl rfl (Nat.le_of_ble_eq_true rfl) dX12_settles_59 (fun H locs hP hD hS => ?_)
  obtain ⟨σ12, eσ12, hP, hD⟩ := gPut (mse_11_51 rfl) hP hD
  have hIσ12 : InvM σ12 := by rw [eσ12]; exact minv_D hIσ10
  have frσ12 : mFr [] [47, 48, 49] σ σ12 := by rw [eσ12]; exact mFr.oD (mFr.tr frσ9 fcσ10 (by decide) (by decide))
  refine W.endD hd0 ?_
  exact W.vret hx hb hr (fun t ht hW => ⟨⟨σ12, rfl, ⟨hIσ12, frσ12, trivial⟩, ⟨by rw [ht]; exact hP, hD⟩⟩, hS.F ht⟩) hS.2.2 dX12_settles_62
set_option maxHeartbeats 8000000 in
set_option maxRecDepth 100000 in
theorem n_X12_dirtyAt (l : Launch) (dC : Nat → ClassId) (dI : Nat → Nat → Nat) (ad : Nat → Nat) (cA : Nat → ClassId) (adK adV : Nat → Nat) (sz : Nat) (σ : gs) (hI : InvM σ) (p0 : UInt64) : MetD lw_cs l yX12_dirtyAt wsX12_dirtyAt ({ frames := 0, cells := 0, slots := 0, locals := 0 }) (va_Pc [.ref (ad 0), .double p0] (gPre adK adV (dC, dI) (wM ad cA σ) (tM cA) sz)) (va_Qd (fun (r : UInt64) (τ : gs) => InvM τ ∧ σ = τ ∧ (True)) (fun τ t => gPost (dC, dI) (va_A (wM ad cA σ) sz) (wM ad cA τ) t) (va_A (wM ad cA σ) sz)) 0 0 (va_A (wM ad cA σ) sz) := by
  refine MetD.ofW (cc := cX12_dirtyAt) (maxL := 11) (ret := (some .double)) (by decide) rfl ?_
  intro p e s m args below meth c s₁ B hml hv hd0
  obtain ⟨rfl, hsz, hP, hK, hD0, hT⟩ := hv
  have hx := B.exec
  have hb := B.bytes
  have hr := B.returns
  have hts0 := atoms_spec (ws := wsX12_dirtyAt) B.pre
  have hK0 := hK
  have hown0 : s.vm.findClass RX12 = some m.cls := findClass_of_methodNamed B.named
  have hlocks := B.notSynchronized
  have hinX12 : ∀ w ∈ u_ws RX12 TX12 69, w ∈ wsX12_dirtyAt := (fun _ h9 => List.mem_cons_of_mem _ (List.mem_append_right _ h9))
  subst hsz
  have hD := hD0.self (sz := s.heap.size)
  generalize hAe : va_A (wM ad cA σ) s.heap.size = A at hD hT ⊢
  have hA : ∀ q : Nat, s.heap.size ≤ q → A q := fun q h => by rw [← hAe]; exact Or.inr h
  have hS : va_S A s.heap s.heap [] := va_S.rf
  have hl := lv_entry ([.ref (ad 0), .double p0]) (n := 11) (Nat.le_of_ble_eq_true rfl)
  rw [lg_entry_eq]
  generalize (lg_sl ([.ref (ad 0), .double p0]) ++ List.replicate (11 - (lg_sl ([.ref (ad 0), .double p0])).length) Slot.unset).toArray = ls at hl ⊢
  have hl : lv_has ls 11 [(0, .ref (ad 0)), (1, .double p0)] := hl
  have hts := dr_words hts0 (s.drawn)
  have hK := gKd hK0 (s.drawn)
  have hown : (s.setDrawn (s.drawn)).vm.findClass RX12 = some m.cls := hown0
  refine lv_bipush (v := 82) hx hb dX12_dirtyAt_0 (by decide) ?_
  refine lv_aload_n hx hb dX12_dirtyAt_2 rfl (lv_at hl 0 rfl) ?_
  have bd_1 := mrd_11_47 (c := 0) hI rfl
  refine va_get (D := (dC, dI)) (ci := 11) (v := .int ((σ 0).1 47)) (C := RX12) (T := TX12) (N := 69) hx hb hts hinX12 hown hK hP 0 (mat_11 rfl) rfl 47 (by decide) (hts (.fieldLink RX12 487 "BondCalendarsModel" "settleBond" "I") (by decide +kernel)) (fun _ h9 => h9) rfl dX12_dirtyAt_3 ?_
  refine lv_imul hx hb dX12_dirtyAt_6 ?_
  refine lv_topi (fun x_2 ex_2 => ?_)
  refine lv_istore_n (lv' := [(3, .int x_2), (0, .ref (ad 0)), (1, .double p0)]) hx hb dX12_dirtyAt_7 rfl hl (by decide) rfl (fun ls hl => ?_)
  refine lv_dconst1 hx hb dX12_dirtyAt_8 ?_
  refine lv_dload_n hx hb dX12_dirtyAt_9 rfl (lv_at hl 2 rfl) ?_
  refine lv_aload_n hx hb dX12_dirtyAt_10 rfl (lv_at hl 1 rfl) ?_
  refine va_get (D := (dC, dI)) (ci := 11) (v := .double ((σ 0).2.2.1 50)) (C := RX12) (T := TX12) (N := 69) hx hb hts hinX12 hown hK hP 0 (mat_11 rfl) rfl 50 (by decide) (hts (.fieldLink RX12 496 "BondCalendarsModel" "settleFraction" "D") (by decide +kernel)) (fun _ h9 => h9) rfl dX12_dirtyAt_11 ?_
  refine lv_dmul_any hd0 lw_bits hx hb dX12_dirtyAt_14 (fun y_3 d_4 _ hd0 => ?_)
  have hts := dr_words hts0 (d_4)
  have hK := gKd hK0 (d_4)
  have hown : (s.setDrawn (d_4)).vm.findClass RX12 = some m.cls := hown0
  refine lv_dadd_any hd0 lw_bits hx hb dX12_dirtyAt_15 (fun y_5 d_6 _ hd0 => ?_)
  have hts := dr_words hts0 (d_6)
  have hK := gKd hK0 (d_6)
  have hown : (s.setDrawn (d_6)).vm.findClass RX12 = some m.cls := hown0
  refine lv_dstore (lv' := [(4, .double y_5), (3, .int x_2), (0, .ref (ad 0)), (1, .double p0)]) hx hb dX12_dirtyAt_16 hl (by decide) rfl (fun ls hl => ?_)
  refine lv_dconst0 hx hb dX12_dirtyAt_18 ?_
  refine lv_dstore (lv' := [(6, .double 0), (4, .double y_5), (3, .int x_2), (0, .ref (ad 0)), (1, .double p0)]) hx hb dX12_dirtyAt_19 hl (by decide) rfl (fun ls hl => ?_)
  refine lv_aload_n hx hb dX12_dirtyAt_21 rfl (lv_at hl 3 rfl) ?_
  have bd_7 := mrd_11_48 (c := 0) hI rfl
  refine va_get (D := (dC, dI)) (ci := 11) (v := .int ((σ 0).1 48)) (C := RX12) (T := TX12) (N := 69) hx hb hts hinX12 hown hK hP 0 (mat_11 rfl) rfl 48 (by decide) (hts (.fieldLink RX12 490 "BondCalendarsModel" "settlePeriod" "I") (by decide +kernel)) (fun _ h9 => h9) rfl dX12_dirtyAt_22 ?_
  refine lv_istore (lv' := [(8, .int ((σ 0).1 48)), (6, .double 0), (4, .double y_5), (3, .int x_2), (0, .ref (ad 0)), (1, .double p0)]) hx hb dX12_dirtyAt_25 hl (by decide) rfl (fun ls hl => ?_)
  refine (fun (h : ∀ (n : Nat) (k8 : Int32) (gg : UInt64) (vv : UInt64) (d27 : Drawn) (H : Heap) (locs : List Loc) (ls : Array Slot), ((82 : Int32).toInt - k8.toInt).toNat < n → 0 ≤ k8 → s.drawn.sameBut d27 lw_cs → va_P (dC, dI) vwCl (wM ad cA σ) H → va_D A (wM ad cA σ) → va_S A s.heap H locs → lv_has ls 11 [(8, .int k8), (6, .double vv), (4, .double gg), (3, .int x_2), (0, .ref (ad 0)), (1, .double p0)] → W p l e _ (s.setDrawn d27) m _ below meth c H locs _ _ _ (F0 m 27 ls [])) => h _ ((σ 0).1 48) y_5 0 _ _ _ _ (Nat.lt_succ_self _) bd_7 hd0 hP hD hS (lv_sub hl [0, 1, 2, 3, 4, 5] rfl)) ?_
  intro n27
  induction n27 with
  | zero => intro k8 gg vv  d27 H locs ls hm; exact absurd hm (Nat.not_lt_zero _)
  | succ n27 ih27 =>
    intro k8 gg vv  d27 H locs ls hm27 iv27_0  hd0 hP hD hS hl
    have hts := dr_words hts0 (d27)
    have hK := gKd hK0 (d27)
    have hown : (s.setDrawn (d27)).vm.findClass RX12 = some m.cls := hown0
    refine lv_iload hx hb dX12_dirtyAt_27 (lv_at hl 0 rfl) ?_
    refine lv_aload_n hx hb dX12_dirtyAt_29 rfl (lv_at hl 4 rfl) ?_
    refine va_get (D := (dC, dI)) (ci := 11) (v := .ref (ad 17)) (C := RX12) (T := TX12) (N := 69) hx hb hts hinX12 hown hK hP 0 (mat_11 rfl) rfl 39 (by decide) (hts (.fieldLink RX12 64 "BondCalendarsModel" "periodMany" "[I") (by decide +kernel)) (fun _ h9 => h9) rfl dX12_dirtyAt_30 ?_
    refine lv_aload_n hx hb dX12_dirtyAt_33 rfl (lv_at hl 4 rfl) ?_
    refine va_get (D := (dC, dI)) (ci := 11) (v := .int ((σ 0).1 47)) (C := RX12) (T := TX12) (N := 69) hx hb hts hinX12 hown hK hP 0 (mat_11 rfl) rfl 47 (by decide) (hts (.fieldLink RX12 487 "BondCalendarsModel" "settleBond" "I") (by decide +kernel)) (fun _ h9 => h9) rfl dX12_dirtyAt_34 ?_
    refine va_iald hx hb hK hP 17 17 (mat_57 rfl) (mty_57 rfl) (gin (N := 4) (by decide) bd_1.1 (Int32.lt_of_le_of_lt bd_1.2 (show (3 : Int32) < 4 by decide))) dX12_dirtyAt_37 ?_
    refine lv_topi (fun x_8 ex_8 => ?_)
    have bd_9 := mrd_57 (c := 17) hI rfl ((σ 0).1 47).toNatClampNeg
    refine lv_icmp_ge (tgt := 139) hx hb dX12_dirtyAt_38 (by decide) (fun c_10 => ?_) (fun c_10 => ?_)
    · refine lv_dload hx hb dX12_dirtyAt_139 (lv_at hl 1 rfl) ?_
      refine W.endD hd0 ?_
      exact W.dret (v := vv) hx hb hr (fun t ht hW => ⟨⟨vv, σ, rfl, ⟨hI, rfl, trivial⟩, ⟨by rw [ht]; exact hP, hD⟩⟩, hS.F ht⟩) hS.2.2 dX12_dirtyAt_141
    · refine lv_iload hx hb dX12_dirtyAt_41 (lv_at hl 0 rfl) ?_
      refine lv_aload_n hx hb dX12_dirtyAt_43 rfl (lv_at hl 4 rfl) ?_
      refine va_get (D := (dC, dI)) (ci := 11) (v := .int ((σ 0).1 48)) (C := RX12) (T := TX12) (N := 69) hx hb hts hinX12 hown hK hP 0 (mat_11 rfl) rfl 48 (by decide) (hts (.fieldLink RX12 490 "BondCalendarsModel" "settlePeriod" "I") (by decide +kernel)) (fun _ h9 => h9) rfl dX12_dirtyAt_44 ?_
      refine lv_icmp_le (tgt := 68) hx hb dX12_dirtyAt_47 (by decide) (fun c_11 => ?_) (fun c_11 => ?_)
      · refine lv_iload hx hb dX12_dirtyAt_68 (lv_at hl 0 rfl) ?_
        refine lv_aload_n hx hb dX12_dirtyAt_70 rfl (lv_at hl 4 rfl) ?_
        refine va_get (D := (dC, dI)) (ci := 11) (v := .int ((σ 0).1 48)) (C := RX12) (T := TX12) (N := 69) hx hb hts hinX12 hown hK hP 0 (mat_11 rfl) rfl 48 (by decide) (hts (.fieldLink RX12 490 "BondCalendarsModel" "settlePeriod" "I") (by decide +kernel)) (fun _ h9 => h9) rfl dX12_dirtyAt_71 ?_
        refine lv_icmp_ne (tgt := 88) hx hb dX12_dirtyAt_74 (by decide) (fun c_12 => ?_) (fun c_12 => ?_)
        · refine lv_aload_n hx hb dX12_dirtyAt_88 rfl (lv_at hl 4 rfl) ?_
          refine va_get (D := (dC, dI)) (ci := 11) (v := .ref (ad 22)) (C := RX12) (T := TX12) (N := 69) hx hb hts hinX12 hown hK hP 0 (mat_11 rfl) rfl 44 (by decide) (hts (.fieldLink RX12 80 "BondCalendarsModel" "couponOf" "[D") (by decide +kernel)) (fun _ h9 => h9) rfl dX12_dirtyAt_89 ?_
          refine lv_iload_n hx hb dX12_dirtyAt_92 rfl (lv_at hl 3 rfl) ?_
          refine lv_iload hx hb dX12_dirtyAt_93 (lv_at hl 0 rfl) ?_
          refine lv_iadd hx hb dX12_dirtyAt_95 ?_
          refine lv_topi (fun x_13 ex_13 => ?_)
          have hi_14 : vp_in x_13 328 := by have ab1 : (0 : Int) ≤ ((σ 0).1 47).toInt := Int32.le_iff_toInt_le.mp bd_1.1; have ab2 : ((σ 0).1 47).toInt ≤ (3 : Int) := Int32.le_iff_toInt_le.mp bd_1.2; have tt3 : x_2.toInt = (82 * ((σ 0).1 47).toInt) := (by rw [ex_2]; exact i3_mul (a := (82 : Int32)) (b := ((σ 0).1 47)) (x := 82) (y := ((σ 0).1 47).toInt) rfl rfl (by omega) (by omega)); have ab4 : (0 : Int) ≤ k8.toInt := Int32.le_iff_toInt_le.mp iv27_0; have ab5 : k8.toInt ≤ (81 : Int) := Int32.le_iff_toInt_le.mp (gl2 (b := 81) (Int32.lt_of_lt_of_le (Int32.lt_of_lt_of_le (Int32.not_le.mp c_10) (eq_le ex_8)) bd_9.2) (by decide)); have tt6 : x_13.toInt = ((82 * ((σ 0).1 47).toInt) + k8.toInt) := (by rw [ex_13]; exact i3_add (a := x_2) (b := k8) (x := (82 * ((σ 0).1 47).toInt)) (y := k8.toInt) tt3 rfl (by omega) (by omega)); have z0 : (0 : Int32).toInt = 0 := (by decide); have zn : (328 : Int32).toInt = 328 := (by decide); exact gin (N := 328) (by decide) (Int32.le_iff_toInt_le.mpr (by omega)) (Int32.lt_iff_toInt_lt.mpr (by omega))
          refine va_dald hx hb hK hP 22 22 (mat_62 rfl) (mty_62 rfl) hi_14 dX12_dirtyAt_96 ?_
          refine lv_topd (fun y_15 _ => ?_)
          refine lv_dstore (lv' := [(9, .double y_15), (8, .int k8), (6, .double vv), (4, .double gg), (3, .int x_2), (0, .ref (ad 0)), (1, .double p0)]) hx hb dX12_dirtyAt_97 hl (by decide) rfl (fun ls hl => ?_)
          refine lv_iload hx hb dX12_dirtyAt_99 (lv_at hl 1 rfl) ?_
          refine lv_aload_n hx hb dX12_dirtyAt_101 rfl (lv_at hl 5 rfl) ?_
          refine va_get (D := (dC, dI)) (ci := 11) (v := .ref (ad 17)) (C := RX12) (T := TX12) (N := 69) hx hb hts hinX12 hown hK hP 0 (mat_11 rfl) rfl 39 (by decide) (hts (.fieldLink RX12 64 "BondCalendarsModel" "periodMany" "[I") (by decide +kernel)) (fun _ h9 => h9) rfl dX12_dirtyAt_102 ?_
          refine lv_aload_n hx hb dX12_dirtyAt_105 rfl (lv_at hl 5 rfl) ?_
          refine va_get (D := (dC, dI)) (ci := 11) (v := .int ((σ 0).1 47)) (C := RX12) (T := TX12) (N := 69) hx hb hts hinX12 hown hK hP 0 (mat_11 rfl) rfl 47 (by decide) (hts (.fieldLink RX12 487 "BondCalendarsModel" "settleBond" "I") (by decide +kernel)) (fun _ h9 => h9) rfl dX12_dirtyAt_106 ?_
          refine va_iald hx hb hK hP 17 17 (mat_57 rfl) (mty_57 rfl) (gin (N := 4) (by decide) bd_1.1 (Int32.lt_of_le_of_lt bd_1.2 (show (3 : Int32) < 4 by decide))) dX12_dirtyAt_109 ?_
          refine lv_topi (fun x_16 ex_16 => ?_)
          have bd_17 := mrd_57 (c := 17) hI rfl ((σ 0).1 47).toNatClampNeg
          refine lv_iconst (v := 1) hx hb dX12_dirtyAt_110 (by decide) ?_
          refine lv_isub hx hb dX12_dirtyAt_111 ?_
          refine lv_topi (fun x_18 ex_18 => ?_)
          refine lv_icmp_ne (tgt := 123) hx hb dX12_dirtyAt_112 (by decide) (fun c_19 => ?_) (fun c_19 => ?_)
          · refine lv_dload hx hb dX12_dirtyAt_123 (lv_at hl 2 rfl) ?_
            refine lv_dload hx hb dX12_dirtyAt_125 (lv_at hl 0 rfl) ?_
            refine lv_dload hx hb dX12_dirtyAt_127 (lv_at hl 3 rfl) ?_
            refine lv_ddiv_any hd0 lw_bits hx hb dX12_dirtyAt_129 (fun y_20 d_21 _ hd0 => ?_)
            have hts := dr_words hts0 (d_21)
            have hK := gKd hK0 (d_21)
            have hown : (s.setDrawn (d_21)).vm.findClass RX12 = some m.cls := hown0
            refine lv_dadd_any hd0 lw_bits hx hb dX12_dirtyAt_130 (fun y_22 d_23 _ hd0 => ?_)
            have hts := dr_words hts0 (d_23)
            have hK := gKd hK0 (d_23)
            have hown : (s.setDrawn (d_23)).vm.findClass RX12 = some m.cls := hown0
            refine lv_dstore (lv' := [(6, .double y_22), (9, .double y_15), (8, .int k8), (4, .double gg), (3, .int x_2), (0, .ref (ad 0)), (1, .double p0)]) hx hb dX12_dirtyAt_131 hl (by decide) rfl (fun ls hl => ?_)
            obtain ⟨x_24, ex_24⟩ : ∃ zz : Int32, zz = k8 + 1 := ⟨_, rfl⟩
            refine lv_iinc (v := x_24) (lv' := [(8, .int x_24), (6, .double y_22), (9, .double y_15), (4, .double gg), (3, .int x_2), (0, .ref (ad 0)), (1, .double p0)]) hx hb dX12_dirtyAt_133 hl (k := 2) rfl (by rw [ex_24]; rfl) (by decide) rfl (fun ls hl => ?_)
            refine lv_goto (tgt := 27) hx hb dX12_dirtyAt_136 (by decide) ?_
            exact ih27 x_24 gg y_22 _ _ _ _ (cnt_m iv27_0 (Int32.lt_of_lt_of_le (cnt_lt iv27_0 (Int32.lt_of_lt_of_le (Int32.lt_of_lt_of_le (Int32.not_le.mp c_10) (eq_le ex_8)) bd_9.2) ex_24) (cnt_N iv27_0 (Int32.lt_of_lt_of_le (Int32.lt_of_lt_of_le (Int32.not_le.mp c_10) (eq_le ex_8)) bd_9.2) ex_24)) hm27 ex_24) (cnt_0 iv27_0 (Int32.lt_of_lt_of_le (cnt_lt iv27_0 (Int32.lt_of_lt_of_le (Int32.lt_of_lt_of_le (Int32.not_le.mp c_10) (eq_le ex_8)) bd_9.2) ex_24) (cnt_N iv27_0 (Int32.lt_of_lt_of_le (Int32.lt_of_lt_of_le (Int32.not_le.mp c_10) (eq_le ex_8)) bd_9.2) ex_24)) ex_24) hd0 hP hD hS (lv_sub hl [0, 1, 3, 4, 5, 6] rfl)
          · refine lv_dload hx hb dX12_dirtyAt_115 (lv_at hl 0 rfl) ?_
            refine lv_ldc2d (v := 4636737291354636288) hx hb hown (hts (.constantDouble RX12 503 (4636737291354636288)) (by decide +kernel)) dX12_dirtyAt_117 ?_
            refine lv_dadd_any hd0 lw_bits hx hb dX12_dirtyAt_120 (fun y_25 d_26 _ hd0 => ?_)
            have hts := dr_words hts0 (d_26)
            have hK := gKd hK0 (d_26)
            have hown : (s.setDrawn (d_26)).vm.findClass RX12 = some m.cls := hown0
            refine lv_dstore (lv' := [(9, .double y_25), (8, .int k8), (6, .double vv), (4, .double gg), (3, .int x_2), (0, .ref (ad 0)), (1, .double p0)]) hx hb dX12_dirtyAt_121 hl (by decide) rfl (fun ls hl => ?_)
            refine lv_dload hx hb dX12_dirtyAt_123 (lv_at hl 2 rfl) ?_
            refine lv_dload hx hb dX12_dirtyAt_125 (lv_at hl 0 rfl) ?_
            refine lv_dload hx hb dX12_dirtyAt_127 (lv_at hl 3 rfl) ?_
            refine lv_ddiv_any hd0 lw_bits hx hb dX12_dirtyAt_129 (fun y_27 d_28 _ hd0 => ?_)
            have hts := dr_words hts0 (d_28)
            have hK := gKd hK0 (d_28)
            have hown : (s.setDrawn (d_28)).vm.findClass RX12 = some m.cls := hown0
            refine lv_dadd_any hd0 lw_bits hx hb dX12_dirtyAt_130 (fun y_29 d_30 _ hd0 => ?_)
            have hts := dr_words hts0 (d_30)
            have hK := gKd hK0 (d_30)
            have hown : (s.setDrawn (d_30)).vm.findClass RX12 = some m.cls := hown0
            refine lv_dstore (lv' := [(6, .double y_29), (9, .double y_25), (8, .int k8), (4, .double gg), (3, .int x_2), (0, .ref (ad 0)), (1, .double p0)]) hx hb dX12_dirtyAt_131 hl (by decide) rfl (fun ls hl => ?_)
            obtain ⟨x_31, ex_31⟩ : ∃ zz : Int32, zz = k8 + 1 := ⟨_, rfl⟩
            refine lv_iinc (v := x_31) (lv' := [(8, .int x_31), (6, .double y_29), (9, .double y_25), (4, .double gg), (3, .int x_2), (0, .ref (ad 0)), (1, .double p0)]) hx hb dX12_dirtyAt_133 hl (k := 2) rfl (by rw [ex_31]; rfl) (by decide) rfl (fun ls hl => ?_)
            refine lv_goto (tgt := 27) hx hb dX12_dirtyAt_136 (by decide) ?_
            exact ih27 x_31 gg y_29 _ _ _ _ (cnt_m iv27_0 (Int32.lt_of_lt_of_le (cnt_lt iv27_0 (Int32.lt_of_lt_of_le (Int32.lt_of_lt_of_le (Int32.not_le.mp c_10) (eq_le ex_8)) bd_9.2) ex_31) (cnt_N iv27_0 (Int32.lt_of_lt_of_le (Int32.lt_of_lt_of_le (Int32.not_le.mp c_10) (eq_le ex_8)) bd_9.2) ex_31)) hm27 ex_31) (cnt_0 iv27_0 (Int32.lt_of_lt_of_le (cnt_lt iv27_0 (Int32.lt_of_lt_of_le (Int32.lt_of_lt_of_le (Int32.not_le.mp c_10) (eq_le ex_8)) bd_9.2) ex_31) (cnt_N iv27_0 (Int32.lt_of_lt_of_le (Int32.lt_of_lt_of_le (Int32.not_le.mp c_10) (eq_le ex_8)) bd_9.2) ex_31)) ex_31) hd0 hP hD hS (lv_sub hl [0, 1, 3, 4, 5, 6] rfl)
        · refine lv_aload_n hx hb dX12_dirtyAt_77 rfl (lv_at hl 4 rfl) ?_
          refine va_get (D := (dC, dI)) (ci := 11) (v := .int ((σ 0).1 49)) (C := RX12) (T := TX12) (N := 69) hx hb hts hinX12 hown hK hP 0 (mat_11 rfl) rfl 49 (by decide) (hts (.fieldLink RX12 493 "BondCalendarsModel" "settleEx" "Z") (by decide +kernel)) (fun _ h9 => h9) rfl dX12_dirtyAt_78 ?_
          refine lv_if_eq (tgt := 88) hx hb dX12_dirtyAt_81 (by decide) (fun c_32 => ?_) (fun c_32 => ?_)
          · refine lv_aload_n hx hb dX12_dirtyAt_88 rfl (lv_at hl 4 rfl) ?_
            refine va_get (D := (dC, dI)) (ci := 11) (v := .ref (ad 22)) (C := RX12) (T := TX12) (N := 69) hx hb hts hinX12 hown hK hP 0 (mat_11 rfl) rfl 44 (by decide) (hts (.fieldLink RX12 80 "BondCalendarsModel" "couponOf" "[D") (by decide +kernel)) (fun _ h9 => h9) rfl dX12_dirtyAt_89 ?_
            refine lv_iload_n hx hb dX12_dirtyAt_92 rfl (lv_at hl 3 rfl) ?_
            refine lv_iload hx hb dX12_dirtyAt_93 (lv_at hl 0 rfl) ?_
            refine lv_iadd hx hb dX12_dirtyAt_95 ?_
            refine lv_topi (fun x_33 ex_33 => ?_)
            have hi_34 : vp_in x_33 328 := by have ab1 : (0 : Int) ≤ ((σ 0).1 47).toInt := Int32.le_iff_toInt_le.mp bd_1.1; have ab2 : ((σ 0).1 47).toInt ≤ (3 : Int) := Int32.le_iff_toInt_le.mp bd_1.2; have tt3 : x_2.toInt = (82 * ((σ 0).1 47).toInt) := (by rw [ex_2]; exact i3_mul (a := (82 : Int32)) (b := ((σ 0).1 47)) (x := 82) (y := ((σ 0).1 47).toInt) rfl rfl (by omega) (by omega)); have ab4 : (0 : Int) ≤ k8.toInt := Int32.le_iff_toInt_le.mp iv27_0; have ab5 : k8.toInt ≤ (81 : Int) := Int32.le_iff_toInt_le.mp (gl2 (b := 81) (Int32.lt_of_lt_of_le (Int32.lt_of_lt_of_le (Int32.not_le.mp c_10) (eq_le ex_8)) bd_9.2) (by decide)); have tt6 : x_33.toInt = ((82 * ((σ 0).1 47).toInt) + k8.toInt) := (by rw [ex_33]; exact i3_add (a := x_2) (b := k8) (x := (82 * ((σ 0).1 47).toInt)) (y := k8.toInt) tt3 rfl (by omega) (by omega)); have z0 : (0 : Int32).toInt = 0 := (by decide); have zn : (328 : Int32).toInt = 328 := (by decide); exact gin (N := 328) (by decide) (Int32.le_iff_toInt_le.mpr (by omega)) (Int32.lt_iff_toInt_lt.mpr (by omega))
            refine va_dald hx hb hK hP 22 22 (mat_62 rfl) (mty_62 rfl) hi_34 dX12_dirtyAt_96 ?_
            refine lv_topd (fun y_35 _ => ?_)
            refine lv_dstore (lv' := [(9, .double y_35), (8, .int k8), (6, .double vv), (4, .double gg), (3, .int x_2), (0, .ref (ad 0)), (1, .double p0)]) hx hb dX12_dirtyAt_97 hl (by decide) rfl (fun ls hl => ?_)
            refine lv_iload hx hb dX12_dirtyAt_99 (lv_at hl 1 rfl) ?_
            refine lv_aload_n hx hb dX12_dirtyAt_101 rfl (lv_at hl 5 rfl) ?_
            refine va_get (D := (dC, dI)) (ci := 11) (v := .ref (ad 17)) (C := RX12) (T := TX12) (N := 69) hx hb hts hinX12 hown hK hP 0 (mat_11 rfl) rfl 39 (by decide) (hts (.fieldLink RX12 64 "BondCalendarsModel" "periodMany" "[I") (by decide +kernel)) (fun _ h9 => h9) rfl dX12_dirtyAt_102 ?_
            refine lv_aload_n hx hb dX12_dirtyAt_105 rfl (lv_at hl 5 rfl) ?_
            refine va_get (D := (dC, dI)) (ci := 11) (v := .int ((σ 0).1 47)) (C := RX12) (T := TX12) (N := 69) hx hb hts hinX12 hown hK hP 0 (mat_11 rfl) rfl 47 (by decide) (hts (.fieldLink RX12 487 "BondCalendarsModel" "settleBond" "I") (by decide +kernel)) (fun _ h9 => h9) rfl dX12_dirtyAt_106 ?_
            refine va_iald hx hb hK hP 17 17 (mat_57 rfl) (mty_57 rfl) (gin (N := 4) (by decide) bd_1.1 (Int32.lt_of_le_of_lt bd_1.2 (show (3 : Int32) < 4 by decide))) dX12_dirtyAt_109 ?_
            refine lv_topi (fun x_36 ex_36 => ?_)
            have bd_37 := mrd_57 (c := 17) hI rfl ((σ 0).1 47).toNatClampNeg
            refine lv_iconst (v := 1) hx hb dX12_dirtyAt_110 (by decide) ?_
            refine lv_isub hx hb dX12_dirtyAt_111 ?_
            refine lv_topi (fun x_38 ex_38 => ?_)
            refine lv_icmp_ne (tgt := 123) hx hb dX12_dirtyAt_112 (by decide) (fun c_39 => ?_) (fun c_39 => ?_)
            · refine lv_dload hx hb dX12_dirtyAt_123 (lv_at hl 2 rfl) ?_
              refine lv_dload hx hb dX12_dirtyAt_125 (lv_at hl 0 rfl) ?_
              refine lv_dload hx hb dX12_dirtyAt_127 (lv_at hl 3 rfl) ?_
              refine lv_ddiv_any hd0 lw_bits hx hb dX12_dirtyAt_129 (fun y_40 d_41 _ hd0 => ?_)
              have hts := dr_words hts0 (d_41)
              have hK := gKd hK0 (d_41)
              have hown : (s.setDrawn (d_41)).vm.findClass RX12 = some m.cls := hown0
              refine lv_dadd_any hd0 lw_bits hx hb dX12_dirtyAt_130 (fun y_42 d_43 _ hd0 => ?_)
              have hts := dr_words hts0 (d_43)
              have hK := gKd hK0 (d_43)
              have hown : (s.setDrawn (d_43)).vm.findClass RX12 = some m.cls := hown0
              refine lv_dstore (lv' := [(6, .double y_42), (9, .double y_35), (8, .int k8), (4, .double gg), (3, .int x_2), (0, .ref (ad 0)), (1, .double p0)]) hx hb dX12_dirtyAt_131 hl (by decide) rfl (fun ls hl => ?_)
              obtain ⟨x_44, ex_44⟩ : ∃ zz : Int32, zz = k8 + 1 := ⟨_, rfl⟩
              refine lv_iinc (v := x_44) (lv' := [(8, .int x_44), (6, .double y_42), (9, .double y_35), (4, .double gg), (3, .int x_2), (0, .ref (ad 0)), (1, .double p0)]) hx hb dX12_dirtyAt_133 hl (k := 2) rfl (by rw [ex_44]; rfl) (by decide) rfl (fun ls hl => ?_)
              refine lv_goto (tgt := 27) hx hb dX12_dirtyAt_136 (by decide) ?_
              exact ih27 x_44 gg y_42 _ _ _ _ (cnt_m iv27_0 (Int32.lt_of_lt_of_le (cnt_lt iv27_0 (Int32.lt_of_lt_of_le (Int32.lt_of_lt_of_le (Int32.not_le.mp c_10) (eq_le ex_8)) bd_9.2) ex_44) (cnt_N iv27_0 (Int32.lt_of_lt_of_le (Int32.lt_of_lt_of_le (Int32.not_le.mp c_10) (eq_le ex_8)) bd_9.2) ex_44)) hm27 ex_44) (cnt_0 iv27_0 (Int32.lt_of_lt_of_le (cnt_lt iv27_0 (Int32.lt_of_lt_of_le (Int32.lt_of_lt_of_le (Int32.not_le.mp c_10) (eq_le ex_8)) bd_9.2) ex_44) (cnt_N iv27_0 (Int32.lt_of_lt_of_le (Int32.lt_of_lt_of_le (Int32.not_le.mp c_10) (eq_le ex_8)) bd_9.2) ex_44)) ex_44) hd0 hP hD hS (lv_sub hl [0, 1, 3, 4, 5, 6] rfl)
            · refine lv_dload hx hb dX12_dirtyAt_115 (lv_at hl 0 rfl) ?_
              refine lv_ldc2d (v := 4636737291354636288) hx hb hown (hts (.constantDouble RX12 503 (4636737291354636288)) (by decide +kernel)) dX12_dirtyAt_117 ?_
              refine lv_dadd_any hd0 lw_bits hx hb dX12_dirtyAt_120 (fun y_45 d_46 _ hd0 => ?_)
              have hts := dr_words hts0 (d_46)
              have hK := gKd hK0 (d_46)
              have hown : (s.setDrawn (d_46)).vm.findClass RX12 = some m.cls := hown0
              refine lv_dstore (lv' := [(9, .double y_45), (8, .int k8), (6, .double vv), (4, .double gg), (3, .int x_2), (0, .ref (ad 0)), (1, .double p0)]) hx hb dX12_dirtyAt_121 hl (by decide) rfl (fun ls hl => ?_)
              refine lv_dload hx hb dX12_dirtyAt_123 (lv_at hl 2 rfl) ?_
              refine lv_dload hx hb dX12_dirtyAt_125 (lv_at hl 0 rfl) ?_
              refine lv_dload hx hb dX12_dirtyAt_127 (lv_at hl 3 rfl) ?_
              refine lv_ddiv_any hd0 lw_bits hx hb dX12_dirtyAt_129 (fun y_47 d_48 _ hd0 => ?_)
              have hts := dr_words hts0 (d_48)
              have hK := gKd hK0 (d_48)
              have hown : (s.setDrawn (d_48)).vm.findClass RX12 = some m.cls := hown0
              refine lv_dadd_any hd0 lw_bits hx hb dX12_dirtyAt_130 (fun y_49 d_50 _ hd0 => ?_)
              have hts := dr_words hts0 (d_50)
              have hK := gKd hK0 (d_50)
              have hown : (s.setDrawn (d_50)).vm.findClass RX12 = some m.cls := hown0
              refine lv_dstore (lv' := [(6, .double y_49), (9, .double y_45), (8, .int k8), (4, .double gg), (3, .int x_2), (0, .ref (ad 0)), (1, .double p0)]) hx hb dX12_dirtyAt_131 hl (by decide) rfl (fun ls hl => ?_)
              obtain ⟨x_51, ex_51⟩ : ∃ zz : Int32, zz = k8 + 1 := ⟨_, rfl⟩
              refine lv_iinc (v := x_51) (lv' := [(8, .int x_51), (6, .double y_49), (9, .double y_45), (4, .double gg), (3, .int x_2), (0, .ref (ad 0)), (1, .double p0)]) hx hb dX12_dirtyAt_133 hl (k := 2) rfl (by rw [ex_51]; rfl) (by decide) rfl (fun ls hl => ?_)
              refine lv_goto (tgt := 27) hx hb dX12_dirtyAt_136 (by decide) ?_
              exact ih27 x_51 gg y_49 _ _ _ _ (cnt_m iv27_0 (Int32.lt_of_lt_of_le (cnt_lt iv27_0 (Int32.lt_of_lt_of_le (Int32.lt_of_lt_of_le (Int32.not_le.mp c_10) (eq_le ex_8)) bd_9.2) ex_51) (cnt_N iv27_0 (Int32.lt_of_lt_of_le (Int32.lt_of_lt_of_le (Int32.not_le.mp c_10) (eq_le ex_8)) bd_9.2) ex_51)) hm27 ex_51) (cnt_0 iv27_0 (Int32.lt_of_lt_of_le (cnt_lt iv27_0 (Int32.lt_of_lt_of_le (Int32.lt_of_lt_of_le (Int32.not_le.mp c_10) (eq_le ex_8)) bd_9.2) ex_51) (cnt_N iv27_0 (Int32.lt_of_lt_of_le (Int32.lt_of_lt_of_le (Int32.not_le.mp c_10) (eq_le ex_8)) bd_9.2) ex_51)) ex_51) hd0 hP hD hS (lv_sub hl [0, 1, 3, 4, 5, 6] rfl)
          · refine lv_dconst0 hx hb dX12_dirtyAt_84 ?_
            refine lv_goto (tgt := 97) hx hb dX12_dirtyAt_85 (by decide) ?_
            refine lv_dstore (lv' := [(9, .double 0), (8, .int k8), (6, .double vv), (4, .double gg), (3, .int x_2), (0, .ref (ad 0)), (1, .double p0)]) hx hb dX12_dirtyAt_97 hl (by decide) rfl (fun ls hl => ?_)
            refine lv_iload hx hb dX12_dirtyAt_99 (lv_at hl 1 rfl) ?_
            refine lv_aload_n hx hb dX12_dirtyAt_101 rfl (lv_at hl 5 rfl) ?_
            refine va_get (D := (dC, dI)) (ci := 11) (v := .ref (ad 17)) (C := RX12) (T := TX12) (N := 69) hx hb hts hinX12 hown hK hP 0 (mat_11 rfl) rfl 39 (by decide) (hts (.fieldLink RX12 64 "BondCalendarsModel" "periodMany" "[I") (by decide +kernel)) (fun _ h9 => h9) rfl dX12_dirtyAt_102 ?_
            refine lv_aload_n hx hb dX12_dirtyAt_105 rfl (lv_at hl 5 rfl) ?_
            refine va_get (D := (dC, dI)) (ci := 11) (v := .int ((σ 0).1 47)) (C := RX12) (T := TX12) (N := 69) hx hb hts hinX12 hown hK hP 0 (mat_11 rfl) rfl 47 (by decide) (hts (.fieldLink RX12 487 "BondCalendarsModel" "settleBond" "I") (by decide +kernel)) (fun _ h9 => h9) rfl dX12_dirtyAt_106 ?_
            refine va_iald hx hb hK hP 17 17 (mat_57 rfl) (mty_57 rfl) (gin (N := 4) (by decide) bd_1.1 (Int32.lt_of_le_of_lt bd_1.2 (show (3 : Int32) < 4 by decide))) dX12_dirtyAt_109 ?_
            refine lv_topi (fun x_52 ex_52 => ?_)
            have bd_53 := mrd_57 (c := 17) hI rfl ((σ 0).1 47).toNatClampNeg
            refine lv_iconst (v := 1) hx hb dX12_dirtyAt_110 (by decide) ?_
            refine lv_isub hx hb dX12_dirtyAt_111 ?_
            refine lv_topi (fun x_54 ex_54 => ?_)
            refine lv_icmp_ne (tgt := 123) hx hb dX12_dirtyAt_112 (by decide) (fun c_55 => ?_) (fun c_55 => ?_)
            · refine lv_dload hx hb dX12_dirtyAt_123 (lv_at hl 2 rfl) ?_
              refine lv_dload hx hb dX12_dirtyAt_125 (lv_at hl 0 rfl) ?_
              refine lv_dload hx hb dX12_dirtyAt_127 (lv_at hl 3 rfl) ?_
              refine lv_ddiv_any hd0 lw_bits hx hb dX12_dirtyAt_129 (fun y_56 d_57 _ hd0 => ?_)
              have hts := dr_words hts0 (d_57)
              have hK := gKd hK0 (d_57)
              have hown : (s.setDrawn (d_57)).vm.findClass RX12 = some m.cls := hown0
              refine lv_dadd_any hd0 lw_bits hx hb dX12_dirtyAt_130 (fun y_58 d_59 _ hd0 => ?_)
              have hts := dr_words hts0 (d_59)
              have hK := gKd hK0 (d_59)
              have hown : (s.setDrawn (d_59)).vm.findClass RX12 = some m.cls := hown0
              refine lv_dstore (lv' := [(6, .double y_58), (9, .double 0), (8, .int k8), (4, .double gg), (3, .int x_2), (0, .ref (ad 0)), (1, .double p0)]) hx hb dX12_dirtyAt_131 hl (by decide) rfl (fun ls hl => ?_)
              obtain ⟨x_60, ex_60⟩ : ∃ zz : Int32, zz = k8 + 1 := ⟨_, rfl⟩
              refine lv_iinc (v := x_60) (lv' := [(8, .int x_60), (6, .double y_58), (9, .double 0), (4, .double gg), (3, .int x_2), (0, .ref (ad 0)), (1, .double p0)]) hx hb dX12_dirtyAt_133 hl (k := 2) rfl (by rw [ex_60]; rfl) (by decide) rfl (fun ls hl => ?_)
              refine lv_goto (tgt := 27) hx hb dX12_dirtyAt_136 (by decide) ?_
              exact ih27 x_60 gg y_58 _ _ _ _ (cnt_m iv27_0 (Int32.lt_of_lt_of_le (cnt_lt iv27_0 (Int32.lt_of_lt_of_le (Int32.lt_of_lt_of_le (Int32.not_le.mp c_10) (eq_le ex_8)) bd_9.2) ex_60) (cnt_N iv27_0 (Int32.lt_of_lt_of_le (Int32.lt_of_lt_of_le (Int32.not_le.mp c_10) (eq_le ex_8)) bd_9.2) ex_60)) hm27 ex_60) (cnt_0 iv27_0 (Int32.lt_of_lt_of_le (cnt_lt iv27_0 (Int32.lt_of_lt_of_le (Int32.lt_of_lt_of_le (Int32.not_le.mp c_10) (eq_le ex_8)) bd_9.2) ex_60) (cnt_N iv27_0 (Int32.lt_of_lt_of_le (Int32.lt_of_lt_of_le (Int32.not_le.mp c_10) (eq_le ex_8)) bd_9.2) ex_60)) ex_60) hd0 hP hD hS (lv_sub hl [0, 1, 3, 4, 5, 6] rfl)
            · refine lv_dload hx hb dX12_dirtyAt_115 (lv_at hl 0 rfl) ?_
              refine lv_ldc2d (v := 4636737291354636288) hx hb hown (hts (.constantDouble RX12 503 (4636737291354636288)) (by decide +kernel)) dX12_dirtyAt_117 ?_
              refine lv_dadd_any hd0 lw_bits hx hb dX12_dirtyAt_120 (fun y_61 d_62 _ hd0 => ?_)
              have hts := dr_words hts0 (d_62)
              have hK := gKd hK0 (d_62)
              have hown : (s.setDrawn (d_62)).vm.findClass RX12 = some m.cls := hown0
              refine lv_dstore (lv' := [(9, .double y_61), (8, .int k8), (6, .double vv), (4, .double gg), (3, .int x_2), (0, .ref (ad 0)), (1, .double p0)]) hx hb dX12_dirtyAt_121 hl (by decide) rfl (fun ls hl => ?_)
              refine lv_dload hx hb dX12_dirtyAt_123 (lv_at hl 2 rfl) ?_
              refine lv_dload hx hb dX12_dirtyAt_125 (lv_at hl 0 rfl) ?_
              refine lv_dload hx hb dX12_dirtyAt_127 (lv_at hl 3 rfl) ?_
              refine lv_ddiv_any hd0 lw_bits hx hb dX12_dirtyAt_129 (fun y_63 d_64 _ hd0 => ?_)
              have hts := dr_words hts0 (d_64)
              have hK := gKd hK0 (d_64)
              have hown : (s.setDrawn (d_64)).vm.findClass RX12 = some m.cls := hown0
              refine lv_dadd_any hd0 lw_bits hx hb dX12_dirtyAt_130 (fun y_65 d_66 _ hd0 => ?_)
              have hts := dr_words hts0 (d_66)
              have hK := gKd hK0 (d_66)
              have hown : (s.setDrawn (d_66)).vm.findClass RX12 = some m.cls := hown0
              refine lv_dstore (lv' := [(6, .double y_65), (9, .double y_61), (8, .int k8), (4, .double gg), (3, .int x_2), (0, .ref (ad 0)), (1, .double p0)]) hx hb dX12_dirtyAt_131 hl (by decide) rfl (fun ls hl => ?_)
              obtain ⟨x_67, ex_67⟩ : ∃ zz : Int32, zz = k8 + 1 := ⟨_, rfl⟩
              refine lv_iinc (v := x_67) (lv' := [(8, .int x_67), (6, .double y_65), (9, .double y_61), (4, .double gg), (3, .int x_2), (0, .ref (ad 0)), (1, .double p0)]) hx hb dX12_dirtyAt_133 hl (k := 2) rfl (by rw [ex_67]; rfl) (by decide) rfl (fun ls hl => ?_)
              refine lv_goto (tgt := 27) hx hb dX12_dirtyAt_136 (by decide) ?_
              exact ih27 x_67 gg y_65 _ _ _ _ (cnt_m iv27_0 (Int32.lt_of_lt_of_le (cnt_lt iv27_0 (Int32.lt_of_lt_of_le (Int32.lt_of_lt_of_le (Int32.not_le.mp c_10) (eq_le ex_8)) bd_9.2) ex_67) (cnt_N iv27_0 (Int32.lt_of_lt_of_le (Int32.lt_of_lt_of_le (Int32.not_le.mp c_10) (eq_le ex_8)) bd_9.2) ex_67)) hm27 ex_67) (cnt_0 iv27_0 (Int32.lt_of_lt_of_le (cnt_lt iv27_0 (Int32.lt_of_lt_of_le (Int32.lt_of_lt_of_le (Int32.not_le.mp c_10) (eq_le ex_8)) bd_9.2) ex_67) (cnt_N iv27_0 (Int32.lt_of_lt_of_le (Int32.lt_of_lt_of_le (Int32.not_le.mp c_10) (eq_le ex_8)) bd_9.2) ex_67)) ex_67) hd0 hP hD hS (lv_sub hl [0, 1, 3, 4, 5, 6] rfl)
      · refine lv_dload hx hb dX12_dirtyAt_50 (lv_at hl 2 rfl) ?_
        refine lv_dconst1 hx hb dX12_dirtyAt_52 ?_
        refine lv_dload_n hx hb dX12_dirtyAt_53 rfl (lv_at hl 5 rfl) ?_
        refine lv_aload_n hx hb dX12_dirtyAt_54 rfl (lv_at hl 4 rfl) ?_
        refine va_get (D := (dC, dI)) (ci := 11) (v := .ref (ad 21)) (C := RX12) (T := TX12) (N := 69) hx hb hts hinX12 hown hK hP 0 (mat_11 rfl) rfl 43 (by decide) (hts (.fieldLink RX12 76 "BondCalendarsModel" "fractionOf" "[D") (by decide +kernel)) (fun _ h9 => h9) rfl dX12_dirtyAt_55 ?_
        refine lv_iload_n hx hb dX12_dirtyAt_58 rfl (lv_at hl 3 rfl) ?_
        refine lv_iload hx hb dX12_dirtyAt_59 (lv_at hl 0 rfl) ?_
        refine lv_iadd hx hb dX12_dirtyAt_61 ?_
        refine lv_topi (fun x_68 ex_68 => ?_)
        have hi_69 : vp_in x_68 328 := by have ab1 : (0 : Int) ≤ ((σ 0).1 47).toInt := Int32.le_iff_toInt_le.mp bd_1.1; have ab2 : ((σ 0).1 47).toInt ≤ (3 : Int) := Int32.le_iff_toInt_le.mp bd_1.2; have tt3 : x_2.toInt = (82 * ((σ 0).1 47).toInt) := (by rw [ex_2]; exact i3_mul (a := (82 : Int32)) (b := ((σ 0).1 47)) (x := 82) (y := ((σ 0).1 47).toInt) rfl rfl (by omega) (by omega)); have ab4 : (0 : Int) ≤ k8.toInt := Int32.le_iff_toInt_le.mp iv27_0; have ab5 : k8.toInt ≤ (81 : Int) := Int32.le_iff_toInt_le.mp (gl2 (b := 81) (Int32.lt_of_lt_of_le (Int32.lt_of_lt_of_le (Int32.not_le.mp c_10) (eq_le ex_8)) bd_9.2) (by decide)); have tt6 : x_68.toInt = ((82 * ((σ 0).1 47).toInt) + k8.toInt) := (by rw [ex_68]; exact i3_add (a := x_2) (b := k8) (x := (82 * ((σ 0).1 47).toInt)) (y := k8.toInt) tt3 rfl (by omega) (by omega)); have z0 : (0 : Int32).toInt = 0 := (by decide); have zn : (328 : Int32).toInt = 328 := (by decide); exact gin (N := 328) (by decide) (Int32.le_iff_toInt_le.mpr (by omega)) (Int32.lt_iff_toInt_lt.mpr (by omega))
        refine va_dald hx hb hK hP 21 21 (mat_61 rfl) (mty_61 rfl) hi_69 dX12_dirtyAt_62 ?_
        refine lv_topd (fun y_70 _ => ?_)
        refine lv_dmul_any hd0 lw_bits hx hb dX12_dirtyAt_63 (fun y_71 d_72 _ hd0 => ?_)
        have hts := dr_words hts0 (d_72)
        have hK := gKd hK0 (d_72)
        have hown : (s.setDrawn (d_72)).vm.findClass RX12 = some m.cls := hown0
        refine lv_dadd_any hd0 lw_bits hx hb dX12_dirtyAt_64 (fun y_73 d_74 _ hd0 => ?_)
        have hts := dr_words hts0 (d_74)
        have hK := gKd hK0 (d_74)
        have hown : (s.setDrawn (d_74)).vm.findClass RX12 = some m.cls := hown0
        refine lv_dmul_any hd0 lw_bits hx hb dX12_dirtyAt_65 (fun y_75 d_76 _ hd0 => ?_)
        have hts := dr_words hts0 (d_76)
        have hK := gKd hK0 (d_76)
        have hown : (s.setDrawn (d_76)).vm.findClass RX12 = some m.cls := hown0
        refine lv_dstore (lv' := [(4, .double y_75), (8, .int k8), (6, .double vv), (3, .int x_2), (0, .ref (ad 0)), (1, .double p0)]) hx hb dX12_dirtyAt_66 hl (by decide) rfl (fun ls hl => ?_)
        refine lv_iload hx hb dX12_dirtyAt_68 (lv_at hl 1 rfl) ?_
        refine lv_aload_n hx hb dX12_dirtyAt_70 rfl (lv_at hl 4 rfl) ?_
        refine va_get (D := (dC, dI)) (ci := 11) (v := .int ((σ 0).1 48)) (C := RX12) (T := TX12) (N := 69) hx hb hts hinX12 hown hK hP 0 (mat_11 rfl) rfl 48 (by decide) (hts (.fieldLink RX12 490 "BondCalendarsModel" "settlePeriod" "I") (by decide +kernel)) (fun _ h9 => h9) rfl dX12_dirtyAt_71 ?_
        refine lv_icmp_ne (tgt := 88) hx hb dX12_dirtyAt_74 (by decide) (fun c_77 => ?_) (fun c_77 => ?_)
        · refine lv_aload_n hx hb dX12_dirtyAt_88 rfl (lv_at hl 4 rfl) ?_
          refine va_get (D := (dC, dI)) (ci := 11) (v := .ref (ad 22)) (C := RX12) (T := TX12) (N := 69) hx hb hts hinX12 hown hK hP 0 (mat_11 rfl) rfl 44 (by decide) (hts (.fieldLink RX12 80 "BondCalendarsModel" "couponOf" "[D") (by decide +kernel)) (fun _ h9 => h9) rfl dX12_dirtyAt_89 ?_
          refine lv_iload_n hx hb dX12_dirtyAt_92 rfl (lv_at hl 3 rfl) ?_
          refine lv_iload hx hb dX12_dirtyAt_93 (lv_at hl 1 rfl) ?_
          refine lv_iadd hx hb dX12_dirtyAt_95 ?_
          refine lv_topi (fun x_78 ex_78 => ?_)
          have hi_79 : vp_in x_78 328 := by have ab1 : (0 : Int) ≤ ((σ 0).1 47).toInt := Int32.le_iff_toInt_le.mp bd_1.1; have ab2 : ((σ 0).1 47).toInt ≤ (3 : Int) := Int32.le_iff_toInt_le.mp bd_1.2; have tt3 : x_2.toInt = (82 * ((σ 0).1 47).toInt) := (by rw [ex_2]; exact i3_mul (a := (82 : Int32)) (b := ((σ 0).1 47)) (x := 82) (y := ((σ 0).1 47).toInt) rfl rfl (by omega) (by omega)); have ab4 : (0 : Int) ≤ k8.toInt := Int32.le_iff_toInt_le.mp iv27_0; have ab5 : k8.toInt ≤ (81 : Int) := Int32.le_iff_toInt_le.mp (gl2 (b := 81) (Int32.lt_of_lt_of_le (Int32.lt_of_lt_of_le (Int32.not_le.mp c_10) (eq_le ex_8)) bd_9.2) (by decide)); have tt6 : x_78.toInt = ((82 * ((σ 0).1 47).toInt) + k8.toInt) := (by rw [ex_78]; exact i3_add (a := x_2) (b := k8) (x := (82 * ((σ 0).1 47).toInt)) (y := k8.toInt) tt3 rfl (by omega) (by omega)); have z0 : (0 : Int32).toInt = 0 := (by decide); have zn : (328 : Int32).toInt = 328 := (by decide); exact gin (N := 328) (by decide) (Int32.le_iff_toInt_le.mpr (by omega)) (Int32.lt_iff_toInt_lt.mpr (by omega))
          refine va_dald hx hb hK hP 22 22 (mat_62 rfl) (mty_62 rfl) hi_79 dX12_dirtyAt_96 ?_
          refine lv_topd (fun y_80 _ => ?_)
          refine lv_dstore (lv' := [(9, .double y_80), (4, .double y_75), (8, .int k8), (6, .double vv), (3, .int x_2), (0, .ref (ad 0)), (1, .double p0)]) hx hb dX12_dirtyAt_97 hl (by decide) rfl (fun ls hl => ?_)
          refine lv_iload hx hb dX12_dirtyAt_99 (lv_at hl 2 rfl) ?_
          refine lv_aload_n hx hb dX12_dirtyAt_101 rfl (lv_at hl 5 rfl) ?_
          refine va_get (D := (dC, dI)) (ci := 11) (v := .ref (ad 17)) (C := RX12) (T := TX12) (N := 69) hx hb hts hinX12 hown hK hP 0 (mat_11 rfl) rfl 39 (by decide) (hts (.fieldLink RX12 64 "BondCalendarsModel" "periodMany" "[I") (by decide +kernel)) (fun _ h9 => h9) rfl dX12_dirtyAt_102 ?_
          refine lv_aload_n hx hb dX12_dirtyAt_105 rfl (lv_at hl 5 rfl) ?_
          refine va_get (D := (dC, dI)) (ci := 11) (v := .int ((σ 0).1 47)) (C := RX12) (T := TX12) (N := 69) hx hb hts hinX12 hown hK hP 0 (mat_11 rfl) rfl 47 (by decide) (hts (.fieldLink RX12 487 "BondCalendarsModel" "settleBond" "I") (by decide +kernel)) (fun _ h9 => h9) rfl dX12_dirtyAt_106 ?_
          refine va_iald hx hb hK hP 17 17 (mat_57 rfl) (mty_57 rfl) (gin (N := 4) (by decide) bd_1.1 (Int32.lt_of_le_of_lt bd_1.2 (show (3 : Int32) < 4 by decide))) dX12_dirtyAt_109 ?_
          refine lv_topi (fun x_81 ex_81 => ?_)
          have bd_82 := mrd_57 (c := 17) hI rfl ((σ 0).1 47).toNatClampNeg
          refine lv_iconst (v := 1) hx hb dX12_dirtyAt_110 (by decide) ?_
          refine lv_isub hx hb dX12_dirtyAt_111 ?_
          refine lv_topi (fun x_83 ex_83 => ?_)
          refine lv_icmp_ne (tgt := 123) hx hb dX12_dirtyAt_112 (by decide) (fun c_84 => ?_) (fun c_84 => ?_)
          · refine lv_dload hx hb dX12_dirtyAt_123 (lv_at hl 3 rfl) ?_
            refine lv_dload hx hb dX12_dirtyAt_125 (lv_at hl 0 rfl) ?_
            refine lv_dload hx hb dX12_dirtyAt_127 (lv_at hl 1 rfl) ?_
            refine lv_ddiv_any hd0 lw_bits hx hb dX12_dirtyAt_129 (fun y_85 d_86 _ hd0 => ?_)
            have hts := dr_words hts0 (d_86)
            have hK := gKd hK0 (d_86)
            have hown : (s.setDrawn (d_86)).vm.findClass RX12 = some m.cls := hown0
            refine lv_dadd_any hd0 lw_bits hx hb dX12_dirtyAt_130 (fun y_87 d_88 _ hd0 => ?_)
            have hts := dr_words hts0 (d_88)
            have hK := gKd hK0 (d_88)
            have hown : (s.setDrawn (d_88)).vm.findClass RX12 = some m.cls := hown0
            refine lv_dstore (lv' := [(6, .double y_87), (9, .double y_80), (4, .double y_75), (8, .int k8), (3, .int x_2), (0, .ref (ad 0)), (1, .double p0)]) hx hb dX12_dirtyAt_131 hl (by decide) rfl (fun ls hl => ?_)
            obtain ⟨x_89, ex_89⟩ : ∃ zz : Int32, zz = k8 + 1 := ⟨_, rfl⟩
            refine lv_iinc (v := x_89) (lv' := [(8, .int x_89), (6, .double y_87), (9, .double y_80), (4, .double y_75), (3, .int x_2), (0, .ref (ad 0)), (1, .double p0)]) hx hb dX12_dirtyAt_133 hl (k := 3) rfl (by rw [ex_89]; rfl) (by decide) rfl (fun ls hl => ?_)
            refine lv_goto (tgt := 27) hx hb dX12_dirtyAt_136 (by decide) ?_
            exact ih27 x_89 y_75 y_87 _ _ _ _ (cnt_m iv27_0 (Int32.lt_of_lt_of_le (cnt_lt iv27_0 (Int32.lt_of_lt_of_le (Int32.lt_of_lt_of_le (Int32.not_le.mp c_10) (eq_le ex_8)) bd_9.2) ex_89) (cnt_N iv27_0 (Int32.lt_of_lt_of_le (Int32.lt_of_lt_of_le (Int32.not_le.mp c_10) (eq_le ex_8)) bd_9.2) ex_89)) hm27 ex_89) (cnt_0 iv27_0 (Int32.lt_of_lt_of_le (cnt_lt iv27_0 (Int32.lt_of_lt_of_le (Int32.lt_of_lt_of_le (Int32.not_le.mp c_10) (eq_le ex_8)) bd_9.2) ex_89) (cnt_N iv27_0 (Int32.lt_of_lt_of_le (Int32.lt_of_lt_of_le (Int32.not_le.mp c_10) (eq_le ex_8)) bd_9.2) ex_89)) ex_89) hd0 hP hD hS (lv_sub hl [0, 1, 3, 4, 5, 6] rfl)
          · refine lv_dload hx hb dX12_dirtyAt_115 (lv_at hl 0 rfl) ?_
            refine lv_ldc2d (v := 4636737291354636288) hx hb hown (hts (.constantDouble RX12 503 (4636737291354636288)) (by decide +kernel)) dX12_dirtyAt_117 ?_
            refine lv_dadd_any hd0 lw_bits hx hb dX12_dirtyAt_120 (fun y_90 d_91 _ hd0 => ?_)
            have hts := dr_words hts0 (d_91)
            have hK := gKd hK0 (d_91)
            have hown : (s.setDrawn (d_91)).vm.findClass RX12 = some m.cls := hown0
            refine lv_dstore (lv' := [(9, .double y_90), (4, .double y_75), (8, .int k8), (6, .double vv), (3, .int x_2), (0, .ref (ad 0)), (1, .double p0)]) hx hb dX12_dirtyAt_121 hl (by decide) rfl (fun ls hl => ?_)
            refine lv_dload hx hb dX12_dirtyAt_123 (lv_at hl 3 rfl) ?_
            refine lv_dload hx hb dX12_dirtyAt_125 (lv_at hl 0 rfl) ?_
            refine lv_dload hx hb dX12_dirtyAt_127 (lv_at hl 1 rfl) ?_
            refine lv_ddiv_any hd0 lw_bits hx hb dX12_dirtyAt_129 (fun y_92 d_93 _ hd0 => ?_)
            have hts := dr_words hts0 (d_93)
            have hK := gKd hK0 (d_93)
            have hown : (s.setDrawn (d_93)).vm.findClass RX12 = some m.cls := hown0
            refine lv_dadd_any hd0 lw_bits hx hb dX12_dirtyAt_130 (fun y_94 d_95 _ hd0 => ?_)
            have hts := dr_words hts0 (d_95)
            have hK := gKd hK0 (d_95)
            have hown : (s.setDrawn (d_95)).vm.findClass RX12 = some m.cls := hown0
            refine lv_dstore (lv' := [(6, .double y_94), (9, .double y_90), (4, .double y_75), (8, .int k8), (3, .int x_2), (0, .ref (ad 0)), (1, .double p0)]) hx hb dX12_dirtyAt_131 hl (by decide) rfl (fun ls hl => ?_)
            obtain ⟨x_96, ex_96⟩ : ∃ zz : Int32, zz = k8 + 1 := ⟨_, rfl⟩
            refine lv_iinc (v := x_96) (lv' := [(8, .int x_96), (6, .double y_94), (9, .double y_90), (4, .double y_75), (3, .int x_2), (0, .ref (ad 0)), (1, .double p0)]) hx hb dX12_dirtyAt_133 hl (k := 3) rfl (by rw [ex_96]; rfl) (by decide) rfl (fun ls hl => ?_)
            refine lv_goto (tgt := 27) hx hb dX12_dirtyAt_136 (by decide) ?_
            exact ih27 x_96 y_75 y_94 _ _ _ _ (cnt_m iv27_0 (Int32.lt_of_lt_of_le (cnt_lt iv27_0 (Int32.lt_of_lt_of_le (Int32.lt_of_lt_of_le (Int32.not_le.mp c_10) (eq_le ex_8)) bd_9.2) ex_96) (cnt_N iv27_0 (Int32.lt_of_lt_of_le (Int32.lt_of_lt_of_le (Int32.not_le.mp c_10) (eq_le ex_8)) bd_9.2) ex_96)) hm27 ex_96) (cnt_0 iv27_0 (Int32.lt_of_lt_of_le (cnt_lt iv27_0 (Int32.lt_of_lt_of_le (Int32.lt_of_lt_of_le (Int32.not_le.mp c_10) (eq_le ex_8)) bd_9.2) ex_96) (cnt_N iv27_0 (Int32.lt_of_lt_of_le (Int32.lt_of_lt_of_le (Int32.not_le.mp c_10) (eq_le ex_8)) bd_9.2) ex_96)) ex_96) hd0 hP hD hS (lv_sub hl [0, 1, 3, 4, 5, 6] rfl)
        · refine lv_aload_n hx hb dX12_dirtyAt_77 rfl (lv_at hl 4 rfl) ?_
          refine va_get (D := (dC, dI)) (ci := 11) (v := .int ((σ 0).1 49)) (C := RX12) (T := TX12) (N := 69) hx hb hts hinX12 hown hK hP 0 (mat_11 rfl) rfl 49 (by decide) (hts (.fieldLink RX12 493 "BondCalendarsModel" "settleEx" "Z") (by decide +kernel)) (fun _ h9 => h9) rfl dX12_dirtyAt_78 ?_
          refine lv_if_eq (tgt := 88) hx hb dX12_dirtyAt_81 (by decide) (fun c_97 => ?_) (fun c_97 => ?_)
          · refine lv_aload_n hx hb dX12_dirtyAt_88 rfl (lv_at hl 4 rfl) ?_
            refine va_get (D := (dC, dI)) (ci := 11) (v := .ref (ad 22)) (C := RX12) (T := TX12) (N := 69) hx hb hts hinX12 hown hK hP 0 (mat_11 rfl) rfl 44 (by decide) (hts (.fieldLink RX12 80 "BondCalendarsModel" "couponOf" "[D") (by decide +kernel)) (fun _ h9 => h9) rfl dX12_dirtyAt_89 ?_
            refine lv_iload_n hx hb dX12_dirtyAt_92 rfl (lv_at hl 3 rfl) ?_
            refine lv_iload hx hb dX12_dirtyAt_93 (lv_at hl 1 rfl) ?_
            refine lv_iadd hx hb dX12_dirtyAt_95 ?_
            refine lv_topi (fun x_98 ex_98 => ?_)
            have hi_99 : vp_in x_98 328 := by have ab1 : (0 : Int) ≤ ((σ 0).1 47).toInt := Int32.le_iff_toInt_le.mp bd_1.1; have ab2 : ((σ 0).1 47).toInt ≤ (3 : Int) := Int32.le_iff_toInt_le.mp bd_1.2; have tt3 : x_2.toInt = (82 * ((σ 0).1 47).toInt) := (by rw [ex_2]; exact i3_mul (a := (82 : Int32)) (b := ((σ 0).1 47)) (x := 82) (y := ((σ 0).1 47).toInt) rfl rfl (by omega) (by omega)); have ab4 : (0 : Int) ≤ k8.toInt := Int32.le_iff_toInt_le.mp iv27_0; have ab5 : k8.toInt ≤ (81 : Int) := Int32.le_iff_toInt_le.mp (gl2 (b := 81) (Int32.lt_of_lt_of_le (Int32.lt_of_lt_of_le (Int32.not_le.mp c_10) (eq_le ex_8)) bd_9.2) (by decide)); have tt6 : x_98.toInt = ((82 * ((σ 0).1 47).toInt) + k8.toInt) := (by rw [ex_98]; exact i3_add (a := x_2) (b := k8) (x := (82 * ((σ 0).1 47).toInt)) (y := k8.toInt) tt3 rfl (by omega) (by omega)); have z0 : (0 : Int32).toInt = 0 := (by decide); have zn : (328 : Int32).toInt = 328 := (by decide); exact gin (N := 328) (by decide) (Int32.le_iff_toInt_le.mpr (by omega)) (Int32.lt_iff_toInt_lt.mpr (by omega))
            refine va_dald hx hb hK hP 22 22 (mat_62 rfl) (mty_62 rfl) hi_99 dX12_dirtyAt_96 ?_
            refine lv_topd (fun y_100 _ => ?_)
            refine lv_dstore (lv' := [(9, .double y_100), (4, .double y_75), (8, .int k8), (6, .double vv), (3, .int x_2), (0, .ref (ad 0)), (1, .double p0)]) hx hb dX12_dirtyAt_97 hl (by decide) rfl (fun ls hl => ?_)
            refine lv_iload hx hb dX12_dirtyAt_99 (lv_at hl 2 rfl) ?_
            refine lv_aload_n hx hb dX12_dirtyAt_101 rfl (lv_at hl 5 rfl) ?_
            refine va_get (D := (dC, dI)) (ci := 11) (v := .ref (ad 17)) (C := RX12) (T := TX12) (N := 69) hx hb hts hinX12 hown hK hP 0 (mat_11 rfl) rfl 39 (by decide) (hts (.fieldLink RX12 64 "BondCalendarsModel" "periodMany" "[I") (by decide +kernel)) (fun _ h9 => h9) rfl dX12_dirtyAt_102 ?_
            refine lv_aload_n hx hb dX12_dirtyAt_105 rfl (lv_at hl 5 rfl) ?_
            refine va_get (D := (dC, dI)) (ci := 11) (v := .int ((σ 0).1 47)) (C := RX12) (T := TX12) (N := 69) hx hb hts hinX12 hown hK hP 0 (mat_11 rfl) rfl 47 (by decide) (hts (.fieldLink RX12 487 "BondCalendarsModel" "settleBond" "I") (by decide +kernel)) (fun _ h9 => h9) rfl dX12_dirtyAt_106 ?_
            refine va_iald hx hb hK hP 17 17 (mat_57 rfl) (mty_57 rfl) (gin (N := 4) (by decide) bd_1.1 (Int32.lt_of_le_of_lt bd_1.2 (show (3 : Int32) < 4 by decide))) dX12_dirtyAt_109 ?_
            refine lv_topi (fun x_101 ex_101 => ?_)
            have bd_102 := mrd_57 (c := 17) hI rfl ((σ 0).1 47).toNatClampNeg
            refine lv_iconst (v := 1) hx hb dX12_dirtyAt_110 (by decide) ?_
            refine lv_isub hx hb dX12_dirtyAt_111 ?_
            refine lv_topi (fun x_103 ex_103 => ?_)
            refine lv_icmp_ne (tgt := 123) hx hb dX12_dirtyAt_112 (by decide) (fun c_104 => ?_) (fun c_104 => ?_)
            · refine lv_dload hx hb dX12_dirtyAt_123 (lv_at hl 3 rfl) ?_
              refine lv_dload hx hb dX12_dirtyAt_125 (lv_at hl 0 rfl) ?_
              refine lv_dload hx hb dX12_dirtyAt_127 (lv_at hl 1 rfl) ?_
              refine lv_ddiv_any hd0 lw_bits hx hb dX12_dirtyAt_129 (fun y_105 d_106 _ hd0 => ?_)
              have hts := dr_words hts0 (d_106)
              have hK := gKd hK0 (d_106)
              have hown : (s.setDrawn (d_106)).vm.findClass RX12 = some m.cls := hown0
              refine lv_dadd_any hd0 lw_bits hx hb dX12_dirtyAt_130 (fun y_107 d_108 _ hd0 => ?_)
              have hts := dr_words hts0 (d_108)
              have hK := gKd hK0 (d_108)
              have hown : (s.setDrawn (d_108)).vm.findClass RX12 = some m.cls := hown0
              refine lv_dstore (lv' := [(6, .double y_107), (9, .double y_100), (4, .double y_75), (8, .int k8), (3, .int x_2), (0, .ref (ad 0)), (1, .double p0)]) hx hb dX12_dirtyAt_131 hl (by decide) rfl (fun ls hl => ?_)
              obtain ⟨x_109, ex_109⟩ : ∃ zz : Int32, zz = k8 + 1 := ⟨_, rfl⟩
              refine lv_iinc (v := x_109) (lv' := [(8, .int x_109), (6, .double y_107), (9, .double y_100), (4, .double y_75), (3, .int x_2), (0, .ref (ad 0)), (1, .double p0)]) hx hb dX12_dirtyAt_133 hl (k := 3) rfl (by rw [ex_109]; rfl) (by decide) rfl (fun ls hl => ?_)
              refine lv_goto (tgt := 27) hx hb dX12_dirtyAt_136 (by decide) ?_
              exact ih27 x_109 y_75 y_107 _ _ _ _ (cnt_m iv27_0 (Int32.lt_of_lt_of_le (cnt_lt iv27_0 (Int32.lt_of_lt_of_le (Int32.lt_of_lt_of_le (Int32.not_le.mp c_10) (eq_le ex_8)) bd_9.2) ex_109) (cnt_N iv27_0 (Int32.lt_of_lt_of_le (Int32.lt_of_lt_of_le (Int32.not_le.mp c_10) (eq_le ex_8)) bd_9.2) ex_109)) hm27 ex_109) (cnt_0 iv27_0 (Int32.lt_of_lt_of_le (cnt_lt iv27_0 (Int32.lt_of_lt_of_le (Int32.lt_of_lt_of_le (Int32.not_le.mp c_10) (eq_le ex_8)) bd_9.2) ex_109) (cnt_N iv27_0 (Int32.lt_of_lt_of_le (Int32.lt_of_lt_of_le (Int32.not_le.mp c_10) (eq_le ex_8)) bd_9.2) ex_109)) ex_109) hd0 hP hD hS (lv_sub hl [0, 1, 3, 4, 5, 6] rfl)
            · refine lv_dload hx hb dX12_dirtyAt_115 (lv_at hl 0 rfl) ?_
              refine lv_ldc2d (v := 4636737291354636288) hx hb hown (hts (.constantDouble RX12 503 (4636737291354636288)) (by decide +kernel)) dX12_dirtyAt_117 ?_
              refine lv_dadd_any hd0 lw_bits hx hb dX12_dirtyAt_120 (fun y_110 d_111 _ hd0 => ?_)
              have hts := dr_words hts0 (d_111)
              have hK := gKd hK0 (d_111)
              have hown : (s.setDrawn (d_111)).vm.findClass RX12 = some m.cls := hown0
              refine lv_dstore (lv' := [(9, .double y_110), (4, .double y_75), (8, .int k8), (6, .double vv), (3, .int x_2), (0, .ref (ad 0)), (1, .double p0)]) hx hb dX12_dirtyAt_121 hl (by decide) rfl (fun ls hl => ?_)
              refine lv_dload hx hb dX12_dirtyAt_123 (lv_at hl 3 rfl) ?_
              refine lv_dload hx hb dX12_dirtyAt_125 (lv_at hl 0 rfl) ?_
              refine lv_dload hx hb dX12_dirtyAt_127 (lv_at hl 1 rfl) ?_
              refine lv_ddiv_any hd0 lw_bits hx hb dX12_dirtyAt_129 (fun y_112 d_113 _ hd0 => ?_)
              have hts := dr_words hts0 (d_113)
              have hK := gKd hK0 (d_113)
              have hown : (s.setDrawn (d_113)).vm.findClass RX12 = some m.cls := hown0
              refine lv_dadd_any hd0 lw_bits hx hb dX12_dirtyAt_130 (fun y_114 d_115 _ hd0 => ?_)
              have hts := dr_words hts0 (d_115)
              have hK := gKd hK0 (d_115)
              have hown : (s.setDrawn (d_115)).vm.findClass RX12 = some m.cls := hown0
              refine lv_dstore (lv' := [(6, .double y_114), (9, .double y_110), (4, .double y_75), (8, .int k8), (3, .int x_2), (0, .ref (ad 0)), (1, .double p0)]) hx hb dX12_dirtyAt_131 hl (by decide) rfl (fun ls hl => ?_)
              obtain ⟨x_116, ex_116⟩ : ∃ zz : Int32, zz = k8 + 1 := ⟨_, rfl⟩
              refine lv_iinc (v := x_116) (lv' := [(8, .int x_116), (6, .double y_114), (9, .double y_110), (4, .double y_75), (3, .int x_2), (0, .ref (ad 0)), (1, .double p0)]) hx hb dX12_dirtyAt_133 hl (k := 3) rfl (by rw [ex_116]; rfl) (by decide) rfl (fun ls hl => ?_)
              refine lv_goto (tgt := 27) hx hb dX12_dirtyAt_136 (by decide) ?_
              exact ih27 x_116 y_75 y_114 _ _ _ _ (cnt_m iv27_0 (Int32.lt_of_lt_of_le (cnt_lt iv27_0 (Int32.lt_of_lt_of_le (Int32.lt_of_lt_of_le (Int32.not_le.mp c_10) (eq_le ex_8)) bd_9.2) ex_116) (cnt_N iv27_0 (Int32.lt_of_lt_of_le (Int32.lt_of_lt_of_le (Int32.not_le.mp c_10) (eq_le ex_8)) bd_9.2) ex_116)) hm27 ex_116) (cnt_0 iv27_0 (Int32.lt_of_lt_of_le (cnt_lt iv27_0 (Int32.lt_of_lt_of_le (Int32.lt_of_lt_of_le (Int32.not_le.mp c_10) (eq_le ex_8)) bd_9.2) ex_116) (cnt_N iv27_0 (Int32.lt_of_lt_of_le (Int32.lt_of_lt_of_le (Int32.not_le.mp c_10) (eq_le ex_8)) bd_9.2) ex_116)) ex_116) hd0 hP hD hS (lv_sub hl [0, 1, 3, 4, 5, 6] rfl)
          · refine lv_dconst0 hx hb dX12_dirtyAt_84 ?_
            refine lv_goto (tgt := 97) hx hb dX12_dirtyAt_85 (by decide) ?_
            refine lv_dstore (lv' := [(9, .double 0), (4, .double y_75), (8, .int k8), (6, .double vv), (3, .int x_2), (0, .ref (ad 0)), (1, .double p0)]) hx hb dX12_dirtyAt_97 hl (by decide) rfl (fun ls hl => ?_)
            refine lv_iload hx hb dX12_dirtyAt_99 (lv_at hl 2 rfl) ?_
            refine lv_aload_n hx hb dX12_dirtyAt_101 rfl (lv_at hl 5 rfl) ?_
            refine va_get (D := (dC, dI)) (ci := 11) (v := .ref (ad 17)) (C := RX12) (T := TX12) (N := 69) hx hb hts hinX12 hown hK hP 0 (mat_11 rfl) rfl 39 (by decide) (hts (.fieldLink RX12 64 "BondCalendarsModel" "periodMany" "[I") (by decide +kernel)) (fun _ h9 => h9) rfl dX12_dirtyAt_102 ?_
            refine lv_aload_n hx hb dX12_dirtyAt_105 rfl (lv_at hl 5 rfl) ?_
            refine va_get (D := (dC, dI)) (ci := 11) (v := .int ((σ 0).1 47)) (C := RX12) (T := TX12) (N := 69) hx hb hts hinX12 hown hK hP 0 (mat_11 rfl) rfl 47 (by decide) (hts (.fieldLink RX12 487 "BondCalendarsModel" "settleBond" "I") (by decide +kernel)) (fun _ h9 => h9) rfl dX12_dirtyAt_106 ?_
            refine va_iald hx hb hK hP 17 17 (mat_57 rfl) (mty_57 rfl) (gin (N := 4) (by decide) bd_1.1 (Int32.lt_of_le_of_lt bd_1.2 (show (3 : Int32) < 4 by decide))) dX12_dirtyAt_109 ?_
            refine lv_topi (fun x_117 ex_117 => ?_)
            have bd_118 := mrd_57 (c := 17) hI rfl ((σ 0).1 47).toNatClampNeg
            refine lv_iconst (v := 1) hx hb dX12_dirtyAt_110 (by decide) ?_
            refine lv_isub hx hb dX12_dirtyAt_111 ?_
            refine lv_topi (fun x_119 ex_119 => ?_)
            refine lv_icmp_ne (tgt := 123) hx hb dX12_dirtyAt_112 (by decide) (fun c_120 => ?_) (fun c_120 => ?_)
            · refine lv_dload hx hb dX12_dirtyAt_123 (lv_at hl 3 rfl) ?_
              refine lv_dload hx hb dX12_dirtyAt_125 (lv_at hl 0 rfl) ?_
              refine lv_dload hx hb dX12_dirtyAt_127 (lv_at hl 1 rfl) ?_
              refine lv_ddiv_any hd0 lw_bits hx hb dX12_dirtyAt_129 (fun y_121 d_122 _ hd0 => ?_)
              have hts := dr_words hts0 (d_122)
              have hK := gKd hK0 (d_122)
              have hown : (s.setDrawn (d_122)).vm.findClass RX12 = some m.cls := hown0
              refine lv_dadd_any hd0 lw_bits hx hb dX12_dirtyAt_130 (fun y_123 d_124 _ hd0 => ?_)
              have hts := dr_words hts0 (d_124)
              have hK := gKd hK0 (d_124)
              have hown : (s.setDrawn (d_124)).vm.findClass RX12 = some m.cls := hown0
              refine lv_dstore (lv' := [(6, .double y_123), (9, .double 0), (4, .double y_75), (8, .int k8), (3, .int x_2), (0, .ref (ad 0)), (1, .double p0)]) hx hb dX12_dirtyAt_131 hl (by decide) rfl (fun ls hl => ?_)
              obtain ⟨x_125, ex_125⟩ : ∃ zz : Int32, zz = k8 + 1 := ⟨_, rfl⟩
              refine lv_iinc (v := x_125) (lv' := [(8, .int x_125), (6, .double y_123), (9, .double 0), (4, .double y_75), (3, .int x_2), (0, .ref (ad 0)), (1, .double p0)]) hx hb dX12_dirtyAt_133 hl (k := 3) rfl (by rw [ex_125]; rfl) (by decide) rfl (fun ls hl => ?_)
              refine lv_goto (tgt := 27) hx hb dX12_dirtyAt_136 (by decide) ?_
              exact ih27 x_125 y_75 y_123 _ _ _ _ (cnt_m iv27_0 (Int32.lt_of_lt_of_le (cnt_lt iv27_0 (Int32.lt_of_lt_of_le (Int32.lt_of_lt_of_le (Int32.not_le.mp c_10) (eq_le ex_8)) bd_9.2) ex_125) (cnt_N iv27_0 (Int32.lt_of_lt_of_le (Int32.lt_of_lt_of_le (Int32.not_le.mp c_10) (eq_le ex_8)) bd_9.2) ex_125)) hm27 ex_125) (cnt_0 iv27_0 (Int32.lt_of_lt_of_le (cnt_lt iv27_0 (Int32.lt_of_lt_of_le (Int32.lt_of_lt_of_le (Int32.not_le.mp c_10) (eq_le ex_8)) bd_9.2) ex_125) (cnt_N iv27_0 (Int32.lt_of_lt_of_le (Int32.lt_of_lt_of_le (Int32.not_le.mp c_10) (eq_le ex_8)) bd_9.2) ex_125)) ex_125) hd0 hP hD hS (lv_sub hl [0, 1, 3, 4, 5, 6] rfl)
            · refine lv_dload hx hb dX12_dirtyAt_115 (lv_at hl 0 rfl) ?_
              refine lv_ldc2d (v := 4636737291354636288) hx hb hown (hts (.constantDouble RX12 503 (4636737291354636288)) (by decide +kernel)) dX12_dirtyAt_117 ?_
              refine lv_dadd_any hd0 lw_bits hx hb dX12_dirtyAt_120 (fun y_126 d_127 _ hd0 => ?_)
              have hts := dr_words hts0 (d_127)
              have hK := gKd hK0 (d_127)
              have hown : (s.setDrawn (d_127)).vm.findClass RX12 = some m.cls := hown0
              refine lv_dstore (lv' := [(9, .double y_126), (4, .double y_75), (8, .int k8), (6, .double vv), (3, .int x_2), (0, .ref (ad 0)), (1, .double p0)]) hx hb dX12_dirtyAt_121 hl (by decide) rfl (fun ls hl => ?_)
              refine lv_dload hx hb dX12_dirtyAt_123 (lv_at hl 3 rfl) ?_
              refine lv_dload hx hb dX12_dirtyAt_125 (lv_at hl 0 rfl) ?_
              refine lv_dload hx hb dX12_dirtyAt_127 (lv_at hl 1 rfl) ?_
              refine lv_ddiv_any hd0 lw_bits hx hb dX12_dirtyAt_129 (fun y_128 d_129 _ hd0 => ?_)
              have hts := dr_words hts0 (d_129)
              have hK := gKd hK0 (d_129)
              have hown : (s.setDrawn (d_129)).vm.findClass RX12 = some m.cls := hown0
              refine lv_dadd_any hd0 lw_bits hx hb dX12_dirtyAt_130 (fun y_130 d_131 _ hd0 => ?_)
              have hts := dr_words hts0 (d_131)
              have hK := gKd hK0 (d_131)
              have hown : (s.setDrawn (d_131)).vm.findClass RX12 = some m.cls := hown0
              refine lv_dstore (lv' := [(6, .double y_130), (9, .double y_126), (4, .double y_75), (8, .int k8), (3, .int x_2), (0, .ref (ad 0)), (1, .double p0)]) hx hb dX12_dirtyAt_131 hl (by decide) rfl (fun ls hl => ?_)
              obtain ⟨x_132, ex_132⟩ : ∃ zz : Int32, zz = k8 + 1 := ⟨_, rfl⟩
              refine lv_iinc (v := x_132) (lv' := [(8, .int x_132), (6, .double y_130), (9, .double y_126), (4, .double y_75), (3, .int x_2), (0, .ref (ad 0)), (1, .double p0)]) hx hb dX12_dirtyAt_133 hl (k := 3) rfl (by rw [ex_132]; rfl) (by decide) rfl (fun ls hl => ?_)
              refine lv_goto (tgt := 27) hx hb dX12_dirtyAt_136 (by decide) ?_
              exact ih27 x_132 y_75 y_130 _ _ _ _ (cnt_m iv27_0 (Int32.lt_of_lt_of_le (cnt_lt iv27_0 (Int32.lt_of_lt_of_le (Int32.lt_of_lt_of_le (Int32.not_le.mp c_10) (eq_le ex_8)) bd_9.2) ex_132) (cnt_N iv27_0 (Int32.lt_of_lt_of_le (Int32.lt_of_lt_of_le (Int32.not_le.mp c_10) (eq_le ex_8)) bd_9.2) ex_132)) hm27 ex_132) (cnt_0 iv27_0 (Int32.lt_of_lt_of_le (cnt_lt iv27_0 (Int32.lt_of_lt_of_le (Int32.lt_of_lt_of_le (Int32.not_le.mp c_10) (eq_le ex_8)) bd_9.2) ex_132) (cnt_N iv27_0 (Int32.lt_of_lt_of_le (Int32.lt_of_lt_of_le (Int32.not_le.mp c_10) (eq_le ex_8)) bd_9.2) ex_132)) ex_132) hd0 hP hD hS (lv_sub hl [0, 1, 3, 4, 5, 6] rfl)
set_option maxHeartbeats 8000000 in
set_option maxRecDepth 100000 in
theorem n_X12_cleanAt (l : Launch) (dC : Nat → ClassId) (dI : Nat → Nat → Nat) (ad : Nat → Nat) (cA : Nat → ClassId) (adK adV : Nat → Nat) (sz : Nat) (σ : gs) (hI : InvM σ) (p0 : Int32) : MetD lw_cs l yX12_cleanAt wsX12_cleanAt ({ frames := 1, cells := 0, slots := 0, locals := 30 }) (va_Pc [.ref (ad 0), .int p0] (gPre adK adV (dC, dI) (wM ad cA σ) (tM cA) sz)) (va_Qd (fun (r : UInt64) (τ : gs) => InvM τ ∧ σ = τ ∧ (True)) (fun τ t => gPost (dC, dI) (va_A (wM ad cA σ) sz) (wM ad cA τ) t) (va_A (wM ad cA σ) sz)) 0 0 (va_A (wM ad cA σ) sz) := by
  refine MetD.ofW (cc := cX12_cleanAt) (maxL := 2) (ret := (some .double)) (by decide) rfl ?_
  intro p e s m args below meth c s₁ B hml hv hd0
  obtain ⟨rfl, hsz, hP, hK, hD0, hT⟩ := hv
  have hx := B.exec
  have hb := B.bytes
  have hr := B.returns
  have hts0 := atoms_spec (ws := wsX12_cleanAt) B.pre
  have hK0 := hK
  have hown0 : s.vm.findClass RX12 = some m.cls := findClass_of_methodNamed B.named
  have hlocks := B.notSynchronized
  have hinX12 : ∀ w ∈ u_ws RX12 TX12 69, w ∈ wsX12_cleanAt := (fun _ h9 => List.mem_cons_of_mem _ (List.mem_append_right _ h9))
  subst hsz
  have hD := hD0.self (sz := s.heap.size)
  generalize hAe : va_A (wM ad cA σ) s.heap.size = A at hD hT ⊢
  have hA : ∀ q : Nat, s.heap.size ≤ q → A q := fun q h => by rw [← hAe]; exact Or.inr h
  have hS : va_S A s.heap s.heap [] := va_S.rf
  have hl := lv_entry ([.ref (ad 0), .int p0]) (n := 2) (Nat.le_of_ble_eq_true rfl)
  rw [lg_entry_eq]
  generalize (lg_sl ([.ref (ad 0), .int p0]) ++ List.replicate (2 - (lg_sl ([.ref (ad 0), .int p0])).length) Slot.unset).toArray = ls at hl ⊢
  have hl : lv_has ls 2 [(0, .ref (ad 0)), (1, .int p0)] := hl
  have hts := dr_words hts0 (s.drawn)
  have hK := gKd hK0 (s.drawn)
  have hown : (s.setDrawn (s.drawn)).vm.findClass RX12 = some m.cls := hown0
  refine lv_aload_n hx hb dX12_cleanAt_0 rfl (lv_at hl 0 rfl) ?_
  refine lv_iload_n hx hb dX12_cleanAt_1 rfl (lv_at hl 1 rfl) ?_
  have hF := gFree hD hS hA
  refine va_calldD hd0 (va_runS_D (As := [.int p0]) (rest := [.ref (ad 0)]) ⟨hx, hb, hml, hown, hts⟩ (n_X12_asYield l dC dI ad cA adK adV s.heap.size σ hI p0) (va_cwS 1 hts gX12_cleanAt_X12_asYield rfl rfl rfl (by decide +kernel) ⟨Nat.le_of_ble_eq_true rfl, Nat.le_of_ble_eq_true rfl⟩) ⟨gBlind, gStart (As := [.int p0]) hP hD hK0 hT hS hF (s.drawn)⟩ rfl rfl hl.1 rfl (lv_room (Nat.le_of_ble_eq_true rfl)) dX12_cleanAt_2 ⟨Nat.le_of_ble_eq_true rfl, Nat.le_of_ble_eq_true rfl⟩) hS (fun q _ h => hF q h) hF (fun r_1 σ1 t H locs ht hvm hw hB hz1 hk1 hS d_2 hd0 => ?_)
  have hts := dr_words hts0 (d_2)
  have hK := gKd hK0 (d_2)
  have hown : (s.setDrawn (d_2)).vm.findClass RX12 = some m.cls := hown0
  obtain ⟨hP, hD⟩ := gBack hF ht hB
  obtain ⟨hIσ1, hro, hp_3⟩ := hw
  subst hro
  have hF := gFree hD hS hA
  refine va_calldD hd0 (va_runV_D (As := [.double r_1]) (rest := []) ⟨hx, hb, hml, hown, hts⟩ (n_X12_dirtyAt l dC dI ad cA adK adV H.size σ hI r_1) (cwV 1 hts gX12_cleanAt_X12_dirtyAt rfl rfl rfl (by decide +kernel) ⟨Nat.le_of_ble_eq_true rfl, Nat.le_of_ble_eq_true rfl⟩) ⟨gBlind, va_recv hK hP (ci := 11) (q0 := 0) rfl (mat_11 rfl), gStart (As := [.ref (ad 0), .double r_1]) hP hD hK0 hT hS hF (d_2)⟩ rfl rfl hl.1 rfl (lv_room (Nat.le_of_ble_eq_true rfl)) dX12_cleanAt_5 ⟨Nat.le_of_ble_eq_true rfl, Nat.le_of_ble_eq_true rfl⟩) hS (fun q _ h => hF q h) hF (fun r_4 σ2 t H locs ht hvm hw hB hz1 hk1 hS d_5 hd0 => ?_)
  have hts := dr_words hts0 (d_5)
  have hK := gKd hK0 (d_5)
  have hown : (s.setDrawn (d_5)).vm.findClass RX12 = some m.cls := hown0
  obtain ⟨hP, hD⟩ := gBack hF ht hB
  obtain ⟨hIσ2, hro, hp_6⟩ := hw
  subst hro
  refine lv_aload_n hx hb dX12_cleanAt_8 rfl (lv_at hl 0 rfl) ?_
  refine va_get (D := (dC, dI)) (ci := 11) (v := .double ((σ 0).2.2.1 51)) (C := RX12) (T := TX12) (N := 69) hx hb hts hinX12 hown hK hP 0 (mat_11 rfl) rfl 51 (by decide) (hts (.fieldLink RX12 500 "BondCalendarsModel" "settleAccrued" "D") (by decide +kernel)) (fun _ h9 => h9) rfl dX12_cleanAt_9 ?_
  refine lv_dsub_any hd0 lw_bits hx hb dX12_cleanAt_12 (fun y_7 d_8 _ hd0 => ?_)
  have hts := dr_words hts0 (d_8)
  have hK := gKd hK0 (d_8)
  have hown : (s.setDrawn (d_8)).vm.findClass RX12 = some m.cls := hown0
  refine W.endD hd0 ?_
  exact W.dret (v := y_7) hx hb hr (fun t ht hW => ⟨⟨y_7, σ, rfl, ⟨hI, rfl, trivial⟩, ⟨by rw [ht]; exact hP, hD⟩⟩, hS.F ht⟩) hS.2.2 dX12_cleanAt_13
set_option maxHeartbeats 8000000 in
set_option maxRecDepth 100000 in
theorem n_Jxe99ae_isNaN_b9ae7 (l : Launch) (dC : Nat → ClassId) (dI : Nat → Nat → Nat) (ad : Nat → Nat) (cA : Nat → ClassId) (adK adV : Nat → Nat) (sz : Nat) (σ : gs) (hI : InvM σ) (p0 : UInt64) : MetD lw_cs l yJxe99ae_isNaN_b9ae7 wsJxe99ae_isNaN_b9ae7 ({ frames := 0, cells := 0, slots := 0, locals := 0 }) (va_Pc [.double p0] (gPre adK adV (dC, dI) (wM ad cA σ) (tM cA) sz)) (va_Qi (fun (r : Int32) (τ : gs) => InvM τ ∧ σ = τ ∧ (r = 0 ∨ r = 1)) (fun τ t => gPost (dC, dI) (va_A (wM ad cA σ) sz) (wM ad cA τ) t) (va_A (wM ad cA σ) sz)) 0 0 (va_A (wM ad cA σ) sz) := by
  refine MetD.ofW (cc := cJxe99ae_isNaN_b9ae7) (maxL := 2) (ret := (some .boolean)) (by decide) rfl ?_
  intro p e s m args below meth c s₁ B hml hv hd0
  obtain ⟨rfl, hsz, hP, hK, hD0, hT⟩ := hv
  have hx := B.exec
  have hb := B.bytes
  have hr := B.returns
  have hts0 := atoms_spec (ws := wsJxe99ae_isNaN_b9ae7) B.pre
  have hK0 := hK
  have hown0 : s.vm.findClass RJxe99ae = some m.cls := findClass_of_methodNamed B.named
  have hlocks := B.notSynchronized
  subst hsz
  have hD := hD0.self (sz := s.heap.size)
  generalize hAe : va_A (wM ad cA σ) s.heap.size = A at hD hT ⊢
  have hA : ∀ q : Nat, s.heap.size ≤ q → A q := fun q h => by rw [← hAe]; exact Or.inr h
  have hS : va_S A s.heap s.heap [] := va_S.rf
  have hl := lv_entry ([.double p0]) (n := 2) (Nat.le_of_ble_eq_true rfl)
  rw [lg_entry_eq]
  generalize (lg_sl ([.double p0]) ++ List.replicate (2 - (lg_sl ([.double p0])).length) Slot.unset).toArray = ls at hl ⊢
  have hl : lv_has ls 2 [(0, .double p0)] := hl
  have hts := dr_words hts0 (s.drawn)
  have hK := gKd hK0 (s.drawn)
  have hown : (s.setDrawn (s.drawn)).vm.findClass RJxe99ae = some m.cls := hown0
  refine lv_dload_n hx hb dJxe99ae_isNaN_b9ae7_0 rfl (lv_at hl 0 rfl) ?_
  refine lv_dload_n hx hb dJxe99ae_isNaN_b9ae7_1 rfl (lv_at hl 0 rfl) ?_
  refine lv_dcmp hx hb dJxe99ae_isNaN_b9ae7_2 ?_
  refine lv_topi (fun x_1 _ => ?_)
  refine lv_if_eq (tgt := 10) hx hb dJxe99ae_isNaN_b9ae7_3 (by decide) (fun c_2 => ?_) (fun c_2 => ?_)
  · refine lv_iconst (v := 0) hx hb dJxe99ae_isNaN_b9ae7_10 (by decide) ?_
    refine W.endD hd0 ?_
    exact W.zret (v := 0) hx hb hr (by decide) (fun t ht hW => ⟨⟨0, σ, rfl, ⟨hI, rfl, Or.inl rfl⟩, ⟨by rw [ht]; exact hP, hD⟩⟩, hS.F ht⟩) hS.2.2 dJxe99ae_isNaN_b9ae7_11
  · refine lv_iconst (v := 1) hx hb dJxe99ae_isNaN_b9ae7_6 (by decide) ?_
    refine lv_goto (tgt := 11) hx hb dJxe99ae_isNaN_b9ae7_7 (by decide) ?_
    refine W.endD hd0 ?_
    exact W.zret (v := 1) hx hb hr (by decide) (fun t ht hW => ⟨⟨1, σ, rfl, ⟨hI, rfl, Or.inr rfl⟩, ⟨by rw [ht]; exact hP, hD⟩⟩, hS.F ht⟩) hS.2.2 dJxe99ae_isNaN_b9ae7_11
set_option maxHeartbeats 8000000 in
set_option maxRecDepth 100000 in
theorem n_Jxe99ae_doubleToLongBits_ccdee (l : Launch) (dC : Nat → ClassId) (dI : Nat → Nat → Nat) (ad : Nat → Nat) (cA : Nat → ClassId) (adK adV : Nat → Nat) (sz : Nat) (σ : gs) (hI : InvM σ) (p0 : UInt64) : MetD lw_cs l yJxe99ae_doubleToLongBits_ccdee wsJxe99ae_doubleToLongBits_ccdee ({ frames := 1, cells := 0, slots := 0, locals := 21 }) (va_Pc [.double p0] (gPre adK adV (dC, dI) (wM ad cA σ) (tM cA) sz)) (va_Ql (fun (r : Int64) (τ : gs) => InvM τ ∧ σ = τ ∧ (True)) (fun τ t => gPost (dC, dI) (va_A (wM ad cA σ) sz) (wM ad cA τ) t) (va_A (wM ad cA σ) sz)) 0 0 (va_A (wM ad cA σ) sz) := by
  refine MetD.ofW (cc := cJxe99ae_doubleToLongBits_ccdee) (maxL := 2) (ret := (some .long)) (by decide) rfl ?_
  intro p e s m args below meth c s₁ B hml hv hd0
  obtain ⟨rfl, hsz, hP, hK, hD0, hT⟩ := hv
  have hx := B.exec
  have hb := B.bytes
  have hr := B.returns
  have hts0 := atoms_spec (ws := wsJxe99ae_doubleToLongBits_ccdee) B.pre
  have hK0 := hK
  have hown0 : s.vm.findClass RJxe99ae = some m.cls := findClass_of_methodNamed B.named
  have hlocks := B.notSynchronized
  subst hsz
  have hD := hD0.self (sz := s.heap.size)
  generalize hAe : va_A (wM ad cA σ) s.heap.size = A at hD hT ⊢
  have hA : ∀ q : Nat, s.heap.size ≤ q → A q := fun q h => by rw [← hAe]; exact Or.inr h
  have hS : va_S A s.heap s.heap [] := va_S.rf
  have hl := lv_entry ([.double p0]) (n := 2) (Nat.le_of_ble_eq_true rfl)
  rw [lg_entry_eq]
  generalize (lg_sl ([.double p0]) ++ List.replicate (2 - (lg_sl ([.double p0])).length) Slot.unset).toArray = ls at hl ⊢
  have hl : lv_has ls 2 [(0, .double p0)] := hl
  have hts := dr_words hts0 (s.drawn)
  have hK := gKd hK0 (s.drawn)
  have hown : (s.setDrawn (s.drawn)).vm.findClass RJxe99ae = some m.cls := hown0
  refine lv_dload_n hx hb dJxe99ae_doubleToLongBits_ccdee_0 rfl (lv_at hl 0 rfl) ?_
  have hF := gFree hD hS hA
  refine va_calliD hd0 (va_runS_D (As := [.double p0]) (rest := []) ⟨hx, hb, hml, hown, hts⟩ (n_Jxe99ae_isNaN_b9ae7 l dC dI ad cA adK adV s.heap.size σ hI p0) (va_cwS 1 hts gJxe99ae_doubleToLongBits_ccdee_Jxe99ae_isNaN_b9ae7 rfl rfl rfl (by decide +kernel) ⟨Nat.le_of_ble_eq_true rfl, Nat.le_of_ble_eq_true rfl⟩) ⟨gBlind, gStart (As := [.double p0]) hP hD hK0 hT hS hF (s.drawn)⟩ rfl rfl hl.1 rfl (lv_room (Nat.le_of_ble_eq_true rfl)) dJxe99ae_doubleToLongBits_ccdee_1 ⟨Nat.le_of_ble_eq_true rfl, Nat.le_of_ble_eq_true rfl⟩) hS (fun q _ h => hF q h) hF (fun r_1 σ1 t H locs ht hvm hw hB hz1 hk1 hS d_2 hd0 => ?_)
  have hts := dr_words hts0 (d_2)
  have hK := gKd hK0 (d_2)
  have hown : (s.setDrawn (d_2)).vm.findClass RJxe99ae = some m.cls := hown0
  obtain ⟨hP, hD⟩ := gBack hF ht hB
  obtain ⟨hIσ1, hro, hp_3⟩ := hw
  subst hro
  refine lv_if_ne (tgt := 12) hx hb dJxe99ae_doubleToLongBits_ccdee_4 (by decide) (fun c_4 => ?_) (fun c_4 => ?_)
  · refine lv_ldc2 (v := 9221120237041090560) hx hb hown (hts (.constantLong RJxe99ae 137 (9221120237041090560)) (by decide +kernel)) dJxe99ae_doubleToLongBits_ccdee_12 ?_
    refine W.endD hd0 ?_
    exact W.lret (v := 9221120237041090560) hx hb hr (fun t ht hW => ⟨⟨9221120237041090560, σ, rfl, ⟨hI, rfl, trivial⟩, ⟨by rw [ht]; exact hP, hD⟩⟩, hS.F ht⟩) hS.2.2 dJxe99ae_doubleToLongBits_ccdee_15
  · refine lv_dload_n hx hb dJxe99ae_doubleToLongBits_ccdee_7 rfl (lv_at hl 0 rfl) ?_
    refine vn_d2l hx hb (hml.trans hl.1.symm) hown (hts (.methodLink RJxe99ae 134 ⟨"java/lang/Double", "doubleToRawLongBits", "(D)J"⟩) (by decide +kernel)) (hts (.native ⟨"java/lang/Double", "doubleToRawLongBits", "(D)J"⟩) (by decide +kernel)) (hts (.static ⟨"java/lang/Double", "doubleToRawLongBits", "(D)J"⟩) (by decide +kernel)) (hts (.initialized "java/lang/Double") (by decide +kernel)) (Nat.le_of_ble_eq_true rfl) (Nat.le_of_ble_eq_true rfl) dJxe99ae_doubleToLongBits_ccdee_8 ?_
    refine lv_topl (fun x_5 _ => ?_)
    refine W.endD hd0 ?_
    exact W.lret (v := x_5) hx hb hr (fun t ht hW => ⟨⟨x_5, σ, rfl, ⟨hI, rfl, trivial⟩, ⟨by rw [ht]; exact hP, hD⟩⟩, hS.F ht⟩) hS.2.2 dJxe99ae_doubleToLongBits_ccdee_11
set_option maxHeartbeats 8000000 in
set_option maxRecDepth 100000 in
theorem n_X12_goodBits (l : Launch) (dC : Nat → ClassId) (dI : Nat → Nat → Nat) (ad : Nat → Nat) (cA : Nat → ClassId) (adK adV : Nat → Nat) (sz : Nat) (σ : gs) (hI : InvM σ) (p0 : UInt64) : MetD lw_cs l yX12_goodBits wsX12_goodBits ({ frames := 2, cells := 0, slots := 0, locals := 43 }) (va_Pc [.ref (ad 0), .double p0] (gPre adK adV (dC, dI) (wM ad cA σ) (tM cA) sz)) (va_Ql (fun (r : Int64) (τ : gs) => InvM τ ∧ mFr [] [1, 2] σ τ ∧ (True)) (fun τ t => gPost (dC, dI) (va_A (wM ad cA σ) sz) (wM ad cA τ) t) (va_A (wM ad cA σ) sz)) 0 0 (va_A (wM ad cA σ) sz) := by
  refine MetD.ofW (cc := cX12_goodBits) (maxL := 3) (ret := (some .long)) (by decide) rfl ?_
  intro p e s m args below meth c s₁ B hml hv hd0
  obtain ⟨rfl, hsz, hP, hK, hD0, hT⟩ := hv
  have hx := B.exec
  have hb := B.bytes
  have hr := B.returns
  have hts0 := atoms_spec (ws := wsX12_goodBits) B.pre
  have hK0 := hK
  have hown0 : s.vm.findClass RX12 = some m.cls := findClass_of_methodNamed B.named
  have hlocks := B.notSynchronized
  subst hsz
  have hD := hD0.self (sz := s.heap.size)
  generalize hAe : va_A (wM ad cA σ) s.heap.size = A at hD hT ⊢
  have hA : ∀ q : Nat, s.heap.size ≤ q → A q := fun q h => by rw [← hAe]; exact Or.inr h
  have hS : va_S A s.heap s.heap [] := va_S.rf
  have hl := lv_entry ([.ref (ad 0), .double p0]) (n := 3) (Nat.le_of_ble_eq_true rfl)
  rw [lg_entry_eq]
  generalize (lg_sl ([.ref (ad 0), .double p0]) ++ List.replicate (3 - (lg_sl ([.ref (ad 0), .double p0])).length) Slot.unset).toArray = ls at hl ⊢
  have hl : lv_has ls 3 [(0, .ref (ad 0)), (1, .double p0)] := hl
  have hts := dr_words hts0 (s.drawn)
  have hK := gKd hK0 (s.drawn)
  have hown : (s.setDrawn (s.drawn)).vm.findClass RX12 = some m.cls := hown0
  refine lv_aload_n hx hb dX12_goodBits_0 rfl (lv_at hl 0 rfl) ?_
  refine lv_dload_n hx hb dX12_goodBits_1 rfl (lv_at hl 1 rfl) ?_
  have hF := gFree hD hS hA
  refine va_calllD hd0 (va_runS_D (As := [.double p0]) (rest := [.ref (ad 0)]) ⟨hx, hb, hml, hown, hts⟩ (n_Jxe99ae_doubleToLongBits_ccdee l dC dI ad cA adK adV s.heap.size σ hI p0) (va_cwS 1 hts gX12_goodBits_Jxe99ae_doubleToLongBits_ccdee rfl rfl rfl (by decide +kernel) ⟨Nat.le_of_ble_eq_true rfl, Nat.le_of_ble_eq_true rfl⟩) ⟨gBlind, gStart (As := [.double p0]) hP hD hK0 hT hS hF (s.drawn)⟩ rfl rfl hl.1 rfl (lv_room (Nat.le_of_ble_eq_true rfl)) dX12_goodBits_2 ⟨Nat.le_of_ble_eq_true rfl, Nat.le_of_ble_eq_true rfl⟩) hS (fun q _ h => hF q h) hF (fun r_1 σ1 t H locs ht hvm hw hB hz1 hk1 hS d_2 hd0 => ?_)
  have hts := dr_words hts0 (d_2)
  have hK := gKd hK0 (d_2)
  have hown : (s.setDrawn (d_2)).vm.findClass RX12 = some m.cls := hown0
  obtain ⟨hP, hD⟩ := gBack hF ht hB
  obtain ⟨hIσ1, hro, hp_3⟩ := hw
  subst hro
  have hF := gFree hD hS hA
  refine va_calllD hd0 (va_runV_D (As := [.long r_1]) (rest := []) ⟨hx, hb, hml, hown, hts⟩ (n_X12_goodLong l dC dI ad cA adK adV H.size σ hI r_1) (cwV 1 hts gX12_goodBits_X12_goodLong rfl rfl rfl (by decide +kernel) ⟨Nat.le_of_ble_eq_true rfl, Nat.le_of_ble_eq_true rfl⟩) ⟨gBlind, va_recv hK hP (ci := 11) (q0 := 0) rfl (mat_11 rfl), gStart (As := [.ref (ad 0), .long r_1]) hP hD hK0 hT hS hF (d_2)⟩ rfl rfl hl.1 rfl (lv_room (Nat.le_of_ble_eq_true rfl)) dX12_goodBits_5 ⟨Nat.le_of_ble_eq_true rfl, Nat.le_of_ble_eq_true rfl⟩) hS (fun q _ h => hF q h) hF (fun r_4 σ2 t H locs ht hvm hw hB hz1 hk1 hS d_5 hd0 => ?_)
  have hts := dr_words hts0 (d_5)
  have hK := gKd hK0 (d_5)
  have hown : (s.setDrawn (d_5)).vm.findClass RX12 = some m.cls := hown0
  obtain ⟨hP, hD⟩ := gBack hF ht hB
  obtain ⟨hIσ2, fcσ2, hp_6⟩ := hw
  refine W.endD hd0 ?_
  exact W.lret (v := r_4) hx hb hr (fun t ht hW => ⟨⟨r_4, σ2, rfl, ⟨hIσ2, (mFr.tr (mFr.rfl (L := []) (F := [1, 2]) (σ := σ)) fcσ2 (by decide) (by decide)), trivial⟩, ⟨by rw [ht]; exact hP, hD⟩⟩, hS.F ht⟩) hS.2.2 dX12_goodBits_8
