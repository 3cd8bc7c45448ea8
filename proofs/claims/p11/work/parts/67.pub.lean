set_option maxHeartbeats 8000000 in
set_option maxRecDepth 100000 in
theorem n_X12_isPeriod (l : Launch) (dC : Nat → ClassId) (dI : Nat → Nat → Nat) (ad : Nat → Nat) (cA : Nat → ClassId) (adK adV : Nat → Nat) (sz : Nat) (σ : gs) (hI : InvM σ) (p0 : Int32) (p1 : Int32) : MetD lw_cs l yX12_isPeriod wsX12_isPeriod ({ frames := 1, cells := 0, slots := 0, locals := 21 }) (va_Pc [.ref (ad 0), .int p0, .int p1] (gPre adK adV (dC, dI) (wM ad cA σ) (tM cA) sz)) (va_Qi (fun (r : Int32) (τ : gs) => InvM τ ∧ σ = τ ∧ ((r = 0 ∨ r = 1) ∧ (1 ≤ r → 0 ≤ p0) ∧ (1 ≤ r → p0 < (σ 0).1 20) ∧ (1 ≤ r → 0 ≤ p1) ∧ (1 ≤ r → p1 < (σ 17).1 p0.toNatClampNeg) ∧ (1 ≤ r → p1 < 82))) (fun τ t => gPost (dC, dI) (va_A (wM ad cA σ) sz) (wM ad cA τ) t) (va_A (wM ad cA σ) sz)) 0 0 (va_A (wM ad cA σ) sz) := by
  refine MetD.ofW (cc := cX12_isPeriod) (maxL := 3) (ret := (some .boolean)) (by decide) rfl ?_
  intro p e s m args below meth c s₁ B hml hv hd0
  obtain ⟨rfl, hsz, hP, hK, hD0, hT⟩ := hv
  have hx := B.exec
  have hb := B.bytes
  have hr := B.returns
  have hts0 := atoms_spec (ws := wsX12_isPeriod) B.pre
  have hK0 := hK
  have hown0 : s.vm.findClass RX12 = some m.cls := findClass_of_methodNamed B.named
  have hlocks := B.notSynchronized
  have hinX12 : ∀ w ∈ u_ws RX12 TX12 69, w ∈ wsX12_isPeriod := (fun _ h9 => List.mem_cons_of_mem _ (List.mem_append_right _ h9))
  subst hsz
  have hD := hD0.self (sz := s.heap.size)
  generalize hAe : va_A (wM ad cA σ) s.heap.size = A at hD hT ⊢
  have hA : ∀ q : Nat, s.heap.size ≤ q → A q := fun q h => by rw [← hAe]; exact Or.inr h
  have hS : va_S A s.heap s.heap [] := va_S.rf
  have hl := lv_entry ([.ref (ad 0), .int p0, .int p1]) (n := 3) (Nat.le_of_ble_eq_true rfl)
  rw [lg_entry_eq]
  generalize (lg_sl ([.ref (ad 0), .int p0, .int p1]) ++ List.replicate (3 - (lg_sl ([.ref (ad 0), .int p0, .int p1])).length) Slot.unset).toArray = ls at hl ⊢
  have hl : lv_has ls 3 [(0, .ref (ad 0)), (1, .int p0), (2, .int p1)] := hl
  have hts := dr_words hts0 (s.drawn)
  have hK := gKd hK0 (s.drawn)
  have hown : (s.setDrawn (s.drawn)).vm.findClass RX12 = some m.cls := hown0
  refine lv_aload_n hx hb dX12_isPeriod_0 rfl (lv_at hl 0 rfl) ?_
  refine lv_iload_n hx hb dX12_isPeriod_1 rfl (lv_at hl 1 rfl) ?_
  have hF := gFree hD hS hA
  refine va_calliD hd0 (va_runV_D (As := [.int p0]) (rest := []) ⟨hx, hb, hml, hown, hts⟩ (n_X12_isBond l dC dI ad cA adK adV s.heap.size σ hI p0) (cwV 1 hts gX12_isPeriod_X12_isBond rfl rfl rfl (by decide +kernel) ⟨Nat.le_of_ble_eq_true rfl, Nat.le_of_ble_eq_true rfl⟩) ⟨gBlind, va_recv hK hP (ci := 11) (q0 := 0) rfl (mat_11 rfl), gStart (As := [.ref (ad 0), .int p0]) hP hD hK0 hT hS hF (s.drawn)⟩ rfl rfl hl.1 rfl (lv_room (Nat.le_of_ble_eq_true rfl)) dX12_isPeriod_2 ⟨Nat.le_of_ble_eq_true rfl, Nat.le_of_ble_eq_true rfl⟩) hS (fun q _ h => hF q h) hF (fun r_1 σ1 t H locs ht hvm hw hB hz1 hk1 hS d_2 hd0 => ?_)
  have hts := dr_words hts0 (d_2)
  have hK := gKd hK0 (d_2)
  have hown : (s.setDrawn (d_2)).vm.findClass RX12 = some m.cls := hown0
  obtain ⟨hP, hD⟩ := gBack hF ht hB
  obtain ⟨hIσ1, hro, hp_3⟩ := hw
  subst hro
  have bd_4 := mrd_11_20 (c := 0) hI rfl
  refine lv_if_eq (tgt := 26) hx hb dX12_isPeriod_5 (by decide) (fun c_5 => ?_) (fun c_5 => ?_)
  · refine lv_iconst (v := 0) hx hb dX12_isPeriod_26 (by decide) ?_
    refine W.endD hd0 ?_
    exact W.zret (v := 0) hx hb hr (by decide) (fun t ht hW => ⟨⟨0, σ, rfl, ⟨hI, rfl, ⟨Or.inl rfl, (fun h9 => absurd h9 (Int32.not_le.mpr (show (0 : Int32) < 1 by decide))), (fun h9 => absurd h9 (Int32.not_le.mpr (show (0 : Int32) < 1 by decide))), (fun h9 => absurd h9 (Int32.not_le.mpr (show (0 : Int32) < 1 by decide))), (fun h9 => absurd h9 (Int32.not_le.mpr (show (0 : Int32) < 1 by decide))), (fun h9 => absurd h9 (Int32.not_le.mpr (show (0 : Int32) < 1 by decide)))⟩⟩, ⟨by rw [ht]; exact hP, hD⟩⟩, hS.F ht⟩) hS.2.2 dX12_isPeriod_27
  · refine lv_iload_n hx hb dX12_isPeriod_8 rfl (lv_at hl 2 rfl) ?_
    refine lv_if_lt (tgt := 26) hx hb dX12_isPeriod_9 (by decide) (fun c_6 => ?_) (fun c_6 => ?_)
    · refine lv_iconst (v := 0) hx hb dX12_isPeriod_26 (by decide) ?_
      refine W.endD hd0 ?_
      exact W.zret (v := 0) hx hb hr (by decide) (fun t ht hW => ⟨⟨0, σ, rfl, ⟨hI, rfl, ⟨Or.inl rfl, (fun _ => ((hp_3.2.1) (gl1 (b := 1) (ne_lt (b01_0 hp_3.1) c_5) (by decide)))), (fun _ => ((hp_3.2.2) (gl1 (b := 1) (ne_lt (b01_0 hp_3.1) c_5) (by decide)))), (fun h9 => absurd h9 (Int32.not_le.mpr (show (0 : Int32) < 1 by decide))), (fun h9 => absurd h9 (Int32.not_le.mpr (show (0 : Int32) < 1 by decide))), (fun _ => (Int32.lt_trans c_6 (show (0 : Int32) < 82 by decide)))⟩⟩, ⟨by rw [ht]; exact hP, hD⟩⟩, hS.F ht⟩) hS.2.2 dX12_isPeriod_27
    · refine lv_iload_n hx hb dX12_isPeriod_12 rfl (lv_at hl 2 rfl) ?_
      refine lv_aload_n hx hb dX12_isPeriod_13 rfl (lv_at hl 0 rfl) ?_
      refine va_get (D := (dC, dI)) (ci := 11) (v := .ref (ad 17)) (C := RX12) (T := TX12) (N := 69) hx hb hts hinX12 hown hK hP 0 (mat_11 rfl) rfl 39 (by decide) (hts (.fieldLink RX12 64 "BondCalendarsModel" "periodMany" "[I") (by decide +kernel)) (fun _ h9 => h9) rfl dX12_isPeriod_14 ?_
      refine lv_iload_n hx hb dX12_isPeriod_17 rfl (lv_at hl 1 rfl) ?_
      refine va_iald hx hb hK hP 17 17 (mat_57 rfl) (mty_57 rfl) (gin (N := 4) (by decide) ((hp_3.2.1) (gl1 (b := 1) (ne_lt (b01_0 hp_3.1) c_5) (by decide))) (Int32.lt_of_lt_of_le ((hp_3.2.2) (gl1 (b := 1) (ne_lt (b01_0 hp_3.1) c_5) (by decide))) bd_4.2)) dX12_isPeriod_18 ?_
      refine lv_topi (fun x_7 ex_7 => ?_)
      have bd_8 := mrd_57 (c := 17) hI rfl p0.toNatClampNeg
      refine lv_icmp_ge (tgt := 26) hx hb dX12_isPeriod_19 (by decide) (fun c_9 => ?_) (fun c_9 => ?_)
      · refine lv_iconst (v := 0) hx hb dX12_isPeriod_26 (by decide) ?_
        refine W.endD hd0 ?_
        exact W.zret (v := 0) hx hb hr (by decide) (fun t ht hW => ⟨⟨0, σ, rfl, ⟨hI, rfl, ⟨Or.inl rfl, (fun _ => ((hp_3.2.1) (gl1 (b := 1) (ne_lt (b01_0 hp_3.1) c_5) (by decide)))), (fun _ => ((hp_3.2.2) (gl1 (b := 1) (ne_lt (b01_0 hp_3.1) c_5) (by decide)))), (fun _ => (Int32.not_lt.mp c_6)), (fun h9 => absurd h9 (Int32.not_le.mpr (show (0 : Int32) < 1 by decide))), (fun h9 => absurd h9 (Int32.not_le.mpr (show (0 : Int32) < 1 by decide)))⟩⟩, ⟨by rw [ht]; exact hP, hD⟩⟩, hS.F ht⟩) hS.2.2 dX12_isPeriod_27
      · refine lv_iconst (v := 1) hx hb dX12_isPeriod_22 (by decide) ?_
        refine lv_goto (tgt := 27) hx hb dX12_isPeriod_23 (by decide) ?_
        refine W.endD hd0 ?_
        exact W.zret (v := 1) hx hb hr (by decide) (fun t ht hW => ⟨⟨1, σ, rfl, ⟨hI, rfl, ⟨Or.inr rfl, (fun _ => ((hp_3.2.1) (gl1 (b := 1) (ne_lt (b01_0 hp_3.1) c_5) (by decide)))), (fun _ => ((hp_3.2.2) (gl1 (b := 1) (ne_lt (b01_0 hp_3.1) c_5) (by decide)))), (fun _ => (Int32.not_lt.mp c_6)), (fun _ => (Int32.lt_of_lt_of_le (Int32.not_le.mp c_9) (eq_le ex_7))), (fun _ => (Int32.lt_of_lt_of_le (Int32.lt_of_lt_of_le (Int32.not_le.mp c_9) (eq_le ex_7)) bd_8.2))⟩⟩, ⟨by rw [ht]; exact hP, hD⟩⟩, hS.F ht⟩) hS.2.2 dX12_isPeriod_27
set_option maxHeartbeats 8000000 in
set_option maxRecDepth 100000 in
theorem n_X12_isSettle (l : Launch) (dC : Nat → ClassId) (dI : Nat → Nat → Nat) (ad : Nat → Nat) (cA : Nat → ClassId) (adK adV : Nat → Nat) (sz : Nat) (σ : gs) (hI : InvM σ) (p0 : Int32) (p1 : Int32) (hh0 : 0 ≤ p0) (hh1 : p0 < 8) : MetD lw_cs l yX12_isSettle wsX12_isSettle ({ frames := 0, cells := 0, slots := 0, locals := 0 }) (va_Pc [.ref (ad 0), .int p0, .int p1] (gPre adK adV (dC, dI) (wM ad cA σ) (tM cA) sz)) (va_Qi (fun (r : Int32) (τ : gs) => InvM τ ∧ σ = τ ∧ ((r = 0 ∨ r = 1) ∧ (1 ≤ r → p1 < (σ 4).1 p0.toNatClampNeg))) (fun τ t => gPost (dC, dI) (va_A (wM ad cA σ) sz) (wM ad cA τ) t) (va_A (wM ad cA σ) sz)) 0 0 (va_A (wM ad cA σ) sz) := by
  refine MetD.ofW (cc := cX12_isSettle) (maxL := 3) (ret := (some .boolean)) (by decide) rfl ?_
  intro p e s m args below meth c s₁ B hml hv hd0
  obtain ⟨rfl, hsz, hP, hK, hD0, hT⟩ := hv
  have hx := B.exec
  have hb := B.bytes
  have hr := B.returns
  have hts0 := atoms_spec (ws := wsX12_isSettle) B.pre
  have hK0 := hK
  have hown0 : s.vm.findClass RX12 = some m.cls := findClass_of_methodNamed B.named
  have hlocks := B.notSynchronized
  have hinX12 : ∀ w ∈ u_ws RX12 TX12 69, w ∈ wsX12_isSettle := (fun _ h9 => List.mem_cons_of_mem _ (List.mem_append_right _ h9))
  subst hsz
  have hD := hD0.self (sz := s.heap.size)
  generalize hAe : va_A (wM ad cA σ) s.heap.size = A at hD hT ⊢
  have hA : ∀ q : Nat, s.heap.size ≤ q → A q := fun q h => by rw [← hAe]; exact Or.inr h
  have hS : va_S A s.heap s.heap [] := va_S.rf
  have hl := lv_entry ([.ref (ad 0), .int p0, .int p1]) (n := 3) (Nat.le_of_ble_eq_true rfl)
  rw [lg_entry_eq]
  generalize (lg_sl ([.ref (ad 0), .int p0, .int p1]) ++ List.replicate (3 - (lg_sl ([.ref (ad 0), .int p0, .int p1])).length) Slot.unset).toArray = ls at hl ⊢
  have hl : lv_has ls 3 [(0, .ref (ad 0)), (1, .int p0), (2, .int p1)] := hl
  have hts := dr_words hts0 (s.drawn)
  have hK := gKd hK0 (s.drawn)
  have hown : (s.setDrawn (s.drawn)).vm.findClass RX12 = some m.cls := hown0
  refine lv_iload_n hx hb dX12_isSettle_0 rfl (lv_at hl 2 rfl) ?_
  refine lv_aload_n hx hb dX12_isSettle_1 rfl (lv_at hl 0 rfl) ?_
  refine va_get (D := (dC, dI)) (ci := 11) (v := .ref (ad 6)) (C := RX12) (T := TX12) (N := 69) hx hb hts hinX12 hown hK hP 0 (mat_11 rfl) rfl 10 (by decide) (hts (.fieldLink RX12 29 "BondCalendarsModel" "issue" "[I") (by decide +kernel)) (fun _ h9 => h9) rfl dX12_isSettle_2 ?_
  refine lv_iload_n hx hb dX12_isSettle_5 rfl (lv_at hl 1 rfl) ?_
  refine va_iald hx hb hK hP 6 6 (mat_46 rfl) (mty_46 rfl) (gin (N := 8) (by decide) hh0 hh1) dX12_isSettle_6 ?_
  refine lv_topi (fun x_1 ex_1 => ?_)
  refine lv_icmp_lt (tgt := 24) hx hb dX12_isSettle_7 (by decide) (fun c_2 => ?_) (fun c_2 => ?_)
  · refine lv_iconst (v := 0) hx hb dX12_isSettle_24 (by decide) ?_
    refine W.endD hd0 ?_
    exact W.zret (v := 0) hx hb hr (by decide) (fun t ht hW => ⟨⟨0, σ, rfl, ⟨hI, rfl, ⟨Or.inl rfl, (fun h9 => absurd h9 (Int32.not_le.mpr (show (0 : Int32) < 1 by decide)))⟩⟩, ⟨by rw [ht]; exact hP, hD⟩⟩, hS.F ht⟩) hS.2.2 dX12_isSettle_25
  · refine lv_iload_n hx hb dX12_isSettle_10 rfl (lv_at hl 2 rfl) ?_
    refine lv_aload_n hx hb dX12_isSettle_11 rfl (lv_at hl 0 rfl) ?_
    refine va_get (D := (dC, dI)) (ci := 11) (v := .ref (ad 4)) (C := RX12) (T := TX12) (N := 69) hx hb hts hinX12 hown hK hP 0 (mat_11 rfl) rfl 8 (by decide) (hts (.fieldLink RX12 23 "BondCalendarsModel" "mature" "[I") (by decide +kernel)) (fun _ h9 => h9) rfl dX12_isSettle_12 ?_
    refine lv_iload_n hx hb dX12_isSettle_15 rfl (lv_at hl 1 rfl) ?_
    refine va_iald hx hb hK hP 4 4 (mat_44 rfl) (mty_44 rfl) (gin (N := 8) (by decide) hh0 hh1) dX12_isSettle_16 ?_
    refine lv_topi (fun x_3 ex_3 => ?_)
    refine lv_icmp_ge (tgt := 24) hx hb dX12_isSettle_17 (by decide) (fun c_4 => ?_) (fun c_4 => ?_)
    · refine lv_iconst (v := 0) hx hb dX12_isSettle_24 (by decide) ?_
      refine W.endD hd0 ?_
      exact W.zret (v := 0) hx hb hr (by decide) (fun t ht hW => ⟨⟨0, σ, rfl, ⟨hI, rfl, ⟨Or.inl rfl, (fun h9 => absurd h9 (Int32.not_le.mpr (show (0 : Int32) < 1 by decide)))⟩⟩, ⟨by rw [ht]; exact hP, hD⟩⟩, hS.F ht⟩) hS.2.2 dX12_isSettle_25
    · refine lv_iconst (v := 1) hx hb dX12_isSettle_20 (by decide) ?_
      refine lv_goto (tgt := 25) hx hb dX12_isSettle_21 (by decide) ?_
      refine W.endD hd0 ?_
      exact W.zret (v := 1) hx hb hr (by decide) (fun t ht hW => ⟨⟨1, σ, rfl, ⟨hI, rfl, ⟨Or.inr rfl, (fun _ => (Int32.lt_of_lt_of_le (Int32.not_le.mp c_4) (eq_le ex_3)))⟩⟩, ⟨by rw [ht]; exact hP, hD⟩⟩, hS.F ht⟩) hS.2.2 dX12_isSettle_25
set_option maxHeartbeats 8000000 in
set_option maxRecDepth 100000 in
theorem n_X12_refuses (l : Launch) (dC : Nat → ClassId) (dI : Nat → Nat → Nat) (ad : Nat → Nat) (cA : Nat → ClassId) (adK adV : Nat → Nat) (sz : Nat) (σ : gs) (hI : InvM σ) (p0 : Int32) (p1 : Int32) : MetD lw_cs l yX12_refuses wsX12_refuses ({ frames := 2, cells := 0, slots := 0, locals := 44 }) (va_Pc [.ref (ad 0), .int p0, .int p1] (gPre adK adV (dC, dI) (wM ad cA σ) (tM cA) sz)) (va_Qi (fun (r : Int32) (τ : gs) => InvM τ ∧ σ = τ ∧ ((r ≤ 0 → 0 ≤ p0) ∧ (r ≤ 0 → p0 < (σ 0).1 20) ∧ (r ≤ 0 → p1 < (σ 4).1 p0.toNatClampNeg))) (fun τ t => gPost (dC, dI) (va_A (wM ad cA σ) sz) (wM ad cA τ) t) (va_A (wM ad cA σ) sz)) 0 0 (va_A (wM ad cA σ) sz) := by
  refine MetD.ofW (cc := cX12_refuses) (maxL := 3) (ret := (some .int)) (by decide) rfl ?_
  intro p e s m args below meth c s₁ B hml hv hd0
  obtain ⟨rfl, hsz, hP, hK, hD0, hT⟩ := hv
  have hx := B.exec
  have hb := B.bytes
  have hr := B.returns
  have hts0 := atoms_spec (ws := wsX12_refuses) B.pre
  have hK0 := hK
  have hown0 : s.vm.findClass RX12 = some m.cls := findClass_of_methodNamed B.named
  have hlocks := B.notSynchronized
  subst hsz
  have hD := hD0.self (sz := s.heap.size)
  generalize hAe : va_A (wM ad cA σ) s.heap.size = A at hD hT ⊢
  have hA : ∀ q : Nat, s.heap.size ≤ q → A q := fun q h => by rw [← hAe]; exact Or.inr h
  have hS : va_S A s.heap s.heap [] := va_S.rf
  have hl := lv_entry ([.ref (ad 0), .int p0, .int p1]) (n := 3) (Nat.le_of_ble_eq_true rfl)
  rw [lg_entry_eq]
  generalize (lg_sl ([.ref (ad 0), .int p0, .int p1]) ++ List.replicate (3 - (lg_sl ([.ref (ad 0), .int p0, .int p1])).length) Slot.unset).toArray = ls at hl ⊢
  have hl : lv_has ls 3 [(0, .ref (ad 0)), (1, .int p0), (2, .int p1)] := hl
  have hts := dr_words hts0 (s.drawn)
  have hK := gKd hK0 (s.drawn)
  have hown : (s.setDrawn (s.drawn)).vm.findClass RX12 = some m.cls := hown0
  refine lv_aload_n hx hb dX12_refuses_0 rfl (lv_at hl 0 rfl) ?_
  refine lv_iload_n hx hb dX12_refuses_1 rfl (lv_at hl 1 rfl) ?_
  have hF := gFree hD hS hA
  refine va_calliD hd0 (va_runV_D (As := [.int p0]) (rest := []) ⟨hx, hb, hml, hown, hts⟩ (n_X12_isBond l dC dI ad cA adK adV s.heap.size σ hI p0) (cwV 1 hts gX12_refuses_X12_isBond rfl rfl rfl (by decide +kernel) ⟨Nat.le_of_ble_eq_true rfl, Nat.le_of_ble_eq_true rfl⟩) ⟨gBlind, va_recv hK hP (ci := 11) (q0 := 0) rfl (mat_11 rfl), gStart (As := [.ref (ad 0), .int p0]) hP hD hK0 hT hS hF (s.drawn)⟩ rfl rfl hl.1 rfl (lv_room (Nat.le_of_ble_eq_true rfl)) dX12_refuses_2 ⟨Nat.le_of_ble_eq_true rfl, Nat.le_of_ble_eq_true rfl⟩) hS (fun q _ h => hF q h) hF (fun r_1 σ1 t H locs ht hvm hw hB hz1 hk1 hS d_2 hd0 => ?_)
  have hts := dr_words hts0 (d_2)
  have hK := gKd hK0 (d_2)
  have hown : (s.setDrawn (d_2)).vm.findClass RX12 = some m.cls := hown0
  obtain ⟨hP, hD⟩ := gBack hF ht hB
  obtain ⟨hIσ1, hro, hp_3⟩ := hw
  subst hro
  have bd_4 := mrd_11_20 (c := 0) hI rfl
  refine lv_if_ne (tgt := 10) hx hb dX12_refuses_5 (by decide) (fun c_5 => ?_) (fun c_5 => ?_)
  · refine lv_iload_n hx hb dX12_refuses_10 rfl (lv_at hl 2 rfl) ?_
    have hF := gFree (w := []) (hx_D0 (A := A)) hS hA
    have hKe := hK.sub (tys' := []) [] rfl
    refine va_calli (va_runS (As := [.int p1]) (rest := []) ⟨hx, hb, hml, hown, hts⟩ (k_X12_isDate l dC dI H.size p1 ) (va_cwS 1 hts gX12_refuses_X12_isDate rfl rfl rfl (by decide +kernel) ⟨Nat.le_of_ble_eq_true rfl, Nat.le_of_ble_eq_true rfl⟩) ⟨fun a U g mk q => by obtain ⟨q0, q1, qP, qK, qD⟩ := q; exact ⟨q0, q1, qP, va_K.moved (u := U) (U := U.calling g mk a) (Vm.Alike.refl U.vm) qK, qD⟩, fun U hU hW => ⟨rfl, by rw [hU], hx_P0, va_K.moved hW.alike hKe, hx_D0⟩⟩ rfl rfl hl.1 rfl (lv_room (Nat.le_of_ble_eq_true rfl)) dX12_refuses_11 ⟨Nat.le_of_ble_eq_true rfl, Nat.le_of_ble_eq_true rfl⟩) hS (fun q _ h => hF q h) hF (fun r_6 u t H locs ht hvm hw hB hz1 hk1 hS => ?_)
    have hP := gKeep hP hk1
    have pu_7 : r_6 = f_X12_isDate p1 := hw
    have b0_8 : r_6 = 0 ∨ r_6 = 1 := by rw [pu_7]; exact isDate01 _
    refine lv_if_ne (tgt := 19) hx hb dX12_refuses_14 (by decide) (fun c_9 => ?_) (fun c_9 => ?_)
    · refine lv_aload_n hx hb dX12_refuses_19 rfl (lv_at hl 0 rfl) ?_
      refine lv_iload_n hx hb dX12_refuses_20 rfl (lv_at hl 1 rfl) ?_
      refine lv_iload_n hx hb dX12_refuses_21 rfl (lv_at hl 2 rfl) ?_
      have hF := gFree hD hS hA
      refine va_calliD hd0 (va_runV_D (As := [.int p0, .int p1]) (rest := []) ⟨hx, hb, hml, hown, hts⟩ (n_X12_isSettle l dC dI ad cA adK adV H.size σ hI p0 p1 ((hp_3.2.1) (gl1 (b := 1) (ne_lt (b01_0 hp_3.1) c_5) (by decide))) (Int32.lt_trans (Int32.lt_of_lt_of_le ((hp_3.2.2) (gl1 (b := 1) (ne_lt (b01_0 hp_3.1) c_5) (by decide))) bd_4.2) (show (4 : Int32) < 8 by decide))) (cwV 2 hts gX12_refuses_X12_isSettle rfl rfl rfl (by decide +kernel) ⟨Nat.le_of_ble_eq_true rfl, Nat.le_of_ble_eq_true rfl⟩) ⟨gBlind, va_recv hK hP (ci := 11) (q0 := 0) rfl (mat_11 rfl), gStart (As := [.ref (ad 0), .int p0, .int p1]) hP hD hK0 hT hS hF (d_2)⟩ rfl rfl hl.1 rfl (lv_room (Nat.le_of_ble_eq_true rfl)) dX12_refuses_22 ⟨Nat.le_of_ble_eq_true rfl, Nat.le_of_ble_eq_true rfl⟩) hS (fun q _ h => hF q h) hF (fun r_10 σ2 t H locs ht hvm hw hB hz1 hk1 hS d_11 hd0 => ?_)
      have hts := dr_words hts0 (d_11)
      have hK := gKd hK0 (d_11)
      have hown : (s.setDrawn (d_11)).vm.findClass RX12 = some m.cls := hown0
      obtain ⟨hP, hD⟩ := gBack hF ht hB
      obtain ⟨hIσ2, hro, hp_12⟩ := hw
      subst hro
      refine lv_if_eq (tgt := 32) hx hb dX12_refuses_25 (by decide) (fun c_13 => ?_) (fun c_13 => ?_)
      · refine lv_iconst (v := 5) hx hb dX12_refuses_32 (by decide) ?_
        refine W.endD hd0 ?_
        exact W.iret (v := 5) hx hb hr (fun t ht hW => ⟨⟨5, σ, rfl, ⟨hI, rfl, ⟨(fun _ => ((hp_3.2.1) (gl1 (b := 1) (ne_lt (b01_0 hp_3.1) c_5) (by decide)))), (fun _ => ((hp_3.2.2) (gl1 (b := 1) (ne_lt (b01_0 hp_3.1) c_5) (by decide)))), (fun h9 => absurd h9 (Int32.not_le.mpr (show (0 : Int32) < 5 by decide)))⟩⟩, ⟨by rw [ht]; exact hP, hD⟩⟩, hS.F ht⟩) hS.2.2 dX12_refuses_33
      · refine lv_iconst (v := 0) hx hb dX12_refuses_28 (by decide) ?_
        refine lv_goto (tgt := 33) hx hb dX12_refuses_29 (by decide) ?_
        refine W.endD hd0 ?_
        exact W.iret (v := 0) hx hb hr (fun t ht hW => ⟨⟨0, σ, rfl, ⟨hI, rfl, ⟨(fun _ => ((hp_3.2.1) (gl1 (b := 1) (ne_lt (b01_0 hp_3.1) c_5) (by decide)))), (fun _ => ((hp_3.2.2) (gl1 (b := 1) (ne_lt (b01_0 hp_3.1) c_5) (by decide)))), (fun _ => ((hp_12.2) (gl1 (b := 1) (ne_lt (b01_0 hp_12.1) c_13) (by decide))))⟩⟩, ⟨by rw [ht]; exact hP, hD⟩⟩, hS.F ht⟩) hS.2.2 dX12_refuses_33
    · refine lv_iconst (v := 2) hx hb dX12_refuses_17 (by decide) ?_
      refine W.endD hd0 ?_
      exact W.iret (v := 2) hx hb hr (fun t ht hW => ⟨⟨2, σ, rfl, ⟨hI, rfl, ⟨(fun _ => ((hp_3.2.1) (gl1 (b := 1) (ne_lt (b01_0 hp_3.1) c_5) (by decide)))), (fun _ => ((hp_3.2.2) (gl1 (b := 1) (ne_lt (b01_0 hp_3.1) c_5) (by decide)))), (fun h9 => absurd h9 (Int32.not_le.mpr (show (0 : Int32) < 2 by decide)))⟩⟩, ⟨by rw [ht]; exact hP, hD⟩⟩, hS.F ht⟩) hS.2.2 dX12_refuses_18
  · refine lv_iconst (v := 1) hx hb dX12_refuses_8 (by decide) ?_
    refine W.endD hd0 ?_
    exact W.iret (v := 1) hx hb hr (fun t ht hW => ⟨⟨1, σ, rfl, ⟨hI, rfl, ⟨(fun h9 => absurd h9 (Int32.not_le.mpr (show (0 : Int32) < 1 by decide))), (fun h9 => absurd h9 (Int32.not_le.mpr (show (0 : Int32) < 1 by decide))), (fun h9 => absurd h9 (Int32.not_le.mpr (show (0 : Int32) < 1 by decide)))⟩⟩, ⟨by rw [ht]; exact hP, hD⟩⟩, hS.F ht⟩) hS.2.2 dX12_refuses_9
set_option maxHeartbeats 8000000 in
set_option maxRecDepth 100000 in
theorem n_X12_refusesBy (l : Launch) (dC : Nat → ClassId) (dI : Nat → Nat → Nat) (ad : Nat → Nat) (cA : Nat → ClassId) (adK adV : Nat → Nat) (sz : Nat) (σ : gs) (hI : InvM σ) (p0 : Int32) (p1 : Int32) (p2 : Int32) : MetD lw_cs l yX12_refusesBy wsX12_refusesBy ({ frames := 2, cells := 0, slots := 0, locals := 44 }) (va_Pc [.ref (ad 0), .int p0, .int p1, .int p2] (gPre adK adV (dC, dI) (wM ad cA σ) (tM cA) sz)) (va_Qi (fun (r : Int32) (τ : gs) => InvM τ ∧ σ = τ ∧ ((r ≤ 0 → 0 ≤ p0) ∧ (r ≤ 0 → p0 < (σ 0).1 20) ∧ (r ≤ 0 → p1 < (σ 4).1 p0.toNatClampNeg))) (fun τ t => gPost (dC, dI) (va_A (wM ad cA σ) sz) (wM ad cA τ) t) (va_A (wM ad cA σ) sz)) 0 0 (va_A (wM ad cA σ) sz) := by
  refine MetD.ofW (cc := cX12_refusesBy) (maxL := 4) (ret := (some .int)) (by decide) rfl ?_
  intro p e s m args below meth c s₁ B hml hv hd0
  obtain ⟨rfl, hsz, hP, hK, hD0, hT⟩ := hv
  have hx := B.exec
  have hb := B.bytes
  have hr := B.returns
  have hts0 := atoms_spec (ws := wsX12_refusesBy) B.pre
  have hK0 := hK
  have hown0 : s.vm.findClass RX12 = some m.cls := findClass_of_methodNamed B.named
  have hlocks := B.notSynchronized
  subst hsz
  have hD := hD0.self (sz := s.heap.size)
  generalize hAe : va_A (wM ad cA σ) s.heap.size = A at hD hT ⊢
  have hA : ∀ q : Nat, s.heap.size ≤ q → A q := fun q h => by rw [← hAe]; exact Or.inr h
  have hS : va_S A s.heap s.heap [] := va_S.rf
  have hl := lv_entry ([.ref (ad 0), .int p0, .int p1, .int p2]) (n := 4) (Nat.le_of_ble_eq_true rfl)
  rw [lg_entry_eq]
  generalize (lg_sl ([.ref (ad 0), .int p0, .int p1, .int p2]) ++ List.replicate (4 - (lg_sl ([.ref (ad 0), .int p0, .int p1, .int p2])).length) Slot.unset).toArray = ls at hl ⊢
  have hl : lv_has ls 4 [(0, .ref (ad 0)), (1, .int p0), (2, .int p1), (3, .int p2)] := hl
  have hts := dr_words hts0 (s.drawn)
  have hK := gKd hK0 (s.drawn)
  have hown : (s.setDrawn (s.drawn)).vm.findClass RX12 = some m.cls := hown0
  refine lv_aload_n hx hb dX12_refusesBy_0 rfl (lv_at hl 0 rfl) ?_
  refine lv_iload_n hx hb dX12_refusesBy_1 rfl (lv_at hl 1 rfl) ?_
  have hF := gFree hD hS hA
  refine va_calliD hd0 (va_runV_D (As := [.int p0]) (rest := []) ⟨hx, hb, hml, hown, hts⟩ (n_X12_isBond l dC dI ad cA adK adV s.heap.size σ hI p0) (cwV 1 hts gX12_refusesBy_X12_isBond rfl rfl rfl (by decide +kernel) ⟨Nat.le_of_ble_eq_true rfl, Nat.le_of_ble_eq_true rfl⟩) ⟨gBlind, va_recv hK hP (ci := 11) (q0 := 0) rfl (mat_11 rfl), gStart (As := [.ref (ad 0), .int p0]) hP hD hK0 hT hS hF (s.drawn)⟩ rfl rfl hl.1 rfl (lv_room (Nat.le_of_ble_eq_true rfl)) dX12_refusesBy_2 ⟨Nat.le_of_ble_eq_true rfl, Nat.le_of_ble_eq_true rfl⟩) hS (fun q _ h => hF q h) hF (fun r_1 σ1 t H locs ht hvm hw hB hz1 hk1 hS d_2 hd0 => ?_)
  have hts := dr_words hts0 (d_2)
  have hK := gKd hK0 (d_2)
  have hown : (s.setDrawn (d_2)).vm.findClass RX12 = some m.cls := hown0
  obtain ⟨hP, hD⟩ := gBack hF ht hB
  obtain ⟨hIσ1, hro, hp_3⟩ := hw
  subst hro
  have bd_4 := mrd_11_20 (c := 0) hI rfl
  refine lv_if_ne (tgt := 10) hx hb dX12_refusesBy_5 (by decide) (fun c_5 => ?_) (fun c_5 => ?_)
  · refine lv_iload_n hx hb dX12_refusesBy_10 rfl (lv_at hl 2 rfl) ?_
    have hF := gFree (w := []) (hx_D0 (A := A)) hS hA
    have hKe := hK.sub (tys' := []) [] rfl
    refine va_calli (va_runS (As := [.int p1]) (rest := []) ⟨hx, hb, hml, hown, hts⟩ (k_X12_isDate l dC dI H.size p1 ) (va_cwS 1 hts gX12_refusesBy_X12_isDate rfl rfl rfl (by decide +kernel) ⟨Nat.le_of_ble_eq_true rfl, Nat.le_of_ble_eq_true rfl⟩) ⟨fun a U g mk q => by obtain ⟨q0, q1, qP, qK, qD⟩ := q; exact ⟨q0, q1, qP, va_K.moved (u := U) (U := U.calling g mk a) (Vm.Alike.refl U.vm) qK, qD⟩, fun U hU hW => ⟨rfl, by rw [hU], hx_P0, va_K.moved hW.alike hKe, hx_D0⟩⟩ rfl rfl hl.1 rfl (lv_room (Nat.le_of_ble_eq_true rfl)) dX12_refusesBy_11 ⟨Nat.le_of_ble_eq_true rfl, Nat.le_of_ble_eq_true rfl⟩) hS (fun q _ h => hF q h) hF (fun r_6 u t H locs ht hvm hw hB hz1 hk1 hS => ?_)
    have hP := gKeep hP hk1
    have pu_7 : r_6 = f_X12_isDate p1 := hw
    have b0_8 : r_6 = 0 ∨ r_6 = 1 := by rw [pu_7]; exact isDate01 _
    refine lv_if_eq (tgt := 21) hx hb dX12_refusesBy_14 (by decide) (fun c_9 => ?_) (fun c_9 => ?_)
    · refine lv_iconst (v := 2) hx hb dX12_refusesBy_21 (by decide) ?_
      refine W.endD hd0 ?_
      exact W.iret (v := 2) hx hb hr (fun t ht hW => ⟨⟨2, σ, rfl, ⟨hI, rfl, ⟨(fun _ => ((hp_3.2.1) (gl1 (b := 1) (ne_lt (b01_0 hp_3.1) c_5) (by decide)))), (fun _ => ((hp_3.2.2) (gl1 (b := 1) (ne_lt (b01_0 hp_3.1) c_5) (by decide)))), (fun h9 => absurd h9 (Int32.not_le.mpr (show (0 : Int32) < 2 by decide)))⟩⟩, ⟨by rw [ht]; exact hP, hD⟩⟩, hS.F ht⟩) hS.2.2 dX12_refusesBy_22
    · refine lv_iload_n hx hb dX12_refusesBy_17 rfl (lv_at hl 3 rfl) ?_
      refine lv_if_ne (tgt := 23) hx hb dX12_refusesBy_18 (by decide) (fun c_10 => ?_) (fun c_10 => ?_)
      · refine lv_aload_n hx hb dX12_refusesBy_23 rfl (lv_at hl 0 rfl) ?_
        refine lv_iload_n hx hb dX12_refusesBy_24 rfl (lv_at hl 1 rfl) ?_
        refine lv_iload_n hx hb dX12_refusesBy_25 rfl (lv_at hl 2 rfl) ?_
        have hF := gFree hD hS hA
        refine va_calliD hd0 (va_runV_D (As := [.int p0, .int p1]) (rest := []) ⟨hx, hb, hml, hown, hts⟩ (n_X12_isSettle l dC dI ad cA adK adV H.size σ hI p0 p1 ((hp_3.2.1) (gl1 (b := 1) (ne_lt (b01_0 hp_3.1) c_5) (by decide))) (Int32.lt_trans (Int32.lt_of_lt_of_le ((hp_3.2.2) (gl1 (b := 1) (ne_lt (b01_0 hp_3.1) c_5) (by decide))) bd_4.2) (show (4 : Int32) < 8 by decide))) (cwV 2 hts gX12_refusesBy_X12_isSettle rfl rfl rfl (by decide +kernel) ⟨Nat.le_of_ble_eq_true rfl, Nat.le_of_ble_eq_true rfl⟩) ⟨gBlind, va_recv hK hP (ci := 11) (q0 := 0) rfl (mat_11 rfl), gStart (As := [.ref (ad 0), .int p0, .int p1]) hP hD hK0 hT hS hF (d_2)⟩ rfl rfl hl.1 rfl (lv_room (Nat.le_of_ble_eq_true rfl)) dX12_refusesBy_26 ⟨Nat.le_of_ble_eq_true rfl, Nat.le_of_ble_eq_true rfl⟩) hS (fun q _ h => hF q h) hF (fun r_11 σ2 t H locs ht hvm hw hB hz1 hk1 hS d_12 hd0 => ?_)
        have hts := dr_words hts0 (d_12)
        have hK := gKd hK0 (d_12)
        have hown : (s.setDrawn (d_12)).vm.findClass RX12 = some m.cls := hown0
        obtain ⟨hP, hD⟩ := gBack hF ht hB
        obtain ⟨hIσ2, hro, hp_13⟩ := hw
        subst hro
        refine lv_if_eq (tgt := 36) hx hb dX12_refusesBy_29 (by decide) (fun c_14 => ?_) (fun c_14 => ?_)
        · refine lv_iconst (v := 5) hx hb dX12_refusesBy_36 (by decide) ?_
          refine W.endD hd0 ?_
          exact W.iret (v := 5) hx hb hr (fun t ht hW => ⟨⟨5, σ, rfl, ⟨hI, rfl, ⟨(fun _ => ((hp_3.2.1) (gl1 (b := 1) (ne_lt (b01_0 hp_3.1) c_5) (by decide)))), (fun _ => ((hp_3.2.2) (gl1 (b := 1) (ne_lt (b01_0 hp_3.1) c_5) (by decide)))), (fun h9 => absurd h9 (Int32.not_le.mpr (show (0 : Int32) < 5 by decide)))⟩⟩, ⟨by rw [ht]; exact hP, hD⟩⟩, hS.F ht⟩) hS.2.2 dX12_refusesBy_37
        · refine lv_iconst (v := 0) hx hb dX12_refusesBy_32 (by decide) ?_
          refine lv_goto (tgt := 37) hx hb dX12_refusesBy_33 (by decide) ?_
          refine W.endD hd0 ?_
          exact W.iret (v := 0) hx hb hr (fun t ht hW => ⟨⟨0, σ, rfl, ⟨hI, rfl, ⟨(fun _ => ((hp_3.2.1) (gl1 (b := 1) (ne_lt (b01_0 hp_3.1) c_5) (by decide)))), (fun _ => ((hp_3.2.2) (gl1 (b := 1) (ne_lt (b01_0 hp_3.1) c_5) (by decide)))), (fun _ => ((hp_13.2) (gl1 (b := 1) (ne_lt (b01_0 hp_13.1) c_14) (by decide))))⟩⟩, ⟨by rw [ht]; exact hP, hD⟩⟩, hS.F ht⟩) hS.2.2 dX12_refusesBy_37
      · refine lv_iconst (v := 2) hx hb dX12_refusesBy_21 (by decide) ?_
        refine W.endD hd0 ?_
        exact W.iret (v := 2) hx hb hr (fun t ht hW => ⟨⟨2, σ, rfl, ⟨hI, rfl, ⟨(fun _ => ((hp_3.2.1) (gl1 (b := 1) (ne_lt (b01_0 hp_3.1) c_5) (by decide)))), (fun _ => ((hp_3.2.2) (gl1 (b := 1) (ne_lt (b01_0 hp_3.1) c_5) (by decide)))), (fun h9 => absurd h9 (Int32.not_le.mpr (show (0 : Int32) < 2 by decide)))⟩⟩, ⟨by rw [ht]; exact hP, hD⟩⟩, hS.F ht⟩) hS.2.2 dX12_refusesBy_22
  · refine lv_iconst (v := 1) hx hb dX12_refusesBy_8 (by decide) ?_
    refine W.endD hd0 ?_
    exact W.iret (v := 1) hx hb hr (fun t ht hW => ⟨⟨1, σ, rfl, ⟨hI, rfl, ⟨(fun h9 => absurd h9 (Int32.not_le.mpr (show (0 : Int32) < 1 by decide))), (fun h9 => absurd h9 (Int32.not_le.mpr (show (0 : Int32) < 1 by decide))), (fun h9 => absurd h9 (Int32.not_le.mpr (show (0 : Int32) < 1 by decide)))⟩⟩, ⟨by rw [ht]; exact hP, hD⟩⟩, hS.F ht⟩) hS.2.2 dX12_refusesBy_9
set_option maxHeartbeats 8000000 in
set_option maxRecDepth 100000 in
theorem n_X12_businessFrom (l : Launch) (dC : Nat → ClassId) (dI : Nat → Nat → Nat) (ad : Nat → Nat) (cA : Nat → ClassId) (adK adV : Nat → Nat) (sz : Nat) (σ : gs) (hI : InvM σ) (p0 : Int32) (p1 : Int32) : MetD lw_cs l yX12_businessFrom wsX12_businessFrom ({ frames := 5, cells := 0, slots := 0, locals := 110 }) (va_Pc [.ref (ad 0), .int p0, .int p1] (gPre adK adV (dC, dI) (wM ad cA σ) (tM cA) sz)) (va_Qi (fun (r : Int32) (τ : gs) => InvM τ ∧ mFr [] [0, 1, 2] σ τ ∧ (True)) (fun τ t => gPost (dC, dI) (va_A (wM ad cA σ) sz) (wM ad cA τ) t) (va_A (wM ad cA σ) sz)) 0 0 (va_A (wM ad cA σ) sz) := by
  refine MetD.ofW (cc := cX12_businessFrom) (maxL := 3) (ret := (some .int)) (by decide) rfl ?_
  intro p e s m args below meth c s₁ B hml hv hd0
  obtain ⟨rfl, hsz, hP, hK, hD0, hT⟩ := hv
  have hx := B.exec
  have hb := B.bytes
  have hr := B.returns
  have hts0 := atoms_spec (ws := wsX12_businessFrom) B.pre
  have hK0 := hK
  have hown0 : s.vm.findClass RX12 = some m.cls := findClass_of_methodNamed B.named
  have hlocks := B.notSynchronized
  have hinX12 : ∀ w ∈ u_ws RX12 TX12 69, w ∈ wsX12_businessFrom := (fun _ h9 => List.mem_cons_of_mem _ (List.mem_append_right _ h9))
  subst hsz
  have hD := hD0.self (sz := s.heap.size)
  generalize hAe : va_A (wM ad cA σ) s.heap.size = A at hD hT ⊢
  have hA : ∀ q : Nat, s.heap.size ≤ q → A q := fun q h => by rw [← hAe]; exact Or.inr h
  have hS : va_S A s.heap s.heap [] := va_S.rf
  have hl := lv_entry ([.ref (ad 0), .int p0, .int p1]) (n := 3) (Nat.le_of_ble_eq_true rfl)
  rw [lg_entry_eq]
  generalize (lg_sl ([.ref (ad 0), .int p0, .int p1]) ++ List.replicate (3 - (lg_sl ([.ref (ad 0), .int p0, .int p1])).length) Slot.unset).toArray = ls at hl ⊢
  have hl : lv_has ls 3 [(0, .ref (ad 0)), (1, .int p0), (2, .int p1)] := hl
  have hts := dr_words hts0 (s.drawn)
  have hK := gKd hK0 (s.drawn)
  have hown : (s.setDrawn (s.drawn)).vm.findClass RX12 = some m.cls := hown0
  refine lv_aload_n hx hb dX12_businessFrom_0 rfl (lv_at hl 0 rfl) ?_
  refine lv_iconst (v := 0) hx hb dX12_businessFrom_1 (by decide) ?_
  refine va_put (D := (dC, dI)) (ci := 11) (v := .int 0) (C := RX12) (T := TX12) (N := 69) hx hb hts hinX12 tyX12 tyX12_ok nmX12 hown hK hP hD hS 0 (mat_11 rfl) rfl 0 (by decide) (hts (.fieldLink RX12 107 "BondCalendarsModel" "thrown" "I") (by decide +kernel)) (fun _ h9 => h9) rfl (ty := .int) (by decide +kernel) rfl rfl (Nat.le_of_ble_eq_true rfl) dX12_businessFrom_2 (fun H locs hP hD hS => ?_)
  obtain ⟨σ1, eσ1, hP, hD⟩ := gPut (mse_11_0 rfl) hP hD
  have hIσ1 : InvM σ1 := by rw [eσ1]; exact minv_I hI (mok_11_0 rfl _)
  have frσ1 : mFr [] [0, 1, 2] σ σ1 := by rw [eσ1]; exact mFr.oI (mFr.rfl (L := []) (F := [0, 1, 2]) (σ := σ)) (by decide)
  refine lv_iload_n hx hb dX12_businessFrom_5 rfl (lv_at hl 1 rfl) ?_
  have hF := gFree (w := []) (hx_D0 (A := A)) hS hA
  have hKe := hK.sub (tys' := []) [] rfl
  refine va_calli (va_runS (As := [.int p0]) (rest := []) ⟨hx, hb, hml, hown, hts⟩ (k_X12_isDate l dC dI H.size p0 ) (va_cwS 1 hts gX12_businessFrom_X12_isDate rfl rfl rfl (by decide +kernel) ⟨Nat.le_of_ble_eq_true rfl, Nat.le_of_ble_eq_true rfl⟩) ⟨fun a U g mk q => by obtain ⟨q0, q1, qP, qK, qD⟩ := q; exact ⟨q0, q1, qP, va_K.moved (u := U) (U := U.calling g mk a) (Vm.Alike.refl U.vm) qK, qD⟩, fun U hU hW => ⟨rfl, by rw [hU], hx_P0, va_K.moved hW.alike hKe, hx_D0⟩⟩ rfl rfl hl.1 rfl (lv_room (Nat.le_of_ble_eq_true rfl)) dX12_businessFrom_6 ⟨Nat.le_of_ble_eq_true rfl, Nat.le_of_ble_eq_true rfl⟩) hS (fun q _ h => hF q h) hF (fun r_1 u t H locs ht hvm hw hB hz1 hk1 hS => ?_)
  have hP := gKeep hP hk1
  have pu_2 : r_1 = f_X12_isDate p0 := hw
  have b0_3 : r_1 = 0 ∨ r_1 = 1 := by rw [pu_2]; exact isDate01 _
  refine lv_if_eq (tgt := 23) hx hb dX12_businessFrom_9 (by decide) (fun c_4 => ?_) (fun c_4 => ?_)
  · refine lv_aload_n hx hb dX12_businessFrom_23 rfl (lv_at hl 0 rfl) ?_
    refine lv_iconst (v := 2) hx hb dX12_businessFrom_24 (by decide) ?_
    have hF := gFree hD hS hA
    refine va_calliD hd0 (va_runV_D (As := [.int 2]) (rest := []) ⟨hx, hb, hml, hown, hts⟩ (n_X12_refused l dC dI ad cA adK adV H.size σ1 hIσ1 2) (cwV 1 hts gX12_businessFrom_X12_refused rfl rfl rfl (by decide +kernel) ⟨Nat.le_of_ble_eq_true rfl, Nat.le_of_ble_eq_true rfl⟩) ⟨gBlind, va_recv hK hP (ci := 11) (q0 := 0) rfl (mat_11 rfl), gStart (As := [.ref (ad 0), .int 2]) hP hD hK0 hT hS hF (s.drawn)⟩ rfl rfl hl.1 rfl (lv_room (Nat.le_of_ble_eq_true rfl)) dX12_businessFrom_25 ⟨Nat.le_of_ble_eq_true rfl, Nat.le_of_ble_eq_true rfl⟩) hS (fun q _ h => hF q h) hF (fun r_5 σ2 t H locs ht hvm hw hB hz1 hk1 hS d_6 hd0 => ?_)
    have hts := dr_words hts0 (d_6)
    have hK := gKd hK0 (d_6)
    have hown : (s.setDrawn (d_6)).vm.findClass RX12 = some m.cls := hown0
    obtain ⟨hP, hD⟩ := gBack hF ht hB
    obtain ⟨hIσ2, fcσ2, hp_7⟩ := hw
    refine W.endD hd0 ?_
    exact W.iret (v := r_5) hx hb hr (fun t ht hW => ⟨⟨r_5, σ2, rfl, ⟨hIσ2, (mFr.tr frσ1 fcσ2 (by decide) (by decide)), trivial⟩, ⟨by rw [ht]; exact hP, hD⟩⟩, hS.F ht⟩) hS.2.2 dX12_businessFrom_28
  · refine lv_iload_n hx hb dX12_businessFrom_12 rfl (lv_at hl 2 rfl) ?_
    refine lv_bipush (v := (-60)) hx hb dX12_businessFrom_13 (by decide) ?_
    refine lv_bipush (v := 60) hx hb dX12_businessFrom_15 (by decide) ?_
    have hF := gFree (w := []) (hx_D0 (A := A)) hS hA
    have hKe := hK.sub (tys' := []) [] rfl
    refine va_calli (va_runS (As := [.int p1, .int (-60), .int 60]) (rest := []) ⟨hx, hb, hml, hown, hts⟩ (k_X12_in l dC dI H.size p1 (-60) 60 ) (va_cwS 3 hts gX12_businessFrom_X12_in rfl rfl rfl (by decide +kernel) ⟨Nat.le_of_ble_eq_true rfl, Nat.le_of_ble_eq_true rfl⟩) ⟨fun a U g mk q => by obtain ⟨q0, q1, qP, qK, qD⟩ := q; exact ⟨q0, q1, qP, va_K.moved (u := U) (U := U.calling g mk a) (Vm.Alike.refl U.vm) qK, qD⟩, fun U hU hW => ⟨rfl, by rw [hU], hx_P0, va_K.moved hW.alike hKe, hx_D0⟩⟩ rfl rfl hl.1 rfl (lv_room (Nat.le_of_ble_eq_true rfl)) dX12_businessFrom_17 ⟨Nat.le_of_ble_eq_true rfl, Nat.le_of_ble_eq_true rfl⟩) hS (fun q _ h => hF q h) hF (fun r_8 u t H locs ht hvm hw hB hz1 hk1 hS => ?_)
    have hP := gKeep hP hk1
    have in_9 : r_8 = f_X12_in p1 (-60) 60 := hw
    have bin_9 : r_8 = 0 ∨ r_8 = 1 := by rw [in_9]; exact in01 _ _ _
    refine lv_if_ne (tgt := 29) hx hb dX12_businessFrom_20 (by decide) (fun c_10 => ?_) (fun c_10 => ?_)
    · refine lv_aload_n hx hb dX12_businessFrom_29 rfl (lv_at hl 0 rfl) ?_
      refine lv_aload_n hx hb dX12_businessFrom_30 rfl (lv_at hl 0 rfl) ?_
      refine lv_iload_n hx hb dX12_businessFrom_31 rfl (lv_at hl 1 rfl) ?_
      have hF := gFree (w := []) (hx_D0 (A := A)) hS hA
      have hKe := hK.sub (tys' := []) [] rfl
      refine va_calli (va_runS (As := [.int p0]) (rest := [.ref (ad 0), .ref (ad 0)]) ⟨hx, hb, hml, hown, hts⟩ (k_X12_dayOf l dC dI H.size p0 ) (va_cwS 1 hts gX12_businessFrom_X12_dayOf rfl rfl rfl (by decide +kernel) ⟨Nat.le_of_ble_eq_true rfl, Nat.le_of_ble_eq_true rfl⟩) ⟨fun a U g mk q => by obtain ⟨q0, q1, qP, qK, qD⟩ := q; exact ⟨q0, q1, qP, va_K.moved (u := U) (U := U.calling g mk a) (Vm.Alike.refl U.vm) qK, qD⟩, fun U hU hW => ⟨rfl, by rw [hU], hx_P0, va_K.moved hW.alike hKe, hx_D0⟩⟩ rfl rfl hl.1 rfl (lv_room (Nat.le_of_ble_eq_true rfl)) dX12_businessFrom_32 ⟨Nat.le_of_ble_eq_true rfl, Nat.le_of_ble_eq_true rfl⟩) hS (fun q _ h => hF q h) hF (fun r_11 u t H locs ht hvm hw hB hz1 hk1 hS => ?_)
      have hP := gKeep hP hk1
      have pu_12 : r_11 = f_X12_dayOf p0 := hw
      refine lv_iload_n hx hb dX12_businessFrom_35 rfl (lv_at hl 2 rfl) ?_
      have hF := gFree hD hS hA
      refine va_calliD hd0 (va_runV_D (As := [.int r_11, .int p1]) (rest := [.ref (ad 0)]) ⟨hx, hb, hml, hown, hts⟩ (n_X12_businessAfter l dC dI ad cA adK adV H.size σ1 hIσ1 r_11 p1 (Int32.le_of_lt (Int32.lt_of_lt_of_le (show ((-1000000) : Int32) < 723120 by decide) (day_lo pu_12 (one_le pu_2 b0_3 c_4)))) (Int32.le_of_lt (Int32.lt_of_le_of_lt (day_hi pu_12 (one_le pu_2 b0_3 c_4)) (show (759644 : Int32) < 5000000 by decide))) (in_of in_9 c_10).1 (in_of in_9 c_10).2) (cwV 2 hts gX12_businessFrom_X12_businessAfter rfl rfl rfl (by decide +kernel) ⟨Nat.le_of_ble_eq_true rfl, Nat.le_of_ble_eq_true rfl⟩) ⟨gBlind, va_recv hK hP (ci := 11) (q0 := 0) rfl (mat_11 rfl), gStart (As := [.ref (ad 0), .int r_11, .int p1]) hP hD hK0 hT hS hF (s.drawn)⟩ rfl rfl hl.1 rfl (lv_room (Nat.le_of_ble_eq_true rfl)) dX12_businessFrom_36 ⟨Nat.le_of_ble_eq_true rfl, Nat.le_of_ble_eq_true rfl⟩) hS (fun q _ h => hF q h) hF (fun r_13 σ3 t H locs ht hvm hw hB hz1 hk1 hS d_14 hd0 => ?_)
      have hts := dr_words hts0 (d_14)
      have hK := gKd hK0 (d_14)
      have hown : (s.setDrawn (d_14)).vm.findClass RX12 = some m.cls := hown0
      obtain ⟨hP, hD⟩ := gBack hF ht hB
      obtain ⟨hIσ3, hro, hp_15⟩ := hw
      subst hro
      have hF := gFree hD hS hA
      refine va_calliD hd0 (va_runS_D (As := [.int r_13]) (rest := [.ref (ad 0)]) ⟨hx, hb, hml, hown, hts⟩ (n_X12_dateOf l dC dI ad cA adK adV H.size σ1 hIσ1 r_13 (Int32.le_of_lt (Int32.lt_of_lt_of_le (show ((-1000000) : Int32) < (-212) by decide) (nr_lo (a := 0) (Int32.le_of_lt (Int32.lt_of_lt_of_le (show (0 : Int32) < 723120 by decide) (day_lo pu_12 (one_le pu_2 b0_3 c_4)))) hp_15 (by decide))))) (va_cwS 1 hts gX12_businessFrom_X12_dateOf rfl rfl rfl (by decide +kernel) ⟨Nat.le_of_ble_eq_true rfl, Nat.le_of_ble_eq_true rfl⟩) ⟨gBlind, gStart (As := [.int r_13]) hP hD hK0 hT hS hF (d_14)⟩ rfl rfl hl.1 rfl (lv_room (Nat.le_of_ble_eq_true rfl)) dX12_businessFrom_39 ⟨Nat.le_of_ble_eq_true rfl, Nat.le_of_ble_eq_true rfl⟩) hS (fun q _ h => hF q h) hF (fun r_16 σ4 t H locs ht hvm hw hB hz1 hk1 hS d_17 hd0 => ?_)
      have hts := dr_words hts0 (d_17)
      have hK := gKd hK0 (d_17)
      have hown : (s.setDrawn (d_17)).vm.findClass RX12 = some m.cls := hown0
      obtain ⟨hP, hD⟩ := gBack hF ht hB
      obtain ⟨hIσ4, hro, hp_18⟩ := hw
      subst hro
      have hF := gFree hD hS hA
      refine va_calliD hd0 (va_runV_D (As := [.int r_16]) (rest := []) ⟨hx, hb, hml, hown, hts⟩ (n_X12_good l dC dI ad cA adK adV H.size σ1 hIσ1 r_16) (cwV 1 hts gX12_businessFrom_X12_good rfl rfl rfl (by decide +kernel) ⟨Nat.le_of_ble_eq_true rfl, Nat.le_of_ble_eq_true rfl⟩) ⟨gBlind, va_recv hK hP (ci := 11) (q0 := 0) rfl (mat_11 rfl), gStart (As := [.ref (ad 0), .int r_16]) hP hD hK0 hT hS hF (d_17)⟩ rfl rfl hl.1 rfl (lv_room (Nat.le_of_ble_eq_true rfl)) dX12_businessFrom_42 ⟨Nat.le_of_ble_eq_true rfl, Nat.le_of_ble_eq_true rfl⟩) hS (fun q _ h => hF q h) hF (fun r_19 σ5 t H locs ht hvm hw hB hz1 hk1 hS d_20 hd0 => ?_)
      have hts := dr_words hts0 (d_20)
      have hK := gKd hK0 (d_20)
      have hown : (s.setDrawn (d_20)).vm.findClass RX12 = some m.cls := hown0
      obtain ⟨hP, hD⟩ := gBack hF ht hB
      obtain ⟨hIσ5, fcσ5, hp_21⟩ := hw
      refine W.endD hd0 ?_
      exact W.iret (v := r_19) hx hb hr (fun t ht hW => ⟨⟨r_19, σ5, rfl, ⟨hIσ5, (mFr.tr frσ1 fcσ5 (by decide) (by decide)), trivial⟩, ⟨by rw [ht]; exact hP, hD⟩⟩, hS.F ht⟩) hS.2.2 dX12_businessFrom_45
    · refine lv_aload_n hx hb dX12_businessFrom_23 rfl (lv_at hl 0 rfl) ?_
      refine lv_iconst (v := 2) hx hb dX12_businessFrom_24 (by decide) ?_
      have hF := gFree hD hS hA
      refine va_calliD hd0 (va_runV_D (As := [.int 2]) (rest := []) ⟨hx, hb, hml, hown, hts⟩ (n_X12_refused l dC dI ad cA adK adV H.size σ1 hIσ1 2) (cwV 1 hts gX12_businessFrom_X12_refused rfl rfl rfl (by decide +kernel) ⟨Nat.le_of_ble_eq_true rfl, Nat.le_of_ble_eq_true rfl⟩) ⟨gBlind, va_recv hK hP (ci := 11) (q0 := 0) rfl (mat_11 rfl), gStart (As := [.ref (ad 0), .int 2]) hP hD hK0 hT hS hF (s.drawn)⟩ rfl rfl hl.1 rfl (lv_room (Nat.le_of_ble_eq_true rfl)) dX12_businessFrom_25 ⟨Nat.le_of_ble_eq_true rfl, Nat.le_of_ble_eq_true rfl⟩) hS (fun q _ h => hF q h) hF (fun r_22 σ6 t H locs ht hvm hw hB hz1 hk1 hS d_23 hd0 => ?_)
      have hts := dr_words hts0 (d_23)
      have hK := gKd hK0 (d_23)
      have hown : (s.setDrawn (d_23)).vm.findClass RX12 = some m.cls := hown0
      obtain ⟨hP, hD⟩ := gBack hF ht hB
      obtain ⟨hIσ6, fcσ6, hp_24⟩ := hw
      refine W.endD hd0 ?_
      exact W.iret (v := r_22) hx hb hr (fun t ht hW => ⟨⟨r_22, σ6, rfl, ⟨hIσ6, (mFr.tr frσ1 fcσ6 (by decide) (by decide)), trivial⟩, ⟨by rw [ht]; exact hP, hD⟩⟩, hS.F ht⟩) hS.2.2 dX12_businessFrom_28
set_option maxHeartbeats 8000000 in
set_option maxRecDepth 100000 in
theorem n_X12_counted (l : Launch) (dC : Nat → ClassId) (dI : Nat → Nat → Nat) (ad : Nat → Nat) (cA : Nat → ClassId) (adK adV : Nat → Nat) (sz : Nat) (σ : gs) (hI : InvM σ) (p0 : Int32) (p1 : Int32) (p2 : Int32) (p3 : Int32) : MetD lw_cs l yX12_counted wsX12_counted ({ frames := 3, cells := 0, slots := 0, locals := 79 }) (va_Pc [.ref (ad 0), .int p0, .int p1, .int p2, .int p3] (gPre adK adV (dC, dI) (wM ad cA σ) (tM cA) sz)) (va_Ql (fun (r : Int64) (τ : gs) => InvM τ ∧ mFr [] [0, 1, 2] σ τ ∧ (True)) (fun τ t => gPost (dC, dI) (va_A (wM ad cA σ) sz) (wM ad cA τ) t) (va_A (wM ad cA σ) sz)) 0 0 (va_A (wM ad cA σ) sz) := by
  refine MetD.ofW (cc := cX12_counted) (maxL := 5) (ret := (some .long)) (by decide) rfl ?_
  intro p e s m args below meth c s₁ B hml hv hd0
  obtain ⟨rfl, hsz, hP, hK, hD0, hT⟩ := hv
  have hx := B.exec
  have hb := B.bytes
  have hr := B.returns
  have hts0 := atoms_spec (ws := wsX12_counted) B.pre
  have hK0 := hK
  have hown0 : s.vm.findClass RX12 = some m.cls := findClass_of_methodNamed B.named
  have hlocks := B.notSynchronized
  have hinX12 : ∀ w ∈ u_ws RX12 TX12 69, w ∈ wsX12_counted := (fun _ h9 => List.mem_cons_of_mem _ (List.mem_append_right _ h9))
  subst hsz
  have hD := hD0.self (sz := s.heap.size)
  generalize hAe : va_A (wM ad cA σ) s.heap.size = A at hD hT ⊢
  have hA : ∀ q : Nat, s.heap.size ≤ q → A q := fun q h => by rw [← hAe]; exact Or.inr h
  have hS : va_S A s.heap s.heap [] := va_S.rf
  have hl := lv_entry ([.ref (ad 0), .int p0, .int p1, .int p2, .int p3]) (n := 5) (Nat.le_of_ble_eq_true rfl)
  rw [lg_entry_eq]
  generalize (lg_sl ([.ref (ad 0), .int p0, .int p1, .int p2, .int p3]) ++ List.replicate (5 - (lg_sl ([.ref (ad 0), .int p0, .int p1, .int p2, .int p3])).length) Slot.unset).toArray = ls at hl ⊢
  have hl : lv_has ls 5 [(0, .ref (ad 0)), (1, .int p0), (2, .int p1), (3, .int p2), (4, .int p3)] := hl
  have hts := dr_words hts0 (s.drawn)
  have hK := gKd hK0 (s.drawn)
  have hown : (s.setDrawn (s.drawn)).vm.findClass RX12 = some m.cls := hown0
  refine lv_aload_n hx hb dX12_counted_0 rfl (lv_at hl 0 rfl) ?_
  refine lv_iconst (v := 0) hx hb dX12_counted_1 (by decide) ?_
  refine va_put (D := (dC, dI)) (ci := 11) (v := .int 0) (C := RX12) (T := TX12) (N := 69) hx hb hts hinX12 tyX12 tyX12_ok nmX12 hown hK hP hD hS 0 (mat_11 rfl) rfl 0 (by decide) (hts (.fieldLink RX12 107 "BondCalendarsModel" "thrown" "I") (by decide +kernel)) (fun _ h9 => h9) rfl (ty := .int) (by decide +kernel) rfl rfl (Nat.le_of_ble_eq_true rfl) dX12_counted_2 (fun H locs hP hD hS => ?_)
  obtain ⟨σ1, eσ1, hP, hD⟩ := gPut (mse_11_0 rfl) hP hD
  have hIσ1 : InvM σ1 := by rw [eσ1]; exact minv_I hI (mok_11_0 rfl _)
  have frσ1 : mFr [] [0, 1, 2] σ σ1 := by rw [eσ1]; exact mFr.oI (mFr.rfl (L := []) (F := [0, 1, 2]) (σ := σ)) (by decide)
  refine lv_iload_n hx hb dX12_counted_5 rfl (lv_at hl 1 rfl) ?_
  refine lv_iconst (v := 0) hx hb dX12_counted_6 (by decide) ?_
  refine lv_iconst (v := 3) hx hb dX12_counted_7 (by decide) ?_
  have hF := gFree (w := []) (hx_D0 (A := A)) hS hA
  have hKe := hK.sub (tys' := []) [] rfl
  refine va_calli (va_runS (As := [.int p0, .int 0, .int 3]) (rest := []) ⟨hx, hb, hml, hown, hts⟩ (k_X12_in l dC dI H.size p0 0 3 ) (va_cwS 3 hts gX12_counted_X12_in rfl rfl rfl (by decide +kernel) ⟨Nat.le_of_ble_eq_true rfl, Nat.le_of_ble_eq_true rfl⟩) ⟨fun a U g mk q => by obtain ⟨q0, q1, qP, qK, qD⟩ := q; exact ⟨q0, q1, qP, va_K.moved (u := U) (U := U.calling g mk a) (Vm.Alike.refl U.vm) qK, qD⟩, fun U hU hW => ⟨rfl, by rw [hU], hx_P0, va_K.moved hW.alike hKe, hx_D0⟩⟩ rfl rfl hl.1 rfl (lv_room (Nat.le_of_ble_eq_true rfl)) dX12_counted_8 ⟨Nat.le_of_ble_eq_true rfl, Nat.le_of_ble_eq_true rfl⟩) hS (fun q _ h => hF q h) hF (fun r_1 u t H locs ht hvm hw hB hz1 hk1 hS => ?_)
  have hP := gKeep hP hk1
  have in_2 : r_1 = f_X12_in p0 0 3 := hw
  have bin_2 : r_1 = 0 ∨ r_1 = 1 := by rw [in_2]; exact in01 _ _ _
  refine lv_if_ne (tgt := 23) hx hb dX12_counted_11 (by decide) (fun c_3 => ?_) (fun c_3 => ?_)
  · refine lv_iload_n hx hb dX12_counted_23 rfl (lv_at hl 2 rfl) ?_
    have hF := gFree (w := []) (hx_D0 (A := A)) hS hA
    have hKe := hK.sub (tys' := []) [] rfl
    refine va_calli (va_runS (As := [.int p1]) (rest := []) ⟨hx, hb, hml, hown, hts⟩ (k_X12_isDate l dC dI H.size p1 ) (va_cwS 1 hts gX12_counted_X12_isDate rfl rfl rfl (by decide +kernel) ⟨Nat.le_of_ble_eq_true rfl, Nat.le_of_ble_eq_true rfl⟩) ⟨fun a U g mk q => by obtain ⟨q0, q1, qP, qK, qD⟩ := q; exact ⟨q0, q1, qP, va_K.moved (u := U) (U := U.calling g mk a) (Vm.Alike.refl U.vm) qK, qD⟩, fun U hU hW => ⟨rfl, by rw [hU], hx_P0, va_K.moved hW.alike hKe, hx_D0⟩⟩ rfl rfl hl.1 rfl (lv_room (Nat.le_of_ble_eq_true rfl)) dX12_counted_24 ⟨Nat.le_of_ble_eq_true rfl, Nat.le_of_ble_eq_true rfl⟩) hS (fun q _ h => hF q h) hF (fun r_4 u t H locs ht hvm hw hB hz1 hk1 hS => ?_)
    have hP := gKeep hP hk1
    have pu_5 : r_4 = f_X12_isDate p1 := hw
    have b0_6 : r_4 = 0 ∨ r_4 = 1 := by rw [pu_5]; exact isDate01 _
    refine lv_if_eq (tgt := 42) hx hb dX12_counted_27 (by decide) (fun c_7 => ?_) (fun c_7 => ?_)
    · refine lv_aload_n hx hb dX12_counted_42 rfl (lv_at hl 0 rfl) ?_
      refine lv_iconst (v := 2) hx hb dX12_counted_43 (by decide) ?_
      refine lv_ldc2 (v := (-1)) hx hb hown (hts (.constantLong RX12 428 (-1)) (by decide +kernel)) dX12_counted_44 ?_
      have hF := gFree hD hS hA
      refine va_calllD hd0 (va_runV_D (As := [.int 2, .long (-1)]) (rest := []) ⟨hx, hb, hml, hown, hts⟩ (n_X12_refusedLong l dC dI ad cA adK adV H.size σ1 hIσ1 2 (-1)) (cwV 2 hts gX12_counted_X12_refusedLong rfl rfl rfl (by decide +kernel) ⟨Nat.le_of_ble_eq_true rfl, Nat.le_of_ble_eq_true rfl⟩) ⟨gBlind, va_recv hK hP (ci := 11) (q0 := 0) rfl (mat_11 rfl), gStart (As := [.ref (ad 0), .int 2, .long (-1)]) hP hD hK0 hT hS hF (s.drawn)⟩ rfl rfl hl.1 rfl (lv_room (Nat.le_of_ble_eq_true rfl)) dX12_counted_47 ⟨Nat.le_of_ble_eq_true rfl, Nat.le_of_ble_eq_true rfl⟩) hS (fun q _ h => hF q h) hF (fun r_8 σ2 t H locs ht hvm hw hB hz1 hk1 hS d_9 hd0 => ?_)
      have hts := dr_words hts0 (d_9)
      have hK := gKd hK0 (d_9)
      have hown : (s.setDrawn (d_9)).vm.findClass RX12 = some m.cls := hown0
      obtain ⟨hP, hD⟩ := gBack hF ht hB
      obtain ⟨hIσ2, fcσ2, hp_10⟩ := hw
      refine W.endD hd0 ?_
      exact W.lret (v := r_8) hx hb hr (fun t ht hW => ⟨⟨r_8, σ2, rfl, ⟨hIσ2, (mFr.tr frσ1 fcσ2 (by decide) (by decide)), trivial⟩, ⟨by rw [ht]; exact hP, hD⟩⟩, hS.F ht⟩) hS.2.2 dX12_counted_50
    · refine lv_iload_n hx hb dX12_counted_30 rfl (lv_at hl 3 rfl) ?_
      have hF := gFree (w := []) (hx_D0 (A := A)) hS hA
      have hKe := hK.sub (tys' := []) [] rfl
      refine va_calli (va_runS (As := [.int p2]) (rest := []) ⟨hx, hb, hml, hown, hts⟩ (k_X12_isDate l dC dI H.size p2 ) (va_cwS 1 hts gX12_counted_X12_isDate rfl rfl rfl (by decide +kernel) ⟨Nat.le_of_ble_eq_true rfl, Nat.le_of_ble_eq_true rfl⟩) ⟨fun a U g mk q => by obtain ⟨q0, q1, qP, qK, qD⟩ := q; exact ⟨q0, q1, qP, va_K.moved (u := U) (U := U.calling g mk a) (Vm.Alike.refl U.vm) qK, qD⟩, fun U hU hW => ⟨rfl, by rw [hU], hx_P0, va_K.moved hW.alike hKe, hx_D0⟩⟩ rfl rfl hl.1 rfl (lv_room (Nat.le_of_ble_eq_true rfl)) dX12_counted_31 ⟨Nat.le_of_ble_eq_true rfl, Nat.le_of_ble_eq_true rfl⟩) hS (fun q _ h => hF q h) hF (fun r_11 u t H locs ht hvm hw hB hz1 hk1 hS => ?_)
      have hP := gKeep hP hk1
      have pu_12 : r_11 = f_X12_isDate p2 := hw
      have b0_13 : r_11 = 0 ∨ r_11 = 1 := by rw [pu_12]; exact isDate01 _
      refine lv_if_eq (tgt := 42) hx hb dX12_counted_34 (by decide) (fun c_14 => ?_) (fun c_14 => ?_)
      · refine lv_aload_n hx hb dX12_counted_42 rfl (lv_at hl 0 rfl) ?_
        refine lv_iconst (v := 2) hx hb dX12_counted_43 (by decide) ?_
        refine lv_ldc2 (v := (-1)) hx hb hown (hts (.constantLong RX12 428 (-1)) (by decide +kernel)) dX12_counted_44 ?_
        have hF := gFree hD hS hA
        refine va_calllD hd0 (va_runV_D (As := [.int 2, .long (-1)]) (rest := []) ⟨hx, hb, hml, hown, hts⟩ (n_X12_refusedLong l dC dI ad cA adK adV H.size σ1 hIσ1 2 (-1)) (cwV 2 hts gX12_counted_X12_refusedLong rfl rfl rfl (by decide +kernel) ⟨Nat.le_of_ble_eq_true rfl, Nat.le_of_ble_eq_true rfl⟩) ⟨gBlind, va_recv hK hP (ci := 11) (q0 := 0) rfl (mat_11 rfl), gStart (As := [.ref (ad 0), .int 2, .long (-1)]) hP hD hK0 hT hS hF (s.drawn)⟩ rfl rfl hl.1 rfl (lv_room (Nat.le_of_ble_eq_true rfl)) dX12_counted_47 ⟨Nat.le_of_ble_eq_true rfl, Nat.le_of_ble_eq_true rfl⟩) hS (fun q _ h => hF q h) hF (fun r_15 σ3 t H locs ht hvm hw hB hz1 hk1 hS d_16 hd0 => ?_)
        have hts := dr_words hts0 (d_16)
        have hK := gKd hK0 (d_16)
        have hown : (s.setDrawn (d_16)).vm.findClass RX12 = some m.cls := hown0
        obtain ⟨hP, hD⟩ := gBack hF ht hB
        obtain ⟨hIσ3, fcσ3, hp_17⟩ := hw
        refine W.endD hd0 ?_
        exact W.lret (v := r_15) hx hb hr (fun t ht hW => ⟨⟨r_15, σ3, rfl, ⟨hIσ3, (mFr.tr frσ1 fcσ3 (by decide) (by decide)), trivial⟩, ⟨by rw [ht]; exact hP, hD⟩⟩, hS.F ht⟩) hS.2.2 dX12_counted_50
      · refine lv_iload_n hx hb dX12_counted_37 rfl (lv_at hl 3 rfl) ?_
        refine lv_iload_n hx hb dX12_counted_38 rfl (lv_at hl 2 rfl) ?_
        refine lv_icmp_ge (tgt := 51) hx hb dX12_counted_39 (by decide) (fun c_18 => ?_) (fun c_18 => ?_)
        · refine lv_aload_n hx hb dX12_counted_51 rfl (lv_at hl 0 rfl) ?_
          refine lv_iload_n hx hb dX12_counted_52 rfl (lv_at hl 1 rfl) ?_
          refine lv_iload_n hx hb dX12_counted_53 rfl (lv_at hl 2 rfl) ?_
          refine lv_iload_n hx hb dX12_counted_54 rfl (lv_at hl 3 rfl) ?_
          have hF := gFree hD hS hA
          refine va_callvD hd0 (va_runV_D (As := [.int p0, .int p1, .int p2]) (rest := []) ⟨hx, hb, hml, hown, hts⟩ (n_X12_countsPlain2 l dC dI ad cA adK adV H.size σ1 hIσ1 p0 p1 p2) (cwV 3 hts gX12_counted_X12_countsPlain rfl rfl rfl (by decide +kernel) ⟨Nat.le_of_ble_eq_true rfl, Nat.le_of_ble_eq_true rfl⟩) ⟨gBlind, va_recv hK hP (ci := 11) (q0 := 0) rfl (mat_11 rfl), gStart (As := [.ref (ad 0), .int p0, .int p1, .int p2]) hP hD hK0 hT hS hF (s.drawn)⟩ rfl rfl hl.1 rfl (lv_room (Nat.le_of_ble_eq_true rfl)) dX12_counted_55 ⟨Nat.le_of_ble_eq_true rfl, Nat.le_of_ble_eq_true rfl⟩) hS (fun q _ h => hF q h) hF (fun σ4 t H locs ht hvm hw hB hz1 hk1 hS d_20 hd0 => ?_)
          have hts := dr_words hts0 (d_20)
          have hK := gKd hK0 (d_20)
          have hown : (s.setDrawn (d_20)).vm.findClass RX12 = some m.cls := hown0
          obtain ⟨hP, hD⟩ := gBack hF ht hB
          obtain ⟨hIσ4, fcσ4, hp_21⟩ := hw
          refine lv_aload_n hx hb dX12_counted_58 rfl (lv_at hl 0 rfl) ?_
          refine lv_iload hx hb dX12_counted_59 (lv_at hl 4 rfl) ?_
          have hF := gFree hD hS hA
          refine va_calllD hd0 (va_runV_D (As := [.int p3]) (rest := []) ⟨hx, hb, hml, hown, hts⟩ (n_X12_part l dC dI ad cA adK adV H.size σ4 hIσ4 p3) (cwV 1 hts gX12_counted_X12_part rfl rfl rfl (by decide +kernel) ⟨Nat.le_of_ble_eq_true rfl, Nat.le_of_ble_eq_true rfl⟩) ⟨gBlind, va_recv hK hP (ci := 11) (q0 := 0) rfl (mat_11 rfl), gStart (As := [.ref (ad 0), .int p3]) hP hD hK0 hT hS hF (d_20)⟩ rfl rfl hl.1 rfl (lv_room (Nat.le_of_ble_eq_true rfl)) dX12_counted_61 ⟨Nat.le_of_ble_eq_true rfl, Nat.le_of_ble_eq_true rfl⟩) hS (fun q _ h => hF q h) hF (fun r_22 σ5 t H locs ht hvm hw hB hz1 hk1 hS d_23 hd0 => ?_)
          have hts := dr_words hts0 (d_23)
          have hK := gKd hK0 (d_23)
          have hown : (s.setDrawn (d_23)).vm.findClass RX12 = some m.cls := hown0
          obtain ⟨hP, hD⟩ := gBack hF ht hB
          obtain ⟨hIσ5, fcσ5, hp_24⟩ := hw
          refine W.endD hd0 ?_
          exact W.lret (v := r_22) hx hb hr (fun t ht hW => ⟨⟨r_22, σ5, rfl, ⟨hIσ5, (mFr.tr (mFr.tr frσ1 fcσ4 (by decide) (by decide)) fcσ5 (by decide) (by decide)), trivial⟩, ⟨by rw [ht]; exact hP, hD⟩⟩, hS.F ht⟩) hS.2.2 dX12_counted_64
        · refine lv_aload_n hx hb dX12_counted_42 rfl (lv_at hl 0 rfl) ?_
          refine lv_iconst (v := 2) hx hb dX12_counted_43 (by decide) ?_
          refine lv_ldc2 (v := (-1)) hx hb hown (hts (.constantLong RX12 428 (-1)) (by decide +kernel)) dX12_counted_44 ?_
          have hF := gFree hD hS hA
          refine va_calllD hd0 (va_runV_D (As := [.int 2, .long (-1)]) (rest := []) ⟨hx, hb, hml, hown, hts⟩ (n_X12_refusedLong l dC dI ad cA adK adV H.size σ1 hIσ1 2 (-1)) (cwV 2 hts gX12_counted_X12_refusedLong rfl rfl rfl (by decide +kernel) ⟨Nat.le_of_ble_eq_true rfl, Nat.le_of_ble_eq_true rfl⟩) ⟨gBlind, va_recv hK hP (ci := 11) (q0 := 0) rfl (mat_11 rfl), gStart (As := [.ref (ad 0), .int 2, .long (-1)]) hP hD hK0 hT hS hF (s.drawn)⟩ rfl rfl hl.1 rfl (lv_room (Nat.le_of_ble_eq_true rfl)) dX12_counted_47 ⟨Nat.le_of_ble_eq_true rfl, Nat.le_of_ble_eq_true rfl⟩) hS (fun q _ h => hF q h) hF (fun r_25 σ6 t H locs ht hvm hw hB hz1 hk1 hS d_26 hd0 => ?_)
          have hts := dr_words hts0 (d_26)
          have hK := gKd hK0 (d_26)
          have hown : (s.setDrawn (d_26)).vm.findClass RX12 = some m.cls := hown0
          obtain ⟨hP, hD⟩ := gBack hF ht hB
          obtain ⟨hIσ6, fcσ6, hp_27⟩ := hw
          refine W.endD hd0 ?_
          exact W.lret (v := r_25) hx hb hr (fun t ht hW => ⟨⟨r_25, σ6, rfl, ⟨hIσ6, (mFr.tr frσ1 fcσ6 (by decide) (by decide)), trivial⟩, ⟨by rw [ht]; exact hP, hD⟩⟩, hS.F ht⟩) hS.2.2 dX12_counted_50
  · refine lv_aload_n hx hb dX12_counted_14 rfl (lv_at hl 0 rfl) ?_
    refine lv_iconst (v := 1) hx hb dX12_counted_15 (by decide) ?_
    refine lv_ldc2 (v := (-1)) hx hb hown (hts (.constantLong RX12 428 (-1)) (by decide +kernel)) dX12_counted_16 ?_
    have hF := gFree hD hS hA
    refine va_calllD hd0 (va_runV_D (As := [.int 1, .long (-1)]) (rest := []) ⟨hx, hb, hml, hown, hts⟩ (n_X12_refusedLong l dC dI ad cA adK adV H.size σ1 hIσ1 1 (-1)) (cwV 2 hts gX12_counted_X12_refusedLong rfl rfl rfl (by decide +kernel) ⟨Nat.le_of_ble_eq_true rfl, Nat.le_of_ble_eq_true rfl⟩) ⟨gBlind, va_recv hK hP (ci := 11) (q0 := 0) rfl (mat_11 rfl), gStart (As := [.ref (ad 0), .int 1, .long (-1)]) hP hD hK0 hT hS hF (s.drawn)⟩ rfl rfl hl.1 rfl (lv_room (Nat.le_of_ble_eq_true rfl)) dX12_counted_19 ⟨Nat.le_of_ble_eq_true rfl, Nat.le_of_ble_eq_true rfl⟩) hS (fun q _ h => hF q h) hF (fun r_28 σ7 t H locs ht hvm hw hB hz1 hk1 hS d_29 hd0 => ?_)
    have hts := dr_words hts0 (d_29)
    have hK := gKd hK0 (d_29)
    have hown : (s.setDrawn (d_29)).vm.findClass RX12 = some m.cls := hown0
    obtain ⟨hP, hD⟩ := gBack hF ht hB
    obtain ⟨hIσ7, fcσ7, hp_30⟩ := hw
    refine W.endD hd0 ?_
    exact W.lret (v := r_28) hx hb hr (fun t ht hW => ⟨⟨r_28, σ7, rfl, ⟨hIσ7, (mFr.tr frσ1 fcσ7 (by decide) (by decide)), trivial⟩, ⟨by rw [ht]; exact hP, hD⟩⟩, hS.F ht⟩) hS.2.2 dX12_counted_22
set_option maxHeartbeats 8000000 in
set_option maxRecDepth 100000 in
theorem n_X12_grid (l : Launch) (dC : Nat → ClassId) (dI : Nat → Nat → Nat) (ad : Nat → Nat) (cA : Nat → ClassId) (adK adV : Nat → Nat) (sz : Nat) (σ : gs) (hI : InvM σ) (p0 : Int32) (p1 : Int32) (hh0 : Deep σ) : MetD lw_cs l yX12_grid wsX12_grid ({ frames := 3, cells := 0, slots := 0, locals := 68 }) (va_Pc [.ref (ad 0), .int p0, .int p1] (gPre adK adV (dC, dI) (wM ad cA σ) (tM cA) sz)) (va_Qi (fun (r : Int32) (τ : gs) => InvM τ ∧ mFr [] [0, 1, 2] σ τ ∧ (True)) (fun τ t => gPost (dC, dI) (va_A (wM ad cA σ) sz) (wM ad cA τ) t) (va_A (wM ad cA σ) sz)) 0 0 (va_A (wM ad cA σ) sz) := by
  refine MetD.ofW (cc := cX12_grid) (maxL := 3) (ret := (some .int)) (by decide) rfl ?_
  intro p e s m args below meth c s₁ B hml hv hd0
  obtain ⟨rfl, hsz, hP, hK, hD0, hT⟩ := hv
  have hx := B.exec
  have hb := B.bytes
  have hr := B.returns
  have hts0 := atoms_spec (ws := wsX12_grid) B.pre
  have hK0 := hK
  have hown0 : s.vm.findClass RX12 = some m.cls := findClass_of_methodNamed B.named
  have hlocks := B.notSynchronized
  have hinX12 : ∀ w ∈ u_ws RX12 TX12 69, w ∈ wsX12_grid := (fun _ h9 => List.mem_cons_of_mem _ (List.mem_append_right _ h9))
  subst hsz
  have hD := hD0.self (sz := s.heap.size)
  generalize hAe : va_A (wM ad cA σ) s.heap.size = A at hD hT ⊢
  have hA : ∀ q : Nat, s.heap.size ≤ q → A q := fun q h => by rw [← hAe]; exact Or.inr h
  have hS : va_S A s.heap s.heap [] := va_S.rf
  have hl := lv_entry ([.ref (ad 0), .int p0, .int p1]) (n := 3) (Nat.le_of_ble_eq_true rfl)
  rw [lg_entry_eq]
  generalize (lg_sl ([.ref (ad 0), .int p0, .int p1]) ++ List.replicate (3 - (lg_sl ([.ref (ad 0), .int p0, .int p1])).length) Slot.unset).toArray = ls at hl ⊢
  have hl : lv_has ls 3 [(0, .ref (ad 0)), (1, .int p0), (2, .int p1)] := hl
  have hts := dr_words hts0 (s.drawn)
  have hK := gKd hK0 (s.drawn)
  have hown : (s.setDrawn (s.drawn)).vm.findClass RX12 = some m.cls := hown0
  refine lv_aload_n hx hb dX12_grid_0 rfl (lv_at hl 0 rfl) ?_
  refine lv_iconst (v := 0) hx hb dX12_grid_1 (by decide) ?_
  refine va_put (D := (dC, dI)) (ci := 11) (v := .int 0) (C := RX12) (T := TX12) (N := 69) hx hb hts hinX12 tyX12 tyX12_ok nmX12 hown hK hP hD hS 0 (mat_11 rfl) rfl 0 (by decide) (hts (.fieldLink RX12 107 "BondCalendarsModel" "thrown" "I") (by decide +kernel)) (fun _ h9 => h9) rfl (ty := .int) (by decide +kernel) rfl rfl (Nat.le_of_ble_eq_true rfl) dX12_grid_2 (fun H locs hP hD hS => ?_)
  obtain ⟨σ1, eσ1, hP, hD⟩ := gPut (mse_11_0 rfl) hP hD
  have hIσ1 : InvM σ1 := by rw [eσ1]; exact minv_I hI (mok_11_0 rfl _)
  have frσ1 : mFr [] [0, 1, 2] σ σ1 := by rw [eσ1]; exact mFr.oI (mFr.rfl (L := []) (F := [0, 1, 2]) (σ := σ)) (by decide)
  refine lv_aload_n hx hb dX12_grid_5 rfl (lv_at hl 0 rfl) ?_
  refine lv_iload_n hx hb dX12_grid_6 rfl (lv_at hl 1 rfl) ?_
  have hF := gFree hD hS hA
  refine va_calliD hd0 (va_runV_D (As := [.int p0]) (rest := []) ⟨hx, hb, hml, hown, hts⟩ (n_X12_isBond l dC dI ad cA adK adV H.size σ1 hIσ1 p0) (cwV 1 hts gX12_grid_X12_isBond rfl rfl rfl (by decide +kernel) ⟨Nat.le_of_ble_eq_true rfl, Nat.le_of_ble_eq_true rfl⟩) ⟨gBlind, va_recv hK hP (ci := 11) (q0 := 0) rfl (mat_11 rfl), gStart (As := [.ref (ad 0), .int p0]) hP hD hK0 hT hS hF (s.drawn)⟩ rfl rfl hl.1 rfl (lv_room (Nat.le_of_ble_eq_true rfl)) dX12_grid_7 ⟨Nat.le_of_ble_eq_true rfl, Nat.le_of_ble_eq_true rfl⟩) hS (fun q _ h => hF q h) hF (fun r_1 σ2 t H locs ht hvm hw hB hz1 hk1 hS d_2 hd0 => ?_)
  have hts := dr_words hts0 (d_2)
  have hK := gKd hK0 (d_2)
  have hown : (s.setDrawn (d_2)).vm.findClass RX12 = some m.cls := hown0
  obtain ⟨hP, hD⟩ := gBack hF ht hB
  obtain ⟨hIσ2, hro, hp_3⟩ := hw
  subst hro
  have bd_4 := mrd_11_20 (c := 0) hI rfl
  have im_5 : (1 : Int32) ≤ (r_1 : Int32) → (p0 : Int32) < ((σ 0).1 20 : Int32) := fun h9 => lt_ch (Eq.refl _).symm (show ((σ1 0).1 20 : Int32) = ((σ 0).1 20 : Int32) from by rw [eσ1, gI_oth _ _ _ (by decide)]).symm (hp_3.2.2 (le_ch (Eq.refl _) (Eq.refl _) h9))
  refine lv_if_ne (tgt := 19) hx hb dX12_grid_10 (by decide) (fun c_6 => ?_) (fun c_6 => ?_)
  · refine lv_iload_n hx hb dX12_grid_19 rfl (lv_at hl 2 rfl) ?_
    refine lv_bipush (v := (-90)) hx hb dX12_grid_20 (by decide) ?_
    refine lv_iconst (v := 3) hx hb dX12_grid_22 (by decide) ?_
    have hF := gFree (w := []) (hx_D0 (A := A)) hS hA
    have hKe := hK.sub (tys' := []) [] rfl
    refine va_calli (va_runS (As := [.int p1, .int (-90), .int 3]) (rest := []) ⟨hx, hb, hml, hown, hts⟩ (k_X12_in l dC dI H.size p1 (-90) 3 ) (va_cwS 3 hts gX12_grid_X12_in rfl rfl rfl (by decide +kernel) ⟨Nat.le_of_ble_eq_true rfl, Nat.le_of_ble_eq_true rfl⟩) ⟨fun a U g mk q => by obtain ⟨q0, q1, qP, qK, qD⟩ := q; exact ⟨q0, q1, qP, va_K.moved (u := U) (U := U.calling g mk a) (Vm.Alike.refl U.vm) qK, qD⟩, fun U hU hW => ⟨rfl, by rw [hU], hx_P0, va_K.moved hW.alike hKe, hx_D0⟩⟩ rfl rfl hl.1 rfl (lv_room (Nat.le_of_ble_eq_true rfl)) dX12_grid_23 ⟨Nat.le_of_ble_eq_true rfl, Nat.le_of_ble_eq_true rfl⟩) hS (fun q _ h => hF q h) hF (fun r_7 u t H locs ht hvm hw hB hz1 hk1 hS => ?_)
    have hP := gKeep hP hk1
    have in_8 : r_7 = f_X12_in p1 (-90) 3 := hw
    have bin_8 : r_7 = 0 ∨ r_7 = 1 := by rw [in_8]; exact in01 _ _ _
    refine lv_if_ne (tgt := 35) hx hb dX12_grid_26 (by decide) (fun c_9 => ?_) (fun c_9 => ?_)
    · refine lv_aload_n hx hb dX12_grid_35 rfl (lv_at hl 0 rfl) ?_
      refine lv_aload_n hx hb dX12_grid_36 rfl (lv_at hl 0 rfl) ?_
      refine lv_iload_n hx hb dX12_grid_37 rfl (lv_at hl 1 rfl) ?_
      refine lv_iload_n hx hb dX12_grid_38 rfl (lv_at hl 2 rfl) ?_
      have hF := gFree hD hS hA
      refine va_calliD hd0 (va_runV_D (As := [.int p0, .int p1]) (rest := [.ref (ad 0)]) ⟨hx, hb, hml, hown, hts⟩ (n_X12_gridDate l dC dI ad cA adK adV H.size σ1 hIσ1 p0 p1 ((hp_3.2.1) (gl1 (b := 1) (ne_lt (b01_0 hp_3.1) c_6) (by decide))) (Int32.lt_trans (Int32.lt_of_lt_of_le (im_5 (gl1 (b := 1) (ne_lt (b01_0 hp_3.1) c_6) (by decide))) bd_4.2) (show (4 : Int32) < 8 by decide)) (oft_1 ((Deep.fr hh0 (by rw [eσ1, gI_ne _ _ _ (by decide)]) (by rw [eσ1, gI_ne _ _ _ (by decide)]) (by rw [eσ1, gI_ne _ _ _ (by decide)]) (by rw [eσ1, gI_ne _ _ _ (by decide)]) (by rw [eσ1, gI_ne _ _ _ (by decide)]) (by rw [eσ1, gI_ne _ _ _ (by decide)]) (by rw [eσ1, gI_ne _ _ _ (by decide)]) (by rw [eσ1, gI_oth _ _ _ (by decide)]) (by rw [eσ1, gI_oth _ _ _ (by decide)]) (by rw [eσ1, gI_oth _ _ _ (by decide)]) (by rw [eσ1, gI_oth _ _ _ (by decide)]) (by rw [eσ1, gI_oth _ _ _ (by decide)]) (by rw [eσ1, gI_oth _ _ _ (by decide)])).1 _ (nc_lt ((hp_3.2.1) (gl1 (b := 1) (ne_lt (b01_0 hp_3.1) c_6) (by decide))) (lt_ch (Eq.refl _) (show ((σ1 0).1 20 : Int32) = ((σ 0).1 20 : Int32) from by rw [eσ1, gI_oth _ _ _ (by decide)]) (im_5 (gl1 (b := 1) (ne_lt (b01_0 hp_3.1) c_6) (by decide)))))).2.2)) (cwV 2 hts gX12_grid_X12_gridDate rfl rfl rfl (by decide +kernel) ⟨Nat.le_of_ble_eq_true rfl, Nat.le_of_ble_eq_true rfl⟩) ⟨gBlind, va_recv hK hP (ci := 11) (q0 := 0) rfl (mat_11 rfl), gStart (As := [.ref (ad 0), .int p0, .int p1]) hP hD hK0 hT hS hF (d_2)⟩ rfl rfl hl.1 rfl (lv_room (Nat.le_of_ble_eq_true rfl)) dX12_grid_39 ⟨Nat.le_of_ble_eq_true rfl, Nat.le_of_ble_eq_true rfl⟩) hS (fun q _ h => hF q h) hF (fun r_10 σ3 t H locs ht hvm hw hB hz1 hk1 hS d_11 hd0 => ?_)
      have hts := dr_words hts0 (d_11)
      have hK := gKd hK0 (d_11)
      have hown : (s.setDrawn (d_11)).vm.findClass RX12 = some m.cls := hown0
      obtain ⟨hP, hD⟩ := gBack hF ht hB
      obtain ⟨hIσ3, hro, hp_12⟩ := hw
      subst hro
      have hF := gFree hD hS hA
      refine va_calliD hd0 (va_runV_D (As := [.int r_10]) (rest := []) ⟨hx, hb, hml, hown, hts⟩ (n_X12_good l dC dI ad cA adK adV H.size σ1 hIσ1 r_10) (cwV 1 hts gX12_grid_X12_good rfl rfl rfl (by decide +kernel) ⟨Nat.le_of_ble_eq_true rfl, Nat.le_of_ble_eq_true rfl⟩) ⟨gBlind, va_recv hK hP (ci := 11) (q0 := 0) rfl (mat_11 rfl), gStart (As := [.ref (ad 0), .int r_10]) hP hD hK0 hT hS hF (d_11)⟩ rfl rfl hl.1 rfl (lv_room (Nat.le_of_ble_eq_true rfl)) dX12_grid_42 ⟨Nat.le_of_ble_eq_true rfl, Nat.le_of_ble_eq_true rfl⟩) hS (fun q _ h => hF q h) hF (fun r_13 σ4 t H locs ht hvm hw hB hz1 hk1 hS d_14 hd0 => ?_)
      have hts := dr_words hts0 (d_14)
      have hK := gKd hK0 (d_14)
      have hown : (s.setDrawn (d_14)).vm.findClass RX12 = some m.cls := hown0
      obtain ⟨hP, hD⟩ := gBack hF ht hB
      obtain ⟨hIσ4, fcσ4, hp_15⟩ := hw
      refine W.endD hd0 ?_
      exact W.iret (v := r_13) hx hb hr (fun t ht hW => ⟨⟨r_13, σ4, rfl, ⟨hIσ4, (mFr.tr frσ1 fcσ4 (by decide) (by decide)), trivial⟩, ⟨by rw [ht]; exact hP, hD⟩⟩, hS.F ht⟩) hS.2.2 dX12_grid_45
    · refine lv_aload_n hx hb dX12_grid_29 rfl (lv_at hl 0 rfl) ?_
      refine lv_iconst (v := 2) hx hb dX12_grid_30 (by decide) ?_
      have hF := gFree hD hS hA
      refine va_calliD hd0 (va_runV_D (As := [.int 2]) (rest := []) ⟨hx, hb, hml, hown, hts⟩ (n_X12_refused l dC dI ad cA adK adV H.size σ1 hIσ1 2) (cwV 1 hts gX12_grid_X12_refused rfl rfl rfl (by decide +kernel) ⟨Nat.le_of_ble_eq_true rfl, Nat.le_of_ble_eq_true rfl⟩) ⟨gBlind, va_recv hK hP (ci := 11) (q0 := 0) rfl (mat_11 rfl), gStart (As := [.ref (ad 0), .int 2]) hP hD hK0 hT hS hF (d_2)⟩ rfl rfl hl.1 rfl (lv_room (Nat.le_of_ble_eq_true rfl)) dX12_grid_31 ⟨Nat.le_of_ble_eq_true rfl, Nat.le_of_ble_eq_true rfl⟩) hS (fun q _ h => hF q h) hF (fun r_16 σ5 t H locs ht hvm hw hB hz1 hk1 hS d_17 hd0 => ?_)
      have hts := dr_words hts0 (d_17)
      have hK := gKd hK0 (d_17)
      have hown : (s.setDrawn (d_17)).vm.findClass RX12 = some m.cls := hown0
      obtain ⟨hP, hD⟩ := gBack hF ht hB
      obtain ⟨hIσ5, fcσ5, hp_18⟩ := hw
      refine W.endD hd0 ?_
      exact W.iret (v := r_16) hx hb hr (fun t ht hW => ⟨⟨r_16, σ5, rfl, ⟨hIσ5, (mFr.tr frσ1 fcσ5 (by decide) (by decide)), trivial⟩, ⟨by rw [ht]; exact hP, hD⟩⟩, hS.F ht⟩) hS.2.2 dX12_grid_34
  · refine lv_aload_n hx hb dX12_grid_13 rfl (lv_at hl 0 rfl) ?_
    refine lv_iconst (v := 1) hx hb dX12_grid_14 (by decide) ?_
    have hF := gFree hD hS hA
    refine va_calliD hd0 (va_runV_D (As := [.int 1]) (rest := []) ⟨hx, hb, hml, hown, hts⟩ (n_X12_refused l dC dI ad cA adK adV H.size σ1 hIσ1 1) (cwV 1 hts gX12_grid_X12_refused rfl rfl rfl (by decide +kernel) ⟨Nat.le_of_ble_eq_true rfl, Nat.le_of_ble_eq_true rfl⟩) ⟨gBlind, va_recv hK hP (ci := 11) (q0 := 0) rfl (mat_11 rfl), gStart (As := [.ref (ad 0), .int 1]) hP hD hK0 hT hS hF (d_2)⟩ rfl rfl hl.1 rfl (lv_room (Nat.le_of_ble_eq_true rfl)) dX12_grid_15 ⟨Nat.le_of_ble_eq_true rfl, Nat.le_of_ble_eq_true rfl⟩) hS (fun q _ h => hF q h) hF (fun r_19 σ6 t H locs ht hvm hw hB hz1 hk1 hS d_20 hd0 => ?_)
    have hts := dr_words hts0 (d_20)
    have hK := gKd hK0 (d_20)
    have hown : (s.setDrawn (d_20)).vm.findClass RX12 = some m.cls := hown0
    obtain ⟨hP, hD⟩ := gBack hF ht hB
    obtain ⟨hIσ6, fcσ6, hp_21⟩ := hw
    refine W.endD hd0 ?_
    exact W.iret (v := r_19) hx hb hr (fun t ht hW => ⟨⟨r_19, σ6, rfl, ⟨hIσ6, (mFr.tr frσ1 fcσ6 (by decide) (by decide)), trivial⟩, ⟨by rw [ht]; exact hP, hD⟩⟩, hS.F ht⟩) hS.2.2 dX12_grid_18
set_option maxHeartbeats 8000000 in
set_option maxRecDepth 100000 in
theorem n_X12_areNext (l : Launch) (dC : Nat → ClassId) (dI : Nat → Nat → Nat) (ad : Nat → Nat) (cA : Nat → ClassId) (adK adV : Nat → Nat) (sz : Nat) (σ : gs) (hI : InvM σ) (p0 : Int32) (p1 : Int32) (p2 : Int32) (hh0 : 0 ≤ p0) (hh1 : p0 < 4) : MetD lw_cs l yX12_areNext wsX12_areNext ({ frames := 2, cells := 0, slots := 0, locals := 43 }) (va_Pc [.ref (ad 0), .int p0, .int p1, .int p2] (gPre adK adV (dC, dI) (wM ad cA σ) (tM cA) sz)) (va_Qi (fun (r : Int32) (τ : gs) => InvM τ ∧ σ = τ ∧ (r = 0 ∨ r = 1)) (fun τ t => gPost (dC, dI) (va_A (wM ad cA σ) sz) (wM ad cA τ) t) (va_A (wM ad cA σ) sz)) 0 0 (va_A (wM ad cA σ) sz) := by
  refine MetD.ofW (cc := cX12_areNext) (maxL := 5) (ret := (some .boolean)) (by decide) rfl ?_
  intro p e s m args below meth c s₁ B hml hv hd0
  obtain ⟨rfl, hsz, hP, hK, hD0, hT⟩ := hv
  have hx := B.exec
  have hb := B.bytes
  have hr := B.returns
  have hts0 := atoms_spec (ws := wsX12_areNext) B.pre
  have hK0 := hK
  have hown0 : s.vm.findClass RX12 = some m.cls := findClass_of_methodNamed B.named
  have hlocks := B.notSynchronized
  subst hsz
  have hD := hD0.self (sz := s.heap.size)
  generalize hAe : va_A (wM ad cA σ) s.heap.size = A at hD hT ⊢
  have hA : ∀ q : Nat, s.heap.size ≤ q → A q := fun q h => by rw [← hAe]; exact Or.inr h
  have hS : va_S A s.heap s.heap [] := va_S.rf
  have hl := lv_entry ([.ref (ad 0), .int p0, .int p1, .int p2]) (n := 5) (Nat.le_of_ble_eq_true rfl)
  rw [lg_entry_eq]
  generalize (lg_sl ([.ref (ad 0), .int p0, .int p1, .int p2]) ++ List.replicate (5 - (lg_sl ([.ref (ad 0), .int p0, .int p1, .int p2])).length) Slot.unset).toArray = ls at hl ⊢
  have hl : lv_has ls 5 [(0, .ref (ad 0)), (1, .int p0), (2, .int p1), (3, .int p2)] := hl
  have hts := dr_words hts0 (s.drawn)
  have hK := gKd hK0 (s.drawn)
  have hown : (s.setDrawn (s.drawn)).vm.findClass RX12 = some m.cls := hown0
  refine lv_bipush (v := (-91)) hx hb dX12_areNext_0 (by decide) ?_
  refine lv_istore (lv' := [(4, .int (-91)), (0, .ref (ad 0)), (1, .int p0), (2, .int p1), (3, .int p2)]) hx hb dX12_areNext_2 hl (by decide) rfl (fun ls hl => ?_)
  refine (fun (h : ∀ (n : Nat) (i4 : Int32) (d4 : Drawn) (H : Heap) (locs : List Loc) (ls : Array Slot), ((4 : Int32).toInt - i4.toInt).toNat < n → (-91) ≤ i4 → i4 ≤ 4 → s.drawn.sameBut d4 lw_cs → va_P (dC, dI) vwCl (wM ad cA σ) H → va_D A (wM ad cA σ) → va_S A s.heap H locs → lv_has ls 5 [(4, .int i4), (0, .ref (ad 0)), (1, .int p0), (2, .int p1), (3, .int p2)] → W p l e _ (s.setDrawn d4) m _ below meth c H locs _ _ _ (F0 m 4 ls [])) => h _ (-91) _ _ _ _ (Nat.lt_succ_self _) (by decide) (by decide) hd0 hP hD hS (lv_sub hl [0, 1, 2, 3, 4] rfl)) ?_
  intro n4
  induction n4 with
  | zero => intro i4  d4 H locs ls hm; exact absurd hm (Nat.not_lt_zero _)
  | succ n4 ih4 =>
    intro i4  d4 H locs ls hm4 iv4_0 iv4_1  hd0 hP hD hS hl
    have hts := dr_words hts0 (d4)
    have hK := gKd hK0 (d4)
    have hown : (s.setDrawn (d4)).vm.findClass RX12 = some m.cls := hown0
    refine lv_iload hx hb dX12_areNext_4 (lv_at hl 0 rfl) ?_
    refine lv_iconst (v := 4) hx hb dX12_areNext_6 (by decide) ?_
    refine lv_icmp_ge (tgt := 52) hx hb dX12_areNext_7 (by decide) (fun c_1 => ?_) (fun c_1 => ?_)
    · refine lv_iconst (v := 0) hx hb dX12_areNext_52 (by decide) ?_
      refine W.endD hd0 ?_
      exact W.zret (v := 0) hx hb hr (by decide) (fun t ht hW => ⟨⟨0, σ, rfl, ⟨hI, rfl, Or.inl rfl⟩, ⟨by rw [ht]; exact hP, hD⟩⟩, hS.F ht⟩) hS.2.2 dX12_areNext_53
    · refine lv_aload_n hx hb dX12_areNext_10 rfl (lv_at hl 1 rfl) ?_
      refine lv_iload_n hx hb dX12_areNext_11 rfl (lv_at hl 2 rfl) ?_
      refine lv_iload hx hb dX12_areNext_12 (lv_at hl 0 rfl) ?_
      have hF := gFree hD hS hA
      refine va_calliD hd0 (va_runV_D (As := [.int p0, .int i4]) (rest := []) ⟨hx, hb, hml, hown, hts⟩ (n_X12_gridDay l dC dI ad cA adK adV H.size σ hI p0 i4 hh0 hh1 iv4_0 iv4_1) (cwV 2 hts gX12_areNext_X12_gridDay rfl rfl rfl (by decide +kernel) ⟨Nat.le_of_ble_eq_true rfl, Nat.le_of_ble_eq_true rfl⟩) ⟨gBlind, va_recv hK hP (ci := 11) (q0 := 0) rfl (mat_11 rfl), gStart (As := [.ref (ad 0), .int p0, .int i4]) hP hD hK0 hT hS hF (d4)⟩ rfl rfl hl.1 rfl (lv_room (Nat.le_of_ble_eq_true rfl)) dX12_areNext_14 ⟨Nat.le_of_ble_eq_true rfl, Nat.le_of_ble_eq_true rfl⟩) hS (fun q _ h => hF q h) hF (fun r_2 σ1 t H locs ht hvm hw hB hz1 hk1 hS d_3 hd0 => ?_)
      have hts := dr_words hts0 (d_3)
      have hK := gKd hK0 (d_3)
      have hown : (s.setDrawn (d_3)).vm.findClass RX12 = some m.cls := hown0
      obtain ⟨hP, hD⟩ := gBack hF ht hB
      obtain ⟨hIσ1, hro, hp_4⟩ := hw
      subst hro
      have gy_5 : ∀ j : Nat, (j : Int) = i4.toInt + 91 → r_2 = (σ 9).1 (96 * p0.toNatClampNeg + j) := hp_4
      refine lv_iload_n hx hb dX12_areNext_17 rfl (lv_at hl 3 rfl) ?_
      have hF := gFree (w := []) (hx_D0 (A := A)) hS hA
      have hKe := hK.sub (tys' := []) [] rfl
      refine va_calli (va_runS (As := [.int p1]) (rest := [.int r_2]) ⟨hx, hb, hml, hown, hts⟩ (k_X12_dayOf l dC dI H.size p1 ) (va_cwS 1 hts gX12_areNext_X12_dayOf rfl rfl rfl (by decide +kernel) ⟨Nat.le_of_ble_eq_true rfl, Nat.le_of_ble_eq_true rfl⟩) ⟨fun a U g mk q => by obtain ⟨q0, q1, qP, qK, qD⟩ := q; exact ⟨q0, q1, qP, va_K.moved (u := U) (U := U.calling g mk a) (Vm.Alike.refl U.vm) qK, qD⟩, fun U hU hW => ⟨rfl, by rw [hU], hx_P0, va_K.moved hW.alike hKe, hx_D0⟩⟩ rfl rfl hl.1 rfl (lv_room (Nat.le_of_ble_eq_true rfl)) dX12_areNext_18 ⟨Nat.le_of_ble_eq_true rfl, Nat.le_of_ble_eq_true rfl⟩) hS (fun q _ h => hF q h) hF (fun r_6 u t H locs ht hvm hw hB hz1 hk1 hS => ?_)
      have hP := gKeep hP hk1
      have pu_7 : r_6 = f_X12_dayOf p1 := hw
      refine lv_icmp_ne (tgt := 46) hx hb dX12_areNext_21 (by decide) (fun c_8 => ?_) (fun c_8 => ?_)
      · obtain ⟨x_9, ex_9⟩ : ∃ zz : Int32, zz = i4 + 1 := ⟨_, rfl⟩
        refine lv_iinc (v := x_9) (lv' := [(4, .int x_9), (0, .ref (ad 0)), (1, .int p0), (2, .int p1), (3, .int p2)]) hx hb dX12_areNext_46 hl (k := 0) rfl (by rw [ex_9]; rfl) (by decide) rfl (fun ls hl => ?_)
        refine lv_goto (tgt := 4) hx hb dX12_areNext_49 (by decide) ?_
        exact ih4 x_9 _ _ _ _ (nd_m (Int32.not_le.mp c_1) hm4 ex_9) (nd_lo (a := (-91)) (Int32.not_le.mp c_1) iv4_0 ex_9) (nd_hi (Int32.not_le.mp c_1) ex_9) hd0 hP hD hS (lv_sub hl [0, 1, 2, 3, 4] rfl)
      · refine lv_aload_n hx hb dX12_areNext_24 rfl (lv_at hl 1 rfl) ?_
        refine lv_iload_n hx hb dX12_areNext_25 rfl (lv_at hl 2 rfl) ?_
        refine lv_iload hx hb dX12_areNext_26 (lv_at hl 0 rfl) ?_
        refine lv_iconst (v := 1) hx hb dX12_areNext_28 (by decide) ?_
        refine lv_iadd hx hb dX12_areNext_29 ?_
        refine lv_topi (fun x_10 ex_10 => ?_)
        have hF := gFree hD hS hA
        refine va_calliD hd0 (va_runV_D (As := [.int p0, .int x_10]) (rest := []) ⟨hx, hb, hml, hown, hts⟩ (n_X12_gridDay l dC dI ad cA adK adV H.size σ hI p0 x_10 hh0 hh1 (nd_lo (Int32.not_le.mp c_1) iv4_0 ex_10) (nd_hi (Int32.not_le.mp c_1) ex_10)) (cwV 2 hts gX12_areNext_X12_gridDay rfl rfl rfl (by decide +kernel) ⟨Nat.le_of_ble_eq_true rfl, Nat.le_of_ble_eq_true rfl⟩) ⟨gBlind, va_recv hK hP (ci := 11) (q0 := 0) rfl (mat_11 rfl), gStart (As := [.ref (ad 0), .int p0, .int x_10]) hP hD hK0 hT hS hF (d_3)⟩ rfl rfl hl.1 rfl (lv_room (Nat.le_of_ble_eq_true rfl)) dX12_areNext_30 ⟨Nat.le_of_ble_eq_true rfl, Nat.le_of_ble_eq_true rfl⟩) hS (fun q _ h => hF q h) hF (fun r_11 σ2 t H locs ht hvm hw hB hz1 hk1 hS d_12 hd0 => ?_)
        have hts := dr_words hts0 (d_12)
        have hK := gKd hK0 (d_12)
        have hown : (s.setDrawn (d_12)).vm.findClass RX12 = some m.cls := hown0
        obtain ⟨hP, hD⟩ := gBack hF ht hB
        obtain ⟨hIσ2, hro, hp_13⟩ := hw
        subst hro
        have gy_14 : ∀ j : Nat, (j : Int) = x_10.toInt + 91 → r_11 = (σ 9).1 (96 * p0.toNatClampNeg + j) := hp_13
        refine lv_iload_n hx hb dX12_areNext_33 rfl (lv_at hl 4 rfl) ?_
        have hF := gFree (w := []) (hx_D0 (A := A)) hS hA
        have hKe := hK.sub (tys' := []) [] rfl
        refine va_calli (va_runS (As := [.int p2]) (rest := [.int r_11]) ⟨hx, hb, hml, hown, hts⟩ (k_X12_dayOf l dC dI H.size p2 ) (va_cwS 1 hts gX12_areNext_X12_dayOf rfl rfl rfl (by decide +kernel) ⟨Nat.le_of_ble_eq_true rfl, Nat.le_of_ble_eq_true rfl⟩) ⟨fun a U g mk q => by obtain ⟨q0, q1, qP, qK, qD⟩ := q; exact ⟨q0, q1, qP, va_K.moved (u := U) (U := U.calling g mk a) (Vm.Alike.refl U.vm) qK, qD⟩, fun U hU hW => ⟨rfl, by rw [hU], hx_P0, va_K.moved hW.alike hKe, hx_D0⟩⟩ rfl rfl hl.1 rfl (lv_room (Nat.le_of_ble_eq_true rfl)) dX12_areNext_34 ⟨Nat.le_of_ble_eq_true rfl, Nat.le_of_ble_eq_true rfl⟩) hS (fun q _ h => hF q h) hF (fun r_15 u t H locs ht hvm hw hB hz1 hk1 hS => ?_)
        have hP := gKeep hP hk1
        have pu_16 : r_15 = f_X12_dayOf p2 := hw
        refine lv_icmp_ne (tgt := 44) hx hb dX12_areNext_37 (by decide) (fun c_17 => ?_) (fun c_17 => ?_)
        · refine lv_iconst (v := 0) hx hb dX12_areNext_44 (by decide) ?_
          refine W.endD hd0 ?_
          exact W.zret (v := 0) hx hb hr (by decide) (fun t ht hW => ⟨⟨0, σ, rfl, ⟨hI, rfl, Or.inl rfl⟩, ⟨by rw [ht]; exact hP, hD⟩⟩, hS.F ht⟩) hS.2.2 dX12_areNext_45
        · refine lv_iconst (v := 1) hx hb dX12_areNext_40 (by decide) ?_
          refine lv_goto (tgt := 45) hx hb dX12_areNext_41 (by decide) ?_
          refine W.endD hd0 ?_
          exact W.zret (v := 1) hx hb hr (by decide) (fun t ht hW => ⟨⟨1, σ, rfl, ⟨hI, rfl, Or.inr rfl⟩, ⟨by rw [ht]; exact hP, hD⟩⟩, hS.F ht⟩) hS.2.2 dX12_areNext_45
set_option maxHeartbeats 8000000 in
set_option maxRecDepth 100000 in
theorem n_X12_period (l : Launch) (dC : Nat → ClassId) (dI : Nat → Nat → Nat) (ad : Nat → Nat) (cA : Nat → ClassId) (adK adV : Nat → Nat) (sz : Nat) (σ : gs) (hI : InvM σ) (p0 : Int32) (p1 : Int32) (p2 : Int32) : MetD lw_cs l yX12_period wsX12_period ({ frames := 3, cells := 0, slots := 0, locals := 67 }) (va_Pc [.ref (ad 0), .int p0, .int p1, .int p2] (gPre adK adV (dC, dI) (wM ad cA σ) (tM cA) sz)) (va_Qi (fun (r : Int32) (τ : gs) => InvM τ ∧ mFr [] [0, 1, 2] σ τ ∧ (True)) (fun τ t => gPost (dC, dI) (va_A (wM ad cA σ) sz) (wM ad cA τ) t) (va_A (wM ad cA σ) sz)) 0 0 (va_A (wM ad cA σ) sz) := by
  refine MetD.ofW (cc := cX12_period) (maxL := 4) (ret := (some .int)) (by decide) rfl ?_
  intro p e s m args below meth c s₁ B hml hv hd0
  obtain ⟨rfl, hsz, hP, hK, hD0, hT⟩ := hv
  have hx := B.exec
  have hb := B.bytes
  have hr := B.returns
  have hts0 := atoms_spec (ws := wsX12_period) B.pre
  have hK0 := hK
  have hown0 : s.vm.findClass RX12 = some m.cls := findClass_of_methodNamed B.named
  have hlocks := B.notSynchronized
  have hinX12 : ∀ w ∈ u_ws RX12 TX12 69, w ∈ wsX12_period := (fun _ h9 => List.mem_cons_of_mem _ (List.mem_append_right _ h9))
  subst hsz
  have hD := hD0.self (sz := s.heap.size)
  generalize hAe : va_A (wM ad cA σ) s.heap.size = A at hD hT ⊢
  have hA : ∀ q : Nat, s.heap.size ≤ q → A q := fun q h => by rw [← hAe]; exact Or.inr h
  have hS : va_S A s.heap s.heap [] := va_S.rf
  have hl := lv_entry ([.ref (ad 0), .int p0, .int p1, .int p2]) (n := 4) (Nat.le_of_ble_eq_true rfl)
  rw [lg_entry_eq]
  generalize (lg_sl ([.ref (ad 0), .int p0, .int p1, .int p2]) ++ List.replicate (4 - (lg_sl ([.ref (ad 0), .int p0, .int p1, .int p2])).length) Slot.unset).toArray = ls at hl ⊢
  have hl : lv_has ls 4 [(0, .ref (ad 0)), (1, .int p0), (2, .int p1), (3, .int p2)] := hl
  have hts := dr_words hts0 (s.drawn)
  have hK := gKd hK0 (s.drawn)
  have hown : (s.setDrawn (s.drawn)).vm.findClass RX12 = some m.cls := hown0
  refine lv_aload_n hx hb dX12_period_0 rfl (lv_at hl 0 rfl) ?_
  refine lv_iconst (v := 0) hx hb dX12_period_1 (by decide) ?_
  refine va_put (D := (dC, dI)) (ci := 11) (v := .int 0) (C := RX12) (T := TX12) (N := 69) hx hb hts hinX12 tyX12 tyX12_ok nmX12 hown hK hP hD hS 0 (mat_11 rfl) rfl 0 (by decide) (hts (.fieldLink RX12 107 "BondCalendarsModel" "thrown" "I") (by decide +kernel)) (fun _ h9 => h9) rfl (ty := .int) (by decide +kernel) rfl rfl (Nat.le_of_ble_eq_true rfl) dX12_period_2 (fun H locs hP hD hS => ?_)
  obtain ⟨σ1, eσ1, hP, hD⟩ := gPut (mse_11_0 rfl) hP hD
  have hIσ1 : InvM σ1 := by rw [eσ1]; exact minv_I hI (mok_11_0 rfl _)
  have frσ1 : mFr [] [0, 1, 2] σ σ1 := by rw [eσ1]; exact mFr.oI (mFr.rfl (L := []) (F := [0, 1, 2]) (σ := σ)) (by decide)
  refine lv_aload_n hx hb dX12_period_5 rfl (lv_at hl 0 rfl) ?_
  refine lv_iload_n hx hb dX12_period_6 rfl (lv_at hl 1 rfl) ?_
  refine lv_iload_n hx hb dX12_period_7 rfl (lv_at hl 2 rfl) ?_
  have hF := gFree hD hS hA
  refine va_calliD hd0 (va_runV_D (As := [.int p0, .int p1]) (rest := []) ⟨hx, hb, hml, hown, hts⟩ (n_X12_isPeriod l dC dI ad cA adK adV H.size σ1 hIσ1 p0 p1) (cwV 2 hts gX12_period_X12_isPeriod rfl rfl rfl (by decide +kernel) ⟨Nat.le_of_ble_eq_true rfl, Nat.le_of_ble_eq_true rfl⟩) ⟨gBlind, va_recv hK hP (ci := 11) (q0 := 0) rfl (mat_11 rfl), gStart (As := [.ref (ad 0), .int p0, .int p1]) hP hD hK0 hT hS hF (s.drawn)⟩ rfl rfl hl.1 rfl (lv_room (Nat.le_of_ble_eq_true rfl)) dX12_period_8 ⟨Nat.le_of_ble_eq_true rfl, Nat.le_of_ble_eq_true rfl⟩) hS (fun q _ h => hF q h) hF (fun r_1 σ2 t H locs ht hvm hw hB hz1 hk1 hS d_2 hd0 => ?_)
  have hts := dr_words hts0 (d_2)
  have hK := gKd hK0 (d_2)
  have hown : (s.setDrawn (d_2)).vm.findClass RX12 = some m.cls := hown0
  obtain ⟨hP, hD⟩ := gBack hF ht hB
  obtain ⟨hIσ2, hro, hp_3⟩ := hw
  subst hro
  have bd_4 := mrd_11_20 (c := 0) hI rfl
  have im_5 : (1 : Int32) ≤ (r_1 : Int32) → (p0 : Int32) < ((σ 0).1 20 : Int32) := fun h9 => lt_ch (Eq.refl _).symm (show ((σ1 0).1 20 : Int32) = ((σ 0).1 20 : Int32) from by rw [eσ1, gI_oth _ _ _ (by decide)]).symm (hp_3.2.2.1 (le_ch (Eq.refl _) (Eq.refl _) h9))
  have im_6 : (1 : Int32) ≤ (r_1 : Int32) → (p1 : Int32) < ((σ 17).1 p0.toNatClampNeg : Int32) := fun h9 => lt_ch (Eq.refl _).symm (show ((σ1 17).1 p0.toNatClampNeg : Int32) = ((σ 17).1 p0.toNatClampNeg : Int32) from by rw [eσ1, gI_ne _ _ _ (by decide)]).symm (hp_3.2.2.2.2.1 (le_ch (Eq.refl _) (Eq.refl _) h9))
  refine lv_if_ne (tgt := 20) hx hb dX12_period_11 (by decide) (fun c_7 => ?_) (fun c_7 => ?_)
  · refine lv_iload_n hx hb dX12_period_20 rfl (lv_at hl 3 rfl) ?_
    by_cases c_8 : p2 = 0
    · refine lv_tableIn (tgt := 64) hx hb dX12_period_21 (by rw [c_8]; decide) (by rw [c_8]; decide) (by rw [c_8]; rfl) (by decide) ?_
      refine lv_aload_n hx hb dX12_period_64 rfl (lv_at hl 0 rfl) ?_
      refine lv_aload_n hx hb dX12_period_65 rfl (lv_at hl 0 rfl) ?_
      refine lv_iload_n hx hb dX12_period_66 rfl (lv_at hl 1 rfl) ?_
      refine lv_iload_n hx hb dX12_period_67 rfl (lv_at hl 2 rfl) ?_
      have hF := gFree hD hS hA
      refine va_calliD hd0 (va_runV_D (As := [.int p0, .int p1]) (rest := [.ref (ad 0)]) ⟨hx, hb, hml, hown, hts⟩ (n_X12_startOf l dC dI ad cA adK adV H.size σ1 hIσ1 p0 p1 ((hp_3.2.1) (gl1 (b := 1) (ne_lt (b01_0 hp_3.1) c_7) (by decide))) (Int32.lt_of_lt_of_le (im_5 (gl1 (b := 1) (ne_lt (b01_0 hp_3.1) c_7) (by decide))) bd_4.2) ((hp_3.2.2.2.1) (gl1 (b := 1) (ne_lt (b01_0 hp_3.1) c_7) (by decide))) ((hp_3.2.2.2.2.2) (gl1 (b := 1) (ne_lt (b01_0 hp_3.1) c_7) (by decide)))) (cwV 2 hts gX12_period_X12_startOf rfl rfl rfl (by decide +kernel) ⟨Nat.le_of_ble_eq_true rfl, Nat.le_of_ble_eq_true rfl⟩) ⟨gBlind, va_recv hK hP (ci := 11) (q0 := 0) rfl (mat_11 rfl), gStart (As := [.ref (ad 0), .int p0, .int p1]) hP hD hK0 hT hS hF (d_2)⟩ rfl rfl hl.1 rfl (lv_room (Nat.le_of_ble_eq_true rfl)) dX12_period_68 ⟨Nat.le_of_ble_eq_true rfl, Nat.le_of_ble_eq_true rfl⟩) hS (fun q _ h => hF q h) hF (fun r_9 σ3 t H locs ht hvm hw hB hz1 hk1 hS d_10 hd0 => ?_)
      have hts := dr_words hts0 (d_10)
      have hK := gKd hK0 (d_10)
      have hown : (s.setDrawn (d_10)).vm.findClass RX12 = some m.cls := hown0
      obtain ⟨hP, hD⟩ := gBack hF ht hB
      obtain ⟨hIσ3, hro, hp_11⟩ := hw
      subst hro
      have hF := gFree hD hS hA
      refine va_calliD hd0 (va_runV_D (As := [.int r_9]) (rest := []) ⟨hx, hb, hml, hown, hts⟩ (n_X12_good l dC dI ad cA adK adV H.size σ1 hIσ1 r_9) (cwV 1 hts gX12_period_X12_good rfl rfl rfl (by decide +kernel) ⟨Nat.le_of_ble_eq_true rfl, Nat.le_of_ble_eq_true rfl⟩) ⟨gBlind, va_recv hK hP (ci := 11) (q0 := 0) rfl (mat_11 rfl), gStart (As := [.ref (ad 0), .int r_9]) hP hD hK0 hT hS hF (d_10)⟩ rfl rfl hl.1 rfl (lv_room (Nat.le_of_ble_eq_true rfl)) dX12_period_71 ⟨Nat.le_of_ble_eq_true rfl, Nat.le_of_ble_eq_true rfl⟩) hS (fun q _ h => hF q h) hF (fun r_12 σ4 t H locs ht hvm hw hB hz1 hk1 hS d_13 hd0 => ?_)
      have hts := dr_words hts0 (d_13)
      have hK := gKd hK0 (d_13)
      have hown : (s.setDrawn (d_13)).vm.findClass RX12 = some m.cls := hown0
      obtain ⟨hP, hD⟩ := gBack hF ht hB
      obtain ⟨hIσ4, fcσ4, hp_14⟩ := hw
      refine W.endD hd0 ?_
      exact W.iret (v := r_12) hx hb hr (fun t ht hW => ⟨⟨r_12, σ4, rfl, ⟨hIσ4, (mFr.tr frσ1 fcσ4 (by decide) (by decide)), trivial⟩, ⟨by rw [ht]; exact hP, hD⟩⟩, hS.F ht⟩) hS.2.2 dX12_period_74
    by_cases c_15 : p2 = 1
    · refine lv_tableIn (tgt := 75) hx hb dX12_period_21 (by rw [c_15]; decide) (by rw [c_15]; decide) (by rw [c_15]; rfl) (by decide) ?_
      refine lv_aload_n hx hb dX12_period_75 rfl (lv_at hl 0 rfl) ?_
      refine lv_aload_n hx hb dX12_period_76 rfl (lv_at hl 0 rfl) ?_
      refine lv_iload_n hx hb dX12_period_77 rfl (lv_at hl 1 rfl) ?_
      refine lv_iload_n hx hb dX12_period_78 rfl (lv_at hl 2 rfl) ?_
      have hF := gFree hD hS hA
      refine va_calliD hd0 (va_runV_D (As := [.int p0, .int p1]) (rest := [.ref (ad 0)]) ⟨hx, hb, hml, hown, hts⟩ (n_X12_endOf l dC dI ad cA adK adV H.size σ1 hIσ1 p0 p1 ((hp_3.2.1) (gl1 (b := 1) (ne_lt (b01_0 hp_3.1) c_7) (by decide))) (Int32.lt_of_lt_of_le (im_5 (gl1 (b := 1) (ne_lt (b01_0 hp_3.1) c_7) (by decide))) bd_4.2) ((hp_3.2.2.2.1) (gl1 (b := 1) (ne_lt (b01_0 hp_3.1) c_7) (by decide))) ((hp_3.2.2.2.2.2) (gl1 (b := 1) (ne_lt (b01_0 hp_3.1) c_7) (by decide)))) (cwV 2 hts gX12_period_X12_endOf rfl rfl rfl (by decide +kernel) ⟨Nat.le_of_ble_eq_true rfl, Nat.le_of_ble_eq_true rfl⟩) ⟨gBlind, va_recv hK hP (ci := 11) (q0 := 0) rfl (mat_11 rfl), gStart (As := [.ref (ad 0), .int p0, .int p1]) hP hD hK0 hT hS hF (d_2)⟩ rfl rfl hl.1 rfl (lv_room (Nat.le_of_ble_eq_true rfl)) dX12_period_79 ⟨Nat.le_of_ble_eq_true rfl, Nat.le_of_ble_eq_true rfl⟩) hS (fun q _ h => hF q h) hF (fun r_16 σ5 t H locs ht hvm hw hB hz1 hk1 hS d_17 hd0 => ?_)
      have hts := dr_words hts0 (d_17)
      have hK := gKd hK0 (d_17)
      have hown : (s.setDrawn (d_17)).vm.findClass RX12 = some m.cls := hown0
      obtain ⟨hP, hD⟩ := gBack hF ht hB
      obtain ⟨hIσ5, hro, hp_18⟩ := hw
      subst hro
      have eo_19 : ∀ j : Nat, (j : Int) = 82 * p0.toInt + p1.toInt → r_16 = (σ 18).1 j := fun j hj => by have h7 := hp_18.2.2 j hj; rw [eσ1, gI_ne _ _ _ (by decide)] at h7; exact h7
      have hF := gFree hD hS hA
      refine va_calliD hd0 (va_runV_D (As := [.int r_16]) (rest := []) ⟨hx, hb, hml, hown, hts⟩ (n_X12_good l dC dI ad cA adK adV H.size σ1 hIσ1 r_16) (cwV 1 hts gX12_period_X12_good rfl rfl rfl (by decide +kernel) ⟨Nat.le_of_ble_eq_true rfl, Nat.le_of_ble_eq_true rfl⟩) ⟨gBlind, va_recv hK hP (ci := 11) (q0 := 0) rfl (mat_11 rfl), gStart (As := [.ref (ad 0), .int r_16]) hP hD hK0 hT hS hF (d_17)⟩ rfl rfl hl.1 rfl (lv_room (Nat.le_of_ble_eq_true rfl)) dX12_period_82 ⟨Nat.le_of_ble_eq_true rfl, Nat.le_of_ble_eq_true rfl⟩) hS (fun q _ h => hF q h) hF (fun r_20 σ6 t H locs ht hvm hw hB hz1 hk1 hS d_21 hd0 => ?_)
      have hts := dr_words hts0 (d_21)
      have hK := gKd hK0 (d_21)
      have hown : (s.setDrawn (d_21)).vm.findClass RX12 = some m.cls := hown0
      obtain ⟨hP, hD⟩ := gBack hF ht hB
      obtain ⟨hIσ6, fcσ6, hp_22⟩ := hw
      refine W.endD hd0 ?_
      exact W.iret (v := r_20) hx hb hr (fun t ht hW => ⟨⟨r_20, σ6, rfl, ⟨hIσ6, (mFr.tr frσ1 fcσ6 (by decide) (by decide)), trivial⟩, ⟨by rw [ht]; exact hP, hD⟩⟩, hS.F ht⟩) hS.2.2 dX12_period_85
    by_cases c_23 : p2 = 2
    · refine lv_tableIn (tgt := 86) hx hb dX12_period_21 (by rw [c_23]; decide) (by rw [c_23]; decide) (by rw [c_23]; rfl) (by decide) ?_
      refine lv_aload_n hx hb dX12_period_86 rfl (lv_at hl 0 rfl) ?_
      refine lv_aload_n hx hb dX12_period_87 rfl (lv_at hl 0 rfl) ?_
      refine lv_iload_n hx hb dX12_period_88 rfl (lv_at hl 1 rfl) ?_
      refine lv_iload_n hx hb dX12_period_89 rfl (lv_at hl 2 rfl) ?_
      have hF := gFree hD hS hA
      refine va_calliD hd0 (va_runV_D (As := [.int p0, .int p1]) (rest := [.ref (ad 0)]) ⟨hx, hb, hml, hown, hts⟩ (n_X12_endOf l dC dI ad cA adK adV H.size σ1 hIσ1 p0 p1 ((hp_3.2.1) (gl1 (b := 1) (ne_lt (b01_0 hp_3.1) c_7) (by decide))) (Int32.lt_of_lt_of_le (im_5 (gl1 (b := 1) (ne_lt (b01_0 hp_3.1) c_7) (by decide))) bd_4.2) ((hp_3.2.2.2.1) (gl1 (b := 1) (ne_lt (b01_0 hp_3.1) c_7) (by decide))) ((hp_3.2.2.2.2.2) (gl1 (b := 1) (ne_lt (b01_0 hp_3.1) c_7) (by decide)))) (cwV 2 hts gX12_period_X12_endOf rfl rfl rfl (by decide +kernel) ⟨Nat.le_of_ble_eq_true rfl, Nat.le_of_ble_eq_true rfl⟩) ⟨gBlind, va_recv hK hP (ci := 11) (q0 := 0) rfl (mat_11 rfl), gStart (As := [.ref (ad 0), .int p0, .int p1]) hP hD hK0 hT hS hF (d_2)⟩ rfl rfl hl.1 rfl (lv_room (Nat.le_of_ble_eq_true rfl)) dX12_period_90 ⟨Nat.le_of_ble_eq_true rfl, Nat.le_of_ble_eq_true rfl⟩) hS (fun q _ h => hF q h) hF (fun r_24 σ7 t H locs ht hvm hw hB hz1 hk1 hS d_25 hd0 => ?_)
      have hts := dr_words hts0 (d_25)
      have hK := gKd hK0 (d_25)
      have hown : (s.setDrawn (d_25)).vm.findClass RX12 = some m.cls := hown0
      obtain ⟨hP, hD⟩ := gBack hF ht hB
      obtain ⟨hIσ7, hro, hp_26⟩ := hw
      subst hro
      have eo_27 : ∀ j : Nat, (j : Int) = 82 * p0.toInt + p1.toInt → r_24 = (σ 18).1 j := fun j hj => by have h7 := hp_26.2.2 j hj; rw [eσ1, gI_ne _ _ _ (by decide)] at h7; exact h7
      have hF := gFree (w := []) (hx_D0 (A := A)) hS hA
      have hKe := hK.sub (tys' := []) [] rfl
      refine va_calli (va_runS (As := [.int r_24]) (rest := [.ref (ad 0)]) ⟨hx, hb, hml, hown, hts⟩ (k_X12_dayOf l dC dI H.size r_24 ) (va_cwS 1 hts gX12_period_X12_dayOf rfl rfl rfl (by decide +kernel) ⟨Nat.le_of_ble_eq_true rfl, Nat.le_of_ble_eq_true rfl⟩) ⟨fun a U g mk q => by obtain ⟨q0, q1, qP, qK, qD⟩ := q; exact ⟨q0, q1, qP, va_K.moved (u := U) (U := U.calling g mk a) (Vm.Alike.refl U.vm) qK, qD⟩, fun U hU hW => ⟨rfl, by rw [hU], hx_P0, va_K.moved hW.alike hKe, hx_D0⟩⟩ rfl rfl hl.1 rfl (lv_room (Nat.le_of_ble_eq_true rfl)) dX12_period_93 ⟨Nat.le_of_ble_eq_true rfl, Nat.le_of_ble_eq_true rfl⟩) hS (fun q _ h => hF q h) hF (fun r_28 u t H locs ht hvm hw hB hz1 hk1 hS => ?_)
      have hP := gKeep hP hk1
      have pu_29 : r_28 = f_X12_dayOf r_24 := hw
      refine lv_aload_n hx hb dX12_period_96 rfl (lv_at hl 0 rfl) ?_
      refine lv_iload_n hx hb dX12_period_97 rfl (lv_at hl 1 rfl) ?_
      refine lv_iload_n hx hb dX12_period_98 rfl (lv_at hl 2 rfl) ?_
      have hF := gFree hD hS hA
      refine va_calliD hd0 (va_runV_D (As := [.int p0, .int p1]) (rest := [.int r_28, .ref (ad 0)]) ⟨hx, hb, hml, hown, hts⟩ (n_X12_startOf l dC dI ad cA adK adV H.size σ1 hIσ1 p0 p1 ((hp_3.2.1) (gl1 (b := 1) (ne_lt (b01_0 hp_3.1) c_7) (by decide))) (Int32.lt_of_lt_of_le (im_5 (gl1 (b := 1) (ne_lt (b01_0 hp_3.1) c_7) (by decide))) bd_4.2) ((hp_3.2.2.2.1) (gl1 (b := 1) (ne_lt (b01_0 hp_3.1) c_7) (by decide))) ((hp_3.2.2.2.2.2) (gl1 (b := 1) (ne_lt (b01_0 hp_3.1) c_7) (by decide)))) (cwV 2 hts gX12_period_X12_startOf rfl rfl rfl (by decide +kernel) ⟨Nat.le_of_ble_eq_true rfl, Nat.le_of_ble_eq_true rfl⟩) ⟨gBlind, va_recv hK hP (ci := 11) (q0 := 0) rfl (mat_11 rfl), gStart (As := [.ref (ad 0), .int p0, .int p1]) hP hD hK0 hT hS hF (d_25)⟩ rfl rfl hl.1 rfl (lv_room (Nat.le_of_ble_eq_true rfl)) dX12_period_99 ⟨Nat.le_of_ble_eq_true rfl, Nat.le_of_ble_eq_true rfl⟩) hS (fun q _ h => hF q h) hF (fun r_30 σ8 t H locs ht hvm hw hB hz1 hk1 hS d_31 hd0 => ?_)
      have hts := dr_words hts0 (d_31)
      have hK := gKd hK0 (d_31)
      have hown : (s.setDrawn (d_31)).vm.findClass RX12 = some m.cls := hown0
      obtain ⟨hP, hD⟩ := gBack hF ht hB
      obtain ⟨hIσ8, hro, hp_32⟩ := hw
      subst hro
      have hF := gFree (w := []) (hx_D0 (A := A)) hS hA
      have hKe := hK.sub (tys' := []) [] rfl
      refine va_calli (va_runS (As := [.int r_30]) (rest := [.int r_28, .ref (ad 0)]) ⟨hx, hb, hml, hown, hts⟩ (k_X12_dayOf l dC dI H.size r_30 ) (va_cwS 1 hts gX12_period_X12_dayOf rfl rfl rfl (by decide +kernel) ⟨Nat.le_of_ble_eq_true rfl, Nat.le_of_ble_eq_true rfl⟩) ⟨fun a U g mk q => by obtain ⟨q0, q1, qP, qK, qD⟩ := q; exact ⟨q0, q1, qP, va_K.moved (u := U) (U := U.calling g mk a) (Vm.Alike.refl U.vm) qK, qD⟩, fun U hU hW => ⟨rfl, by rw [hU], hx_P0, va_K.moved hW.alike hKe, hx_D0⟩⟩ rfl rfl hl.1 rfl (lv_room (Nat.le_of_ble_eq_true rfl)) dX12_period_102 ⟨Nat.le_of_ble_eq_true rfl, Nat.le_of_ble_eq_true rfl⟩) hS (fun q _ h => hF q h) hF (fun r_33 u t H locs ht hvm hw hB hz1 hk1 hS => ?_)
      have hP := gKeep hP hk1
      have pu_34 : r_33 = f_X12_dayOf r_30 := hw
      refine lv_isub hx hb dX12_period_105 ?_
      refine lv_topi (fun x_35 ex_35 => ?_)
      have hF := gFree hD hS hA
      refine va_calliD hd0 (va_runV_D (As := [.int x_35]) (rest := []) ⟨hx, hb, hml, hown, hts⟩ (n_X12_good l dC dI ad cA adK adV H.size σ1 hIσ1 x_35) (cwV 1 hts gX12_period_X12_good rfl rfl rfl (by decide +kernel) ⟨Nat.le_of_ble_eq_true rfl, Nat.le_of_ble_eq_true rfl⟩) ⟨gBlind, va_recv hK hP (ci := 11) (q0 := 0) rfl (mat_11 rfl), gStart (As := [.ref (ad 0), .int x_35]) hP hD hK0 hT hS hF (d_31)⟩ rfl rfl hl.1 rfl (lv_room (Nat.le_of_ble_eq_true rfl)) dX12_period_106 ⟨Nat.le_of_ble_eq_true rfl, Nat.le_of_ble_eq_true rfl⟩) hS (fun q _ h => hF q h) hF (fun r_36 σ9 t H locs ht hvm hw hB hz1 hk1 hS d_37 hd0 => ?_)
      have hts := dr_words hts0 (d_37)
      have hK := gKd hK0 (d_37)
      have hown : (s.setDrawn (d_37)).vm.findClass RX12 = some m.cls := hown0
      obtain ⟨hP, hD⟩ := gBack hF ht hB
      obtain ⟨hIσ9, fcσ9, hp_38⟩ := hw
      refine W.endD hd0 ?_
      exact W.iret (v := r_36) hx hb hr (fun t ht hW => ⟨⟨r_36, σ9, rfl, ⟨hIσ9, (mFr.tr frσ1 fcσ9 (by decide) (by decide)), trivial⟩, ⟨by rw [ht]; exact hP, hD⟩⟩, hS.F ht⟩) hS.2.2 dX12_period_109
    by_cases c_39 : p2 = 3
    · refine lv_tableIn (tgt := 110) hx hb dX12_period_21 (by rw [c_39]; decide) (by rw [c_39]; decide) (by rw [c_39]; rfl) (by decide) ?_
      refine lv_aload_n hx hb dX12_period_110 rfl (lv_at hl 0 rfl) ?_
      refine lv_aload_n hx hb dX12_period_111 rfl (lv_at hl 0 rfl) ?_
      refine va_get (D := (dC, dI)) (ci := 11) (v := .ref (ad 19)) (C := RX12) (T := TX12) (N := 69) hx hb hts hinX12 hown hK hP 0 (mat_11 rfl) rfl 41 (by decide) (hts (.fieldLink RX12 70 "BondCalendarsModel" "exDay" "[I") (by decide +kernel)) (fun _ h9 => h9) rfl dX12_period_112 ?_
      refine lv_bipush (v := 82) hx hb dX12_period_115 (by decide) ?_
      refine lv_iload_n hx hb dX12_period_117 rfl (lv_at hl 1 rfl) ?_
      refine lv_imul hx hb dX12_period_118 ?_
      refine lv_topi (fun x_40 ex_40 => ?_)
      refine lv_iload_n hx hb dX12_period_119 rfl (lv_at hl 2 rfl) ?_
      refine lv_iadd hx hb dX12_period_120 ?_
      refine lv_topi (fun x_41 ex_41 => ?_)
      have hi_42 : vp_in x_41 328 := by have ab1 : (0 : Int) ≤ p0.toInt := Int32.le_iff_toInt_le.mp ((hp_3.2.1) (gl1 (b := 1) (ne_lt (b01_0 hp_3.1) c_7) (by decide))); have ab2 : p0.toInt ≤ (3 : Int) := Int32.le_iff_toInt_le.mp (gl2 (b := 3) (Int32.lt_of_lt_of_le (im_5 (gl1 (b := 1) (ne_lt (b01_0 hp_3.1) c_7) (by decide))) bd_4.2) (by decide)); have tt3 : x_40.toInt = (82 * p0.toInt) := (by rw [ex_40]; exact i3_mul (a := (82 : Int32)) (b := p0) (x := 82) (y := p0.toInt) rfl rfl (by omega) (by omega)); have ab4 : (0 : Int) ≤ p1.toInt := Int32.le_iff_toInt_le.mp ((hp_3.2.2.2.1) (gl1 (b := 1) (ne_lt (b01_0 hp_3.1) c_7) (by decide))); have ab5 : p1.toInt ≤ (81 : Int) := Int32.le_iff_toInt_le.mp (gl2 (b := 81) ((hp_3.2.2.2.2.2) (gl1 (b := 1) (ne_lt (b01_0 hp_3.1) c_7) (by decide))) (by decide)); have tt6 : x_41.toInt = ((82 * p0.toInt) + p1.toInt) := (by rw [ex_41]; exact i3_add (a := x_40) (b := p1) (x := (82 * p0.toInt)) (y := p1.toInt) tt3 rfl (by omega) (by omega)); have z0 : (0 : Int32).toInt = 0 := (by decide); have zn : (328 : Int32).toInt = 328 := (by decide); exact gin (N := 328) (by decide) (Int32.le_iff_toInt_le.mpr (by omega)) (Int32.lt_iff_toInt_lt.mpr (by omega))
      refine va_iald hx hb hK hP 19 19 (mat_59 rfl) (mty_59 rfl) hi_42 dX12_period_121 ?_
      refine lv_topi (fun x_43 ex_43 => ?_)
      have ex_43 : x_43 = ((σ 19).1 x_41.toNatClampNeg) := by rw [ex_43, eσ1, gI_ne _ _ _ (by decide)]
      have bd_44 := mrd_59 (c := 19) hI rfl x_41.toNatClampNeg
      have hF := gFree hD hS hA
      refine va_calliD hd0 (va_runS_D (As := [.int x_43]) (rest := [.ref (ad 0)]) ⟨hx, hb, hml, hown, hts⟩ (n_X12_dateOf l dC dI ad cA adK adV H.size σ1 hIσ1 x_43 (Int32.le_of_lt (Int32.lt_of_lt_of_le (Int32.lt_of_lt_of_le (show ((-1000000) : Int32) < (-1000) by decide) bd_44.1) (eq_le ex_43.symm)))) (va_cwS 1 hts gX12_period_X12_dateOf rfl rfl rfl (by decide +kernel) ⟨Nat.le_of_ble_eq_true rfl, Nat.le_of_ble_eq_true rfl⟩) ⟨gBlind, gStart (As := [.int x_43]) hP hD hK0 hT hS hF (d_2)⟩ rfl rfl hl.1 rfl (lv_room (Nat.le_of_ble_eq_true rfl)) dX12_period_122 ⟨Nat.le_of_ble_eq_true rfl, Nat.le_of_ble_eq_true rfl⟩) hS (fun q _ h => hF q h) hF (fun r_45 σ10 t H locs ht hvm hw hB hz1 hk1 hS d_46 hd0 => ?_)
      have hts := dr_words hts0 (d_46)
      have hK := gKd hK0 (d_46)
      have hown : (s.setDrawn (d_46)).vm.findClass RX12 = some m.cls := hown0
      obtain ⟨hP, hD⟩ := gBack hF ht hB
      obtain ⟨hIσ10, hro, hp_47⟩ := hw
      subst hro
      have hF := gFree hD hS hA
      refine va_calliD hd0 (va_runV_D (As := [.int r_45]) (rest := []) ⟨hx, hb, hml, hown, hts⟩ (n_X12_good l dC dI ad cA adK adV H.size σ1 hIσ1 r_45) (cwV 1 hts gX12_period_X12_good rfl rfl rfl (by decide +kernel) ⟨Nat.le_of_ble_eq_true rfl, Nat.le_of_ble_eq_true rfl⟩) ⟨gBlind, va_recv hK hP (ci := 11) (q0 := 0) rfl (mat_11 rfl), gStart (As := [.ref (ad 0), .int r_45]) hP hD hK0 hT hS hF (d_46)⟩ rfl rfl hl.1 rfl (lv_room (Nat.le_of_ble_eq_true rfl)) dX12_period_125 ⟨Nat.le_of_ble_eq_true rfl, Nat.le_of_ble_eq_true rfl⟩) hS (fun q _ h => hF q h) hF (fun r_48 σ11 t H locs ht hvm hw hB hz1 hk1 hS d_49 hd0 => ?_)
      have hts := dr_words hts0 (d_49)
      have hK := gKd hK0 (d_49)
      have hown : (s.setDrawn (d_49)).vm.findClass RX12 = some m.cls := hown0
      obtain ⟨hP, hD⟩ := gBack hF ht hB
      obtain ⟨hIσ11, fcσ11, hp_50⟩ := hw
      refine W.endD hd0 ?_
      exact W.iret (v := r_48) hx hb hr (fun t ht hW => ⟨⟨r_48, σ11, rfl, ⟨hIσ11, (mFr.tr frσ1 fcσ11 (by decide) (by decide)), trivial⟩, ⟨by rw [ht]; exact hP, hD⟩⟩, hS.F ht⟩) hS.2.2 dX12_period_128
    by_cases c_51 : p2 = 4
    · refine lv_tableIn (tgt := 129) hx hb dX12_period_21 (by rw [c_51]; decide) (by rw [c_51]; decide) (by rw [c_51]; rfl) (by decide) ?_
      refine lv_aload_n hx hb dX12_period_129 rfl (lv_at hl 0 rfl) ?_
      refine lv_aload_n hx hb dX12_period_130 rfl (lv_at hl 0 rfl) ?_
      refine va_get (D := (dC, dI)) (ci := 11) (v := .ref (ad 20)) (C := RX12) (T := TX12) (N := 69) hx hb hts hinX12 hown hK hP 0 (mat_11 rfl) rfl 42 (by decide) (hts (.fieldLink RX12 73 "BondCalendarsModel" "payDay" "[I") (by decide +kernel)) (fun _ h9 => h9) rfl dX12_period_131 ?_
      refine lv_bipush (v := 82) hx hb dX12_period_134 (by decide) ?_
      refine lv_iload_n hx hb dX12_period_136 rfl (lv_at hl 1 rfl) ?_
      refine lv_imul hx hb dX12_period_137 ?_
      refine lv_topi (fun x_52 ex_52 => ?_)
      refine lv_iload_n hx hb dX12_period_138 rfl (lv_at hl 2 rfl) ?_
      refine lv_iadd hx hb dX12_period_139 ?_
      refine lv_topi (fun x_53 ex_53 => ?_)
      have hi_54 : vp_in x_53 328 := by have ab1 : (0 : Int) ≤ p0.toInt := Int32.le_iff_toInt_le.mp ((hp_3.2.1) (gl1 (b := 1) (ne_lt (b01_0 hp_3.1) c_7) (by decide))); have ab2 : p0.toInt ≤ (3 : Int) := Int32.le_iff_toInt_le.mp (gl2 (b := 3) (Int32.lt_of_lt_of_le (im_5 (gl1 (b := 1) (ne_lt (b01_0 hp_3.1) c_7) (by decide))) bd_4.2) (by decide)); have tt3 : x_52.toInt = (82 * p0.toInt) := (by rw [ex_52]; exact i3_mul (a := (82 : Int32)) (b := p0) (x := 82) (y := p0.toInt) rfl rfl (by omega) (by omega)); have ab4 : (0 : Int) ≤ p1.toInt := Int32.le_iff_toInt_le.mp ((hp_3.2.2.2.1) (gl1 (b := 1) (ne_lt (b01_0 hp_3.1) c_7) (by decide))); have ab5 : p1.toInt ≤ (81 : Int) := Int32.le_iff_toInt_le.mp (gl2 (b := 81) ((hp_3.2.2.2.2.2) (gl1 (b := 1) (ne_lt (b01_0 hp_3.1) c_7) (by decide))) (by decide)); have tt6 : x_53.toInt = ((82 * p0.toInt) + p1.toInt) := (by rw [ex_53]; exact i3_add (a := x_52) (b := p1) (x := (82 * p0.toInt)) (y := p1.toInt) tt3 rfl (by omega) (by omega)); have z0 : (0 : Int32).toInt = 0 := (by decide); have zn : (328 : Int32).toInt = 328 := (by decide); exact gin (N := 328) (by decide) (Int32.le_iff_toInt_le.mpr (by omega)) (Int32.lt_iff_toInt_lt.mpr (by omega))
      refine va_iald hx hb hK hP 20 20 (mat_60 rfl) (mty_60 rfl) hi_54 dX12_period_140 ?_
      refine lv_topi (fun x_55 ex_55 => ?_)
      have ex_55 : x_55 = ((σ 20).1 x_53.toNatClampNeg) := by rw [ex_55, eσ1, gI_ne _ _ _ (by decide)]
      have bd_56 := mrd_60 (c := 20) hI rfl x_53.toNatClampNeg
      have hF := gFree hD hS hA
      refine va_calliD hd0 (va_runS_D (As := [.int x_55]) (rest := [.ref (ad 0)]) ⟨hx, hb, hml, hown, hts⟩ (n_X12_dateOf l dC dI ad cA adK adV H.size σ1 hIσ1 x_55 (Int32.le_of_lt (Int32.lt_of_lt_of_le (Int32.lt_of_lt_of_le (show ((-1000000) : Int32) < (-1000) by decide) bd_56.1) (eq_le ex_55.symm)))) (va_cwS 1 hts gX12_period_X12_dateOf rfl rfl rfl (by decide +kernel) ⟨Nat.le_of_ble_eq_true rfl, Nat.le_of_ble_eq_true rfl⟩) ⟨gBlind, gStart (As := [.int x_55]) hP hD hK0 hT hS hF (d_2)⟩ rfl rfl hl.1 rfl (lv_room (Nat.le_of_ble_eq_true rfl)) dX12_period_141 ⟨Nat.le_of_ble_eq_true rfl, Nat.le_of_ble_eq_true rfl⟩) hS (fun q _ h => hF q h) hF (fun r_57 σ12 t H locs ht hvm hw hB hz1 hk1 hS d_58 hd0 => ?_)
      have hts := dr_words hts0 (d_58)
      have hK := gKd hK0 (d_58)
      have hown : (s.setDrawn (d_58)).vm.findClass RX12 = some m.cls := hown0
      obtain ⟨hP, hD⟩ := gBack hF ht hB
      obtain ⟨hIσ12, hro, hp_59⟩ := hw
      subst hro
      have hF := gFree hD hS hA
      refine va_calliD hd0 (va_runV_D (As := [.int r_57]) (rest := []) ⟨hx, hb, hml, hown, hts⟩ (n_X12_good l dC dI ad cA adK adV H.size σ1 hIσ1 r_57) (cwV 1 hts gX12_period_X12_good rfl rfl rfl (by decide +kernel) ⟨Nat.le_of_ble_eq_true rfl, Nat.le_of_ble_eq_true rfl⟩) ⟨gBlind, va_recv hK hP (ci := 11) (q0 := 0) rfl (mat_11 rfl), gStart (As := [.ref (ad 0), .int r_57]) hP hD hK0 hT hS hF (d_58)⟩ rfl rfl hl.1 rfl (lv_room (Nat.le_of_ble_eq_true rfl)) dX12_period_144 ⟨Nat.le_of_ble_eq_true rfl, Nat.le_of_ble_eq_true rfl⟩) hS (fun q _ h => hF q h) hF (fun r_60 σ13 t H locs ht hvm hw hB hz1 hk1 hS d_61 hd0 => ?_)
      have hts := dr_words hts0 (d_61)
      have hK := gKd hK0 (d_61)
      have hown : (s.setDrawn (d_61)).vm.findClass RX12 = some m.cls := hown0
      obtain ⟨hP, hD⟩ := gBack hF ht hB
      obtain ⟨hIσ13, fcσ13, hp_62⟩ := hw
      refine W.endD hd0 ?_
      exact W.iret (v := r_60) hx hb hr (fun t ht hW => ⟨⟨r_60, σ13, rfl, ⟨hIσ13, (mFr.tr frσ1 fcσ13 (by decide) (by decide)), trivial⟩, ⟨by rw [ht]; exact hP, hD⟩⟩, hS.F ht⟩) hS.2.2 dX12_period_147
    by_cases c_63 : p2 = 5
    · refine lv_tableIn (tgt := 148) hx hb dX12_period_21 (by rw [c_63]; decide) (by rw [c_63]; decide) (by rw [c_63]; rfl) (by decide) ?_
      refine lv_aload_n hx hb dX12_period_148 rfl (lv_at hl 0 rfl) ?_
      refine lv_aload_n hx hb dX12_period_149 rfl (lv_at hl 0 rfl) ?_
      refine lv_iload_n hx hb dX12_period_150 rfl (lv_at hl 1 rfl) ?_
      refine lv_aload_n hx hb dX12_period_151 rfl (lv_at hl 0 rfl) ?_
      refine lv_iload_n hx hb dX12_period_152 rfl (lv_at hl 1 rfl) ?_
      refine lv_iload_n hx hb dX12_period_153 rfl (lv_at hl 2 rfl) ?_
      have hF := gFree hD hS hA
      refine va_calliD hd0 (va_runV_D (As := [.int p0, .int p1]) (rest := [.int p0, .ref (ad 0), .ref (ad 0)]) ⟨hx, hb, hml, hown, hts⟩ (n_X12_startOf l dC dI ad cA adK adV H.size σ1 hIσ1 p0 p1 ((hp_3.2.1) (gl1 (b := 1) (ne_lt (b01_0 hp_3.1) c_7) (by decide))) (Int32.lt_of_lt_of_le (im_5 (gl1 (b := 1) (ne_lt (b01_0 hp_3.1) c_7) (by decide))) bd_4.2) ((hp_3.2.2.2.1) (gl1 (b := 1) (ne_lt (b01_0 hp_3.1) c_7) (by decide))) ((hp_3.2.2.2.2.2) (gl1 (b := 1) (ne_lt (b01_0 hp_3.1) c_7) (by decide)))) (cwV 2 hts gX12_period_X12_startOf rfl rfl rfl (by decide +kernel) ⟨Nat.le_of_ble_eq_true rfl, Nat.le_of_ble_eq_true rfl⟩) ⟨gBlind, va_recv hK hP (ci := 11) (q0 := 0) rfl (mat_11 rfl), gStart (As := [.ref (ad 0), .int p0, .int p1]) hP hD hK0 hT hS hF (d_2)⟩ rfl rfl hl.1 rfl (lv_room (Nat.le_of_ble_eq_true rfl)) dX12_period_154 ⟨Nat.le_of_ble_eq_true rfl, Nat.le_of_ble_eq_true rfl⟩) hS (fun q _ h => hF q h) hF (fun r_64 σ14 t H locs ht hvm hw hB hz1 hk1 hS d_65 hd0 => ?_)
      have hts := dr_words hts0 (d_65)
      have hK := gKd hK0 (d_65)
      have hown : (s.setDrawn (d_65)).vm.findClass RX12 = some m.cls := hown0
      obtain ⟨hP, hD⟩ := gBack hF ht hB
      obtain ⟨hIσ14, hro, hp_66⟩ := hw
      subst hro
      refine lv_aload_n hx hb dX12_period_157 rfl (lv_at hl 0 rfl) ?_
      refine lv_iload_n hx hb dX12_period_158 rfl (lv_at hl 1 rfl) ?_
      refine lv_iload_n hx hb dX12_period_159 rfl (lv_at hl 2 rfl) ?_
      have hF := gFree hD hS hA
      refine va_calliD hd0 (va_runV_D (As := [.int p0, .int p1]) (rest := [.int r_64, .int p0, .ref (ad 0), .ref (ad 0)]) ⟨hx, hb, hml, hown, hts⟩ (n_X12_endOf l dC dI ad cA adK adV H.size σ1 hIσ1 p0 p1 ((hp_3.2.1) (gl1 (b := 1) (ne_lt (b01_0 hp_3.1) c_7) (by decide))) (Int32.lt_of_lt_of_le (im_5 (gl1 (b := 1) (ne_lt (b01_0 hp_3.1) c_7) (by decide))) bd_4.2) ((hp_3.2.2.2.1) (gl1 (b := 1) (ne_lt (b01_0 hp_3.1) c_7) (by decide))) ((hp_3.2.2.2.2.2) (gl1 (b := 1) (ne_lt (b01_0 hp_3.1) c_7) (by decide)))) (cwV 2 hts gX12_period_X12_endOf rfl rfl rfl (by decide +kernel) ⟨Nat.le_of_ble_eq_true rfl, Nat.le_of_ble_eq_true rfl⟩) ⟨gBlind, va_recv hK hP (ci := 11) (q0 := 0) rfl (mat_11 rfl), gStart (As := [.ref (ad 0), .int p0, .int p1]) hP hD hK0 hT hS hF (d_65)⟩ rfl rfl hl.1 rfl (lv_room (Nat.le_of_ble_eq_true rfl)) dX12_period_160 ⟨Nat.le_of_ble_eq_true rfl, Nat.le_of_ble_eq_true rfl⟩) hS (fun q _ h => hF q h) hF (fun r_67 σ15 t H locs ht hvm hw hB hz1 hk1 hS d_68 hd0 => ?_)
      have hts := dr_words hts0 (d_68)
      have hK := gKd hK0 (d_68)
      have hown : (s.setDrawn (d_68)).vm.findClass RX12 = some m.cls := hown0
      obtain ⟨hP, hD⟩ := gBack hF ht hB
      obtain ⟨hIσ15, hro, hp_69⟩ := hw
      subst hro
      have eo_70 : ∀ j : Nat, (j : Int) = 82 * p0.toInt + p1.toInt → r_67 = (σ 18).1 j := fun j hj => by have h7 := hp_69.2.2 j hj; rw [eσ1, gI_ne _ _ _ (by decide)] at h7; exact h7
      have hF := gFree hD hS hA
      refine va_calliD hd0 (va_runV_D (As := [.int p0, .int r_64, .int r_67]) (rest := [.ref (ad 0)]) ⟨hx, hb, hml, hown, hts⟩ (n_X12_areNext l dC dI ad cA adK adV H.size σ1 hIσ1 p0 r_64 r_67 ((hp_3.2.1) (gl1 (b := 1) (ne_lt (b01_0 hp_3.1) c_7) (by decide))) (Int32.lt_of_lt_of_le (im_5 (gl1 (b := 1) (ne_lt (b01_0 hp_3.1) c_7) (by decide))) bd_4.2)) (cwV 3 hts gX12_period_X12_areNext rfl rfl rfl (by decide +kernel) ⟨Nat.le_of_ble_eq_true rfl, Nat.le_of_ble_eq_true rfl⟩) ⟨gBlind, va_recv hK hP (ci := 11) (q0 := 0) rfl (mat_11 rfl), gStart (As := [.ref (ad 0), .int p0, .int r_64, .int r_67]) hP hD hK0 hT hS hF (d_68)⟩ rfl rfl hl.1 rfl (lv_room (Nat.le_of_ble_eq_true rfl)) dX12_period_163 ⟨Nat.le_of_ble_eq_true rfl, Nat.le_of_ble_eq_true rfl⟩) hS (fun q _ h => hF q h) hF (fun r_71 σ16 t H locs ht hvm hw hB hz1 hk1 hS d_72 hd0 => ?_)
      have hts := dr_words hts0 (d_72)
      have hK := gKd hK0 (d_72)
      have hown : (s.setDrawn (d_72)).vm.findClass RX12 = some m.cls := hown0
      obtain ⟨hP, hD⟩ := gBack hF ht hB
      obtain ⟨hIσ16, hro, hp_73⟩ := hw
      subst hro
      refine lv_if_eq (tgt := 173) hx hb dX12_period_166 (by decide) (fun c_74 => ?_) (fun c_74 => ?_)
      · refine lv_iconst (v := 0) hx hb dX12_period_173 (by decide) ?_
        have hF := gFree hD hS hA
        refine va_calliD hd0 (va_runV_D (As := [.int 0]) (rest := []) ⟨hx, hb, hml, hown, hts⟩ (n_X12_good l dC dI ad cA adK adV H.size σ1 hIσ1 0) (cwV 1 hts gX12_period_X12_good rfl rfl rfl (by decide +kernel) ⟨Nat.le_of_ble_eq_true rfl, Nat.le_of_ble_eq_true rfl⟩) ⟨gBlind, va_recv hK hP (ci := 11) (q0 := 0) rfl (mat_11 rfl), gStart (As := [.ref (ad 0), .int 0]) hP hD hK0 hT hS hF (d_72)⟩ rfl rfl hl.1 rfl (lv_room (Nat.le_of_ble_eq_true rfl)) dX12_period_174 ⟨Nat.le_of_ble_eq_true rfl, Nat.le_of_ble_eq_true rfl⟩) hS (fun q _ h => hF q h) hF (fun r_75 σ17 t H locs ht hvm hw hB hz1 hk1 hS d_76 hd0 => ?_)
        have hts := dr_words hts0 (d_76)
        have hK := gKd hK0 (d_76)
        have hown : (s.setDrawn (d_76)).vm.findClass RX12 = some m.cls := hown0
        obtain ⟨hP, hD⟩ := gBack hF ht hB
        obtain ⟨hIσ17, fcσ17, hp_77⟩ := hw
        refine W.endD hd0 ?_
        exact W.iret (v := r_75) hx hb hr (fun t ht hW => ⟨⟨r_75, σ17, rfl, ⟨hIσ17, (mFr.tr frσ1 fcσ17 (by decide) (by decide)), trivial⟩, ⟨by rw [ht]; exact hP, hD⟩⟩, hS.F ht⟩) hS.2.2 dX12_period_177
      · refine lv_iconst (v := 1) hx hb dX12_period_169 (by decide) ?_
        refine lv_goto (tgt := 174) hx hb dX12_period_170 (by decide) ?_
        have hF := gFree hD hS hA
        refine va_calliD hd0 (va_runV_D (As := [.int 1]) (rest := []) ⟨hx, hb, hml, hown, hts⟩ (n_X12_good l dC dI ad cA adK adV H.size σ1 hIσ1 1) (cwV 1 hts gX12_period_X12_good rfl rfl rfl (by decide +kernel) ⟨Nat.le_of_ble_eq_true rfl, Nat.le_of_ble_eq_true rfl⟩) ⟨gBlind, va_recv hK hP (ci := 11) (q0 := 0) rfl (mat_11 rfl), gStart (As := [.ref (ad 0), .int 1]) hP hD hK0 hT hS hF (d_72)⟩ rfl rfl hl.1 rfl (lv_room (Nat.le_of_ble_eq_true rfl)) dX12_period_174 ⟨Nat.le_of_ble_eq_true rfl, Nat.le_of_ble_eq_true rfl⟩) hS (fun q _ h => hF q h) hF (fun r_78 σ18 t H locs ht hvm hw hB hz1 hk1 hS d_79 hd0 => ?_)
        have hts := dr_words hts0 (d_79)
        have hK := gKd hK0 (d_79)
        have hown : (s.setDrawn (d_79)).vm.findClass RX12 = some m.cls := hown0
        obtain ⟨hP, hD⟩ := gBack hF ht hB
        obtain ⟨hIσ18, fcσ18, hp_80⟩ := hw
        refine W.endD hd0 ?_
        exact W.iret (v := r_78) hx hb hr (fun t ht hW => ⟨⟨r_78, σ18, rfl, ⟨hIσ18, (mFr.tr frσ1 fcσ18 (by decide) (by decide)), trivial⟩, ⟨by rw [ht]; exact hP, hD⟩⟩, hS.F ht⟩) hS.2.2 dX12_period_177
    by_cases c_81 : p2 = 6
    · refine lv_tableIn (tgt := 178) hx hb dX12_period_21 (by rw [c_81]; decide) (by rw [c_81]; decide) (by rw [c_81]; rfl) (by decide) ?_
      refine lv_aload_n hx hb dX12_period_178 rfl (lv_at hl 0 rfl) ?_
      refine lv_aload_n hx hb dX12_period_179 rfl (lv_at hl 0 rfl) ?_
      refine va_get (D := (dC, dI)) (ci := 11) (v := .ref (ad 26)) (C := RX12) (T := TX12) (N := 69) hx hb hts hinX12 hown hK hP 0 (mat_11 rfl) rfl 59 (by decide) (hts (.fieldLink RX12 92 "BondCalendarsModel" "entitled" "[I") (by decide +kernel)) (fun _ h9 => h9) rfl dX12_period_180 ?_
      refine lv_bipush (v := 82) hx hb dX12_period_183 (by decide) ?_
      refine lv_iload_n hx hb dX12_period_185 rfl (lv_at hl 1 rfl) ?_
      refine lv_imul hx hb dX12_period_186 ?_
      refine lv_topi (fun x_82 ex_82 => ?_)
      refine lv_iload_n hx hb dX12_period_187 rfl (lv_at hl 2 rfl) ?_
      refine lv_iadd hx hb dX12_period_188 ?_
      refine lv_topi (fun x_83 ex_83 => ?_)
      have hi_84 : vp_in x_83 328 := by have ab1 : (0 : Int) ≤ p0.toInt := Int32.le_iff_toInt_le.mp ((hp_3.2.1) (gl1 (b := 1) (ne_lt (b01_0 hp_3.1) c_7) (by decide))); have ab2 : p0.toInt ≤ (3 : Int) := Int32.le_iff_toInt_le.mp (gl2 (b := 3) (Int32.lt_of_lt_of_le (im_5 (gl1 (b := 1) (ne_lt (b01_0 hp_3.1) c_7) (by decide))) bd_4.2) (by decide)); have tt3 : x_82.toInt = (82 * p0.toInt) := (by rw [ex_82]; exact i3_mul (a := (82 : Int32)) (b := p0) (x := 82) (y := p0.toInt) rfl rfl (by omega) (by omega)); have ab4 : (0 : Int) ≤ p1.toInt := Int32.le_iff_toInt_le.mp ((hp_3.2.2.2.1) (gl1 (b := 1) (ne_lt (b01_0 hp_3.1) c_7) (by decide))); have ab5 : p1.toInt ≤ (81 : Int) := Int32.le_iff_toInt_le.mp (gl2 (b := 81) ((hp_3.2.2.2.2.2) (gl1 (b := 1) (ne_lt (b01_0 hp_3.1) c_7) (by decide))) (by decide)); have tt6 : x_83.toInt = ((82 * p0.toInt) + p1.toInt) := (by rw [ex_83]; exact i3_add (a := x_82) (b := p1) (x := (82 * p0.toInt)) (y := p1.toInt) tt3 rfl (by omega) (by omega)); have z0 : (0 : Int32).toInt = 0 := (by decide); have zn : (328 : Int32).toInt = 328 := (by decide); exact gin (N := 328) (by decide) (Int32.le_iff_toInt_le.mpr (by omega)) (Int32.lt_iff_toInt_lt.mpr (by omega))
      refine va_iald hx hb hK hP 26 26 (mat_66 rfl) (mty_66 rfl) hi_84 dX12_period_189 ?_
      refine lv_topi (fun x_85 ex_85 => ?_)
      have ex_85 : x_85 = ((σ 26).1 x_83.toNatClampNeg) := by rw [ex_85, eσ1, gI_ne _ _ _ (by decide)]
      have hF := gFree hD hS hA
      refine va_calliD hd0 (va_runV_D (As := [.int x_85]) (rest := []) ⟨hx, hb, hml, hown, hts⟩ (n_X12_good l dC dI ad cA adK adV H.size σ1 hIσ1 x_85) (cwV 1 hts gX12_period_X12_good rfl rfl rfl (by decide +kernel) ⟨Nat.le_of_ble_eq_true rfl, Nat.le_of_ble_eq_true rfl⟩) ⟨gBlind, va_recv hK hP (ci := 11) (q0 := 0) rfl (mat_11 rfl), gStart (As := [.ref (ad 0), .int x_85]) hP hD hK0 hT hS hF (d_2)⟩ rfl rfl hl.1 rfl (lv_room (Nat.le_of_ble_eq_true rfl)) dX12_period_190 ⟨Nat.le_of_ble_eq_true rfl, Nat.le_of_ble_eq_true rfl⟩) hS (fun q _ h => hF q h) hF (fun r_86 σ19 t H locs ht hvm hw hB hz1 hk1 hS d_87 hd0 => ?_)
      have hts := dr_words hts0 (d_87)
      have hK := gKd hK0 (d_87)
      have hown : (s.setDrawn (d_87)).vm.findClass RX12 = some m.cls := hown0
      obtain ⟨hP, hD⟩ := gBack hF ht hB
      obtain ⟨hIσ19, fcσ19, hp_88⟩ := hw
      refine W.endD hd0 ?_
      exact W.iret (v := r_86) hx hb hr (fun t ht hW => ⟨⟨r_86, σ19, rfl, ⟨hIσ19, (mFr.tr frσ1 fcσ19 (by decide) (by decide)), trivial⟩, ⟨by rw [ht]; exact hP, hD⟩⟩, hS.F ht⟩) hS.2.2 dX12_period_193
    refine lv_tableOut (tgt := 194) hx hb dX12_period_21 (by have q0 := lv_neT (a := 0) c_8 rfl; have q1 := lv_neT (a := 1) c_15 rfl; have q2 := lv_neT (a := 2) c_23 rfl; have q3 := lv_neT (a := 3) c_39 rfl; have q4 := lv_neT (a := 4) c_51 rfl; have q5 := lv_neT (a := 5) c_63 rfl; have q6 := lv_neT (a := 6) c_81 rfl; omega) (by decide) ?_
    refine lv_aload_n hx hb dX12_period_194 rfl (lv_at hl 0 rfl) ?_
    refine lv_iconst (v := 1) hx hb dX12_period_195 (by decide) ?_
    have hF := gFree hD hS hA
    refine va_calliD hd0 (va_runV_D (As := [.int 1]) (rest := []) ⟨hx, hb, hml, hown, hts⟩ (n_X12_refused l dC dI ad cA adK adV H.size σ1 hIσ1 1) (cwV 1 hts gX12_period_X12_refused rfl rfl rfl (by decide +kernel) ⟨Nat.le_of_ble_eq_true rfl, Nat.le_of_ble_eq_true rfl⟩) ⟨gBlind, va_recv hK hP (ci := 11) (q0 := 0) rfl (mat_11 rfl), gStart (As := [.ref (ad 0), .int 1]) hP hD hK0 hT hS hF (d_2)⟩ rfl rfl hl.1 rfl (lv_room (Nat.le_of_ble_eq_true rfl)) dX12_period_196 ⟨Nat.le_of_ble_eq_true rfl, Nat.le_of_ble_eq_true rfl⟩) hS (fun q _ h => hF q h) hF (fun r_89 σ20 t H locs ht hvm hw hB hz1 hk1 hS d_90 hd0 => ?_)
    have hts := dr_words hts0 (d_90)
    have hK := gKd hK0 (d_90)
    have hown : (s.setDrawn (d_90)).vm.findClass RX12 = some m.cls := hown0
    obtain ⟨hP, hD⟩ := gBack hF ht hB
    obtain ⟨hIσ20, fcσ20, hp_91⟩ := hw
    refine W.endD hd0 ?_
    exact W.iret (v := r_89) hx hb hr (fun t ht hW => ⟨⟨r_89, σ20, rfl, ⟨hIσ20, (mFr.tr frσ1 fcσ20 (by decide) (by decide)), trivial⟩, ⟨by rw [ht]; exact hP, hD⟩⟩, hS.F ht⟩) hS.2.2 dX12_period_199
  · refine lv_aload_n hx hb dX12_period_14 rfl (lv_at hl 0 rfl) ?_
    refine lv_iconst (v := 1) hx hb dX12_period_15 (by decide) ?_
    have hF := gFree hD hS hA
    refine va_calliD hd0 (va_runV_D (As := [.int 1]) (rest := []) ⟨hx, hb, hml, hown, hts⟩ (n_X12_refused l dC dI ad cA adK adV H.size σ1 hIσ1 1) (cwV 1 hts gX12_period_X12_refused rfl rfl rfl (by decide +kernel) ⟨Nat.le_of_ble_eq_true rfl, Nat.le_of_ble_eq_true rfl⟩) ⟨gBlind, va_recv hK hP (ci := 11) (q0 := 0) rfl (mat_11 rfl), gStart (As := [.ref (ad 0), .int 1]) hP hD hK0 hT hS hF (d_2)⟩ rfl rfl hl.1 rfl (lv_room (Nat.le_of_ble_eq_true rfl)) dX12_period_16 ⟨Nat.le_of_ble_eq_true rfl, Nat.le_of_ble_eq_true rfl⟩) hS (fun q _ h => hF q h) hF (fun r_92 σ21 t H locs ht hvm hw hB hz1 hk1 hS d_93 hd0 => ?_)
    have hts := dr_words hts0 (d_93)
    have hK := gKd hK0 (d_93)
    have hown : (s.setDrawn (d_93)).vm.findClass RX12 = some m.cls := hown0
    obtain ⟨hP, hD⟩ := gBack hF ht hB
    obtain ⟨hIσ21, fcσ21, hp_94⟩ := hw
    refine W.endD hd0 ?_
    exact W.iret (v := r_92) hx hb hr (fun t ht hW => ⟨⟨r_92, σ21, rfl, ⟨hIσ21, (mFr.tr frσ1 fcσ21 (by decide) (by decide)), trivial⟩, ⟨by rw [ht]; exact hP, hD⟩⟩, hS.F ht⟩) hS.2.2 dX12_period_19
set_option maxHeartbeats 8000000 in
set_option maxRecDepth 100000 in
theorem n_X12_fraction (l : Launch) (dC : Nat → ClassId) (dI : Nat → Nat → Nat) (ad : Nat → Nat) (cA : Nat → ClassId) (adK adV : Nat → Nat) (sz : Nat) (σ : gs) (hI : InvM σ) (p0 : Int32) (p1 : Int32) (p2 : Int32) (hh0 : Deep σ) : MetD lw_cs l yX12_fraction wsX12_fraction ({ frames := 4, cells := 0, slots := 0, locals := 110 }) (va_Pc [.ref (ad 0), .int p0, .int p1, .int p2] (gPre adK adV (dC, dI) (wM ad cA σ) (tM cA) sz)) (va_Ql (fun (r : Int64) (τ : gs) => InvM τ ∧ mFr [] [0, 1, 2] σ τ ∧ (True)) (fun τ t => gPost (dC, dI) (va_A (wM ad cA σ) sz) (wM ad cA τ) t) (va_A (wM ad cA σ) sz)) 0 0 (va_A (wM ad cA σ) sz) := by
  refine MetD.ofW (cc := cX12_fraction) (maxL := 4) (ret := (some .long)) (by decide) rfl ?_
  intro p e s m args below meth c s₁ B hml hv hd0
  obtain ⟨rfl, hsz, hP, hK, hD0, hT⟩ := hv
  have hx := B.exec
  have hb := B.bytes
  have hr := B.returns
  have hts0 := atoms_spec (ws := wsX12_fraction) B.pre
  have hK0 := hK
  have hown0 : s.vm.findClass RX12 = some m.cls := findClass_of_methodNamed B.named
  have hlocks := B.notSynchronized
  have hinX12 : ∀ w ∈ u_ws RX12 TX12 69, w ∈ wsX12_fraction := (fun _ h9 => List.mem_cons_of_mem _ (List.mem_append_right _ h9))
  subst hsz
  have hD := hD0.self (sz := s.heap.size)
  generalize hAe : va_A (wM ad cA σ) s.heap.size = A at hD hT ⊢
  have hA : ∀ q : Nat, s.heap.size ≤ q → A q := fun q h => by rw [← hAe]; exact Or.inr h
  have hS : va_S A s.heap s.heap [] := va_S.rf
  have hl := lv_entry ([.ref (ad 0), .int p0, .int p1, .int p2]) (n := 4) (Nat.le_of_ble_eq_true rfl)
  rw [lg_entry_eq]
  generalize (lg_sl ([.ref (ad 0), .int p0, .int p1, .int p2]) ++ List.replicate (4 - (lg_sl ([.ref (ad 0), .int p0, .int p1, .int p2])).length) Slot.unset).toArray = ls at hl ⊢
  have hl : lv_has ls 4 [(0, .ref (ad 0)), (1, .int p0), (2, .int p1), (3, .int p2)] := hl
  have hts := dr_words hts0 (s.drawn)
  have hK := gKd hK0 (s.drawn)
  have hown : (s.setDrawn (s.drawn)).vm.findClass RX12 = some m.cls := hown0
  refine lv_aload_n hx hb dX12_fraction_0 rfl (lv_at hl 0 rfl) ?_
  refine lv_iconst (v := 0) hx hb dX12_fraction_1 (by decide) ?_
  refine va_put (D := (dC, dI)) (ci := 11) (v := .int 0) (C := RX12) (T := TX12) (N := 69) hx hb hts hinX12 tyX12 tyX12_ok nmX12 hown hK hP hD hS 0 (mat_11 rfl) rfl 0 (by decide) (hts (.fieldLink RX12 107 "BondCalendarsModel" "thrown" "I") (by decide +kernel)) (fun _ h9 => h9) rfl (ty := .int) (by decide +kernel) rfl rfl (Nat.le_of_ble_eq_true rfl) dX12_fraction_2 (fun H locs hP hD hS => ?_)
  obtain ⟨σ1, eσ1, hP, hD⟩ := gPut (mse_11_0 rfl) hP hD
  have hIσ1 : InvM σ1 := by rw [eσ1]; exact minv_I hI (mok_11_0 rfl _)
  have frσ1 : mFr [] [0, 1, 2] σ σ1 := by rw [eσ1]; exact mFr.oI (mFr.rfl (L := []) (F := [0, 1, 2]) (σ := σ)) (by decide)
  refine lv_aload_n hx hb dX12_fraction_5 rfl (lv_at hl 0 rfl) ?_
  refine lv_iload_n hx hb dX12_fraction_6 rfl (lv_at hl 1 rfl) ?_
  refine lv_iload_n hx hb dX12_fraction_7 rfl (lv_at hl 2 rfl) ?_
  have hF := gFree hD hS hA
  refine va_calliD hd0 (va_runV_D (As := [.int p0, .int p1]) (rest := []) ⟨hx, hb, hml, hown, hts⟩ (n_X12_isPeriod l dC dI ad cA adK adV H.size σ1 hIσ1 p0 p1) (cwV 2 hts gX12_fraction_X12_isPeriod rfl rfl rfl (by decide +kernel) ⟨Nat.le_of_ble_eq_true rfl, Nat.le_of_ble_eq_true rfl⟩) ⟨gBlind, va_recv hK hP (ci := 11) (q0 := 0) rfl (mat_11 rfl), gStart (As := [.ref (ad 0), .int p0, .int p1]) hP hD hK0 hT hS hF (s.drawn)⟩ rfl rfl hl.1 rfl (lv_room (Nat.le_of_ble_eq_true rfl)) dX12_fraction_8 ⟨Nat.le_of_ble_eq_true rfl, Nat.le_of_ble_eq_true rfl⟩) hS (fun q _ h => hF q h) hF (fun r_1 σ2 t H locs ht hvm hw hB hz1 hk1 hS d_2 hd0 => ?_)
  have hts := dr_words hts0 (d_2)
  have hK := gKd hK0 (d_2)
  have hown : (s.setDrawn (d_2)).vm.findClass RX12 = some m.cls := hown0
  obtain ⟨hP, hD⟩ := gBack hF ht hB
  obtain ⟨hIσ2, hro, hp_3⟩ := hw
  subst hro
  have bd_4 := mrd_11_20 (c := 0) hI rfl
  have im_5 : (1 : Int32) ≤ (r_1 : Int32) → (p0 : Int32) < ((σ 0).1 20 : Int32) := fun h9 => lt_ch (Eq.refl _).symm (show ((σ1 0).1 20 : Int32) = ((σ 0).1 20 : Int32) from by rw [eσ1, gI_oth _ _ _ (by decide)]).symm (hp_3.2.2.1 (le_ch (Eq.refl _) (Eq.refl _) h9))
  have im_6 : (1 : Int32) ≤ (r_1 : Int32) → (p1 : Int32) < ((σ 17).1 p0.toNatClampNeg : Int32) := fun h9 => lt_ch (Eq.refl _).symm (show ((σ1 17).1 p0.toNatClampNeg : Int32) = ((σ 17).1 p0.toNatClampNeg : Int32) from by rw [eσ1, gI_ne _ _ _ (by decide)]).symm (hp_3.2.2.2.2.1 (le_ch (Eq.refl _) (Eq.refl _) h9))
  refine lv_if_ne (tgt := 23) hx hb dX12_fraction_11 (by decide) (fun c_7 => ?_) (fun c_7 => ?_)
  · refine lv_aload_n hx hb dX12_fraction_23 rfl (lv_at hl 0 rfl) ?_
    refine lv_iload_n hx hb dX12_fraction_24 rfl (lv_at hl 1 rfl) ?_
    refine lv_aload_n hx hb dX12_fraction_25 rfl (lv_at hl 0 rfl) ?_
    refine lv_iload_n hx hb dX12_fraction_26 rfl (lv_at hl 1 rfl) ?_
    refine lv_iload_n hx hb dX12_fraction_27 rfl (lv_at hl 2 rfl) ?_
    have hF := gFree hD hS hA
    refine va_calliD hd0 (va_runV_D (As := [.int p0, .int p1]) (rest := [.int p0, .ref (ad 0)]) ⟨hx, hb, hml, hown, hts⟩ (n_X12_startOf l dC dI ad cA adK adV H.size σ1 hIσ1 p0 p1 ((hp_3.2.1) (gl1 (b := 1) (ne_lt (b01_0 hp_3.1) c_7) (by decide))) (Int32.lt_of_lt_of_le (im_5 (gl1 (b := 1) (ne_lt (b01_0 hp_3.1) c_7) (by decide))) bd_4.2) ((hp_3.2.2.2.1) (gl1 (b := 1) (ne_lt (b01_0 hp_3.1) c_7) (by decide))) ((hp_3.2.2.2.2.2) (gl1 (b := 1) (ne_lt (b01_0 hp_3.1) c_7) (by decide)))) (cwV 2 hts gX12_fraction_X12_startOf rfl rfl rfl (by decide +kernel) ⟨Nat.le_of_ble_eq_true rfl, Nat.le_of_ble_eq_true rfl⟩) ⟨gBlind, va_recv hK hP (ci := 11) (q0 := 0) rfl (mat_11 rfl), gStart (As := [.ref (ad 0), .int p0, .int p1]) hP hD hK0 hT hS hF (d_2)⟩ rfl rfl hl.1 rfl (lv_room (Nat.le_of_ble_eq_true rfl)) dX12_fraction_28 ⟨Nat.le_of_ble_eq_true rfl, Nat.le_of_ble_eq_true rfl⟩) hS (fun q _ h => hF q h) hF (fun r_8 σ3 t H locs ht hvm hw hB hz1 hk1 hS d_9 hd0 => ?_)
    have hts := dr_words hts0 (d_9)
    have hK := gKd hK0 (d_9)
    have hown : (s.setDrawn (d_9)).vm.findClass RX12 = some m.cls := hown0
    obtain ⟨hP, hD⟩ := gBack hF ht hB
    obtain ⟨hIσ3, hro, hp_10⟩ := hw
    subst hro
    refine lv_aload_n hx hb dX12_fraction_31 rfl (lv_at hl 0 rfl) ?_
    refine lv_iload_n hx hb dX12_fraction_32 rfl (lv_at hl 1 rfl) ?_
    refine lv_iload_n hx hb dX12_fraction_33 rfl (lv_at hl 2 rfl) ?_
    have hF := gFree hD hS hA
    refine va_calliD hd0 (va_runV_D (As := [.int p0, .int p1]) (rest := [.int r_8, .int p0, .ref (ad 0)]) ⟨hx, hb, hml, hown, hts⟩ (n_X12_endOf l dC dI ad cA adK adV H.size σ1 hIσ1 p0 p1 ((hp_3.2.1) (gl1 (b := 1) (ne_lt (b01_0 hp_3.1) c_7) (by decide))) (Int32.lt_of_lt_of_le (im_5 (gl1 (b := 1) (ne_lt (b01_0 hp_3.1) c_7) (by decide))) bd_4.2) ((hp_3.2.2.2.1) (gl1 (b := 1) (ne_lt (b01_0 hp_3.1) c_7) (by decide))) ((hp_3.2.2.2.2.2) (gl1 (b := 1) (ne_lt (b01_0 hp_3.1) c_7) (by decide)))) (cwV 2 hts gX12_fraction_X12_endOf rfl rfl rfl (by decide +kernel) ⟨Nat.le_of_ble_eq_true rfl, Nat.le_of_ble_eq_true rfl⟩) ⟨gBlind, va_recv hK hP (ci := 11) (q0 := 0) rfl (mat_11 rfl), gStart (As := [.ref (ad 0), .int p0, .int p1]) hP hD hK0 hT hS hF (d_9)⟩ rfl rfl hl.1 rfl (lv_room (Nat.le_of_ble_eq_true rfl)) dX12_fraction_34 ⟨Nat.le_of_ble_eq_true rfl, Nat.le_of_ble_eq_true rfl⟩) hS (fun q _ h => hF q h) hF (fun r_11 σ4 t H locs ht hvm hw hB hz1 hk1 hS d_12 hd0 => ?_)
    have hts := dr_words hts0 (d_12)
    have hK := gKd hK0 (d_12)
    have hown : (s.setDrawn (d_12)).vm.findClass RX12 = some m.cls := hown0
    obtain ⟨hP, hD⟩ := gBack hF ht hB
    obtain ⟨hIσ4, hro, hp_13⟩ := hw
    subst hro
    have eo_14 : ∀ j : Nat, (j : Int) = 82 * p0.toInt + p1.toInt → r_11 = (σ 18).1 j := fun j hj => by have h7 := hp_13.2.2 j hj; rw [eσ1, gI_ne _ _ _ (by decide)] at h7; exact h7
    have hF := gFree hD hS hA
    refine va_callvD hd0 (va_runV_D (As := [.int p0, .int r_8, .int r_11]) (rest := []) ⟨hx, hb, hml, hown, hts⟩ (n_X12_counts l dC dI ad cA adK adV H.size σ1 hIσ1 p0 r_8 r_11 ((hp_3.2.1) (gl1 (b := 1) (ne_lt (b01_0 hp_3.1) c_7) (by decide))) (Int32.lt_of_lt_of_le (im_5 (gl1 (b := 1) (ne_lt (b01_0 hp_3.1) c_7) (by decide))) bd_4.2) ((Deep.fr hh0 (by rw [eσ1, gI_ne _ _ _ (by decide)]) (by rw [eσ1, gI_ne _ _ _ (by decide)]) (by rw [eσ1, gI_ne _ _ _ (by decide)]) (by rw [eσ1, gI_ne _ _ _ (by decide)]) (by rw [eσ1, gI_ne _ _ _ (by decide)]) (by rw [eσ1, gI_ne _ _ _ (by decide)]) (by rw [eσ1, gI_ne _ _ _ (by decide)]) (by rw [eσ1, gI_oth _ _ _ (by decide)]) (by rw [eσ1, gI_oth _ _ _ (by decide)]) (by rw [eσ1, gI_oth _ _ _ (by decide)]) (by rw [eσ1, gI_oth _ _ _ (by decide)]) (by rw [eσ1, gI_oth _ _ _ (by decide)]) (by rw [eσ1, gI_oth _ _ _ (by decide)])).1 _ (nc_lt ((hp_3.2.1) (gl1 (b := 1) (ne_lt (b01_0 hp_3.1) c_7) (by decide))) (lt_ch (Eq.refl _) (show ((σ1 0).1 20 : Int32) = ((σ 0).1 20 : Int32) from by rw [eσ1, gI_oth _ _ _ (by decide)]) (im_5 (gl1 (b := 1) (ne_lt (b01_0 hp_3.1) c_7) (by decide)))))).1) (cwV 3 hts gX12_fraction_X12_counts rfl rfl rfl (by decide +kernel) ⟨Nat.le_of_ble_eq_true rfl, Nat.le_of_ble_eq_true rfl⟩) ⟨gBlind, va_recv hK hP (ci := 11) (q0 := 0) rfl (mat_11 rfl), gStart (As := [.ref (ad 0), .int p0, .int r_8, .int r_11]) hP hD hK0 hT hS hF (d_12)⟩ rfl rfl hl.1 rfl (lv_room (Nat.le_of_ble_eq_true rfl)) dX12_fraction_37 ⟨Nat.le_of_ble_eq_true rfl, Nat.le_of_ble_eq_true rfl⟩) hS (fun q _ h => hF q h) hF (fun σ5 t H locs ht hvm hw hB hz1 hk1 hS d_16 hd0 => ?_)
    have hts := dr_words hts0 (d_16)
    have hK := gKd hK0 (d_16)
    have hown : (s.setDrawn (d_16)).vm.findClass RX12 = some m.cls := hown0
    obtain ⟨hP, hD⟩ := gBack hF ht hB
    obtain ⟨hIσ5, fcσ5, hp_17⟩ := hw
    refine lv_aload_n hx hb dX12_fraction_40 rfl (lv_at hl 0 rfl) ?_
    refine lv_iload_n hx hb dX12_fraction_41 rfl (lv_at hl 3 rfl) ?_
    have hF := gFree hD hS hA
    refine va_calllD hd0 (va_runV_D (As := [.int p2]) (rest := []) ⟨hx, hb, hml, hown, hts⟩ (n_X12_part l dC dI ad cA adK adV H.size σ5 hIσ5 p2) (cwV 1 hts gX12_fraction_X12_part rfl rfl rfl (by decide +kernel) ⟨Nat.le_of_ble_eq_true rfl, Nat.le_of_ble_eq_true rfl⟩) ⟨gBlind, va_recv hK hP (ci := 11) (q0 := 0) rfl (mat_11 rfl), gStart (As := [.ref (ad 0), .int p2]) hP hD hK0 hT hS hF (d_16)⟩ rfl rfl hl.1 rfl (lv_room (Nat.le_of_ble_eq_true rfl)) dX12_fraction_42 ⟨Nat.le_of_ble_eq_true rfl, Nat.le_of_ble_eq_true rfl⟩) hS (fun q _ h => hF q h) hF (fun r_18 σ6 t H locs ht hvm hw hB hz1 hk1 hS d_19 hd0 => ?_)
    have hts := dr_words hts0 (d_19)
    have hK := gKd hK0 (d_19)
    have hown : (s.setDrawn (d_19)).vm.findClass RX12 = some m.cls := hown0
    obtain ⟨hP, hD⟩ := gBack hF ht hB
    obtain ⟨hIσ6, fcσ6, hp_20⟩ := hw
    refine W.endD hd0 ?_
    exact W.lret (v := r_18) hx hb hr (fun t ht hW => ⟨⟨r_18, σ6, rfl, ⟨hIσ6, (mFr.tr (mFr.tr frσ1 fcσ5 (by decide) (by decide)) fcσ6 (by decide) (by decide)), trivial⟩, ⟨by rw [ht]; exact hP, hD⟩⟩, hS.F ht⟩) hS.2.2 dX12_fraction_45
  · refine lv_aload_n hx hb dX12_fraction_14 rfl (lv_at hl 0 rfl) ?_
    refine lv_iconst (v := 1) hx hb dX12_fraction_15 (by decide) ?_
    refine lv_ldc2 (v := (-1)) hx hb hown (hts (.constantLong RX12 428 (-1)) (by decide +kernel)) dX12_fraction_16 ?_
    have hF := gFree hD hS hA
    refine va_calllD hd0 (va_runV_D (As := [.int 1, .long (-1)]) (rest := []) ⟨hx, hb, hml, hown, hts⟩ (n_X12_refusedLong l dC dI ad cA adK adV H.size σ1 hIσ1 1 (-1)) (cwV 2 hts gX12_fraction_X12_refusedLong rfl rfl rfl (by decide +kernel) ⟨Nat.le_of_ble_eq_true rfl, Nat.le_of_ble_eq_true rfl⟩) ⟨gBlind, va_recv hK hP (ci := 11) (q0 := 0) rfl (mat_11 rfl), gStart (As := [.ref (ad 0), .int 1, .long (-1)]) hP hD hK0 hT hS hF (d_2)⟩ rfl rfl hl.1 rfl (lv_room (Nat.le_of_ble_eq_true rfl)) dX12_fraction_19 ⟨Nat.le_of_ble_eq_true rfl, Nat.le_of_ble_eq_true rfl⟩) hS (fun q _ h => hF q h) hF (fun r_21 σ7 t H locs ht hvm hw hB hz1 hk1 hS d_22 hd0 => ?_)
    have hts := dr_words hts0 (d_22)
    have hK := gKd hK0 (d_22)
    have hown : (s.setDrawn (d_22)).vm.findClass RX12 = some m.cls := hown0
    obtain ⟨hP, hD⟩ := gBack hF ht hB
    obtain ⟨hIσ7, fcσ7, hp_23⟩ := hw
    refine W.endD hd0 ?_
    exact W.lret (v := r_21) hx hb hr (fun t ht hW => ⟨⟨r_21, σ7, rfl, ⟨hIσ7, (mFr.tr frσ1 fcσ7 (by decide) (by decide)), trivial⟩, ⟨by rw [ht]; exact hP, hD⟩⟩, hS.F ht⟩) hS.2.2 dX12_fraction_22
set_option maxHeartbeats 8000000 in
set_option maxRecDepth 100000 in
theorem n_X12_coupon (l : Launch) (dC : Nat → ClassId) (dI : Nat → Nat → Nat) (ad : Nat → Nat) (cA : Nat → ClassId) (adK adV : Nat → Nat) (sz : Nat) (σ : gs) (hI : InvM σ) (p0 : Int32) (p1 : Int32) (p2 : Int32) (hh0 : Deep σ) : MetD lw_cs l yX12_coupon wsX12_coupon ({ frames := 5, cells := 0, slots := 0, locals := 132 }) (va_Pc [.ref (ad 0), .int p0, .int p1, .int p2] (gPre adK adV (dC, dI) (wM ad cA σ) (tM cA) sz)) (va_Ql (fun (r : Int64) (τ : gs) => InvM τ ∧ mFr [] [0, 1, 2] σ τ ∧ (True)) (fun τ t => gPost (dC, dI) (va_A (wM ad cA σ) sz) (wM ad cA τ) t) (va_A (wM ad cA σ) sz)) 0 0 (va_A (wM ad cA σ) sz) := by
  refine MetD.ofW (cc := cX12_coupon) (maxL := 4) (ret := (some .long)) (by decide) rfl ?_
  intro p e s m args below meth c s₁ B hml hv hd0
  obtain ⟨rfl, hsz, hP, hK, hD0, hT⟩ := hv
  have hx := B.exec
  have hb := B.bytes
  have hr := B.returns
  have hts0 := atoms_spec (ws := wsX12_coupon) B.pre
  have hK0 := hK
  have hown0 : s.vm.findClass RX12 = some m.cls := findClass_of_methodNamed B.named
  have hlocks := B.notSynchronized
  have hinX12 : ∀ w ∈ u_ws RX12 TX12 69, w ∈ wsX12_coupon := (fun _ h9 => List.mem_cons_of_mem _ (List.mem_append_right _ h9))
  subst hsz
  have hD := hD0.self (sz := s.heap.size)
  generalize hAe : va_A (wM ad cA σ) s.heap.size = A at hD hT ⊢
  have hA : ∀ q : Nat, s.heap.size ≤ q → A q := fun q h => by rw [← hAe]; exact Or.inr h
  have hS : va_S A s.heap s.heap [] := va_S.rf
  have hl := lv_entry ([.ref (ad 0), .int p0, .int p1, .int p2]) (n := 4) (Nat.le_of_ble_eq_true rfl)
  rw [lg_entry_eq]
  generalize (lg_sl ([.ref (ad 0), .int p0, .int p1, .int p2]) ++ List.replicate (4 - (lg_sl ([.ref (ad 0), .int p0, .int p1, .int p2])).length) Slot.unset).toArray = ls at hl ⊢
  have hl : lv_has ls 4 [(0, .ref (ad 0)), (1, .int p0), (2, .int p1), (3, .int p2)] := hl
  have hts := dr_words hts0 (s.drawn)
  have hK := gKd hK0 (s.drawn)
  have hown : (s.setDrawn (s.drawn)).vm.findClass RX12 = some m.cls := hown0
  refine lv_aload_n hx hb dX12_coupon_0 rfl (lv_at hl 0 rfl) ?_
  refine lv_iconst (v := 0) hx hb dX12_coupon_1 (by decide) ?_
  refine va_put (D := (dC, dI)) (ci := 11) (v := .int 0) (C := RX12) (T := TX12) (N := 69) hx hb hts hinX12 tyX12 tyX12_ok nmX12 hown hK hP hD hS 0 (mat_11 rfl) rfl 0 (by decide) (hts (.fieldLink RX12 107 "BondCalendarsModel" "thrown" "I") (by decide +kernel)) (fun _ h9 => h9) rfl (ty := .int) (by decide +kernel) rfl rfl (Nat.le_of_ble_eq_true rfl) dX12_coupon_2 (fun H locs hP hD hS => ?_)
  obtain ⟨σ1, eσ1, hP, hD⟩ := gPut (mse_11_0 rfl) hP hD
  have hIσ1 : InvM σ1 := by rw [eσ1]; exact minv_I hI (mok_11_0 rfl _)
  have frσ1 : mFr [] [0, 1, 2] σ σ1 := by rw [eσ1]; exact mFr.oI (mFr.rfl (L := []) (F := [0, 1, 2]) (σ := σ)) (by decide)
  refine lv_aload_n hx hb dX12_coupon_5 rfl (lv_at hl 0 rfl) ?_
  refine lv_iload_n hx hb dX12_coupon_6 rfl (lv_at hl 1 rfl) ?_
  refine lv_iload_n hx hb dX12_coupon_7 rfl (lv_at hl 2 rfl) ?_
  have hF := gFree hD hS hA
  refine va_calliD hd0 (va_runV_D (As := [.int p0, .int p1]) (rest := []) ⟨hx, hb, hml, hown, hts⟩ (n_X12_isPeriod l dC dI ad cA adK adV H.size σ1 hIσ1 p0 p1) (cwV 2 hts gX12_coupon_X12_isPeriod rfl rfl rfl (by decide +kernel) ⟨Nat.le_of_ble_eq_true rfl, Nat.le_of_ble_eq_true rfl⟩) ⟨gBlind, va_recv hK hP (ci := 11) (q0 := 0) rfl (mat_11 rfl), gStart (As := [.ref (ad 0), .int p0, .int p1]) hP hD hK0 hT hS hF (s.drawn)⟩ rfl rfl hl.1 rfl (lv_room (Nat.le_of_ble_eq_true rfl)) dX12_coupon_8 ⟨Nat.le_of_ble_eq_true rfl, Nat.le_of_ble_eq_true rfl⟩) hS (fun q _ h => hF q h) hF (fun r_1 σ2 t H locs ht hvm hw hB hz1 hk1 hS d_2 hd0 => ?_)
  have hts := dr_words hts0 (d_2)
  have hK := gKd hK0 (d_2)
  have hown : (s.setDrawn (d_2)).vm.findClass RX12 = some m.cls := hown0
  obtain ⟨hP, hD⟩ := gBack hF ht hB
  obtain ⟨hIσ2, hro, hp_3⟩ := hw
  subst hro
  have bd_4 := mrd_11_20 (c := 0) hI rfl
  have im_5 : (1 : Int32) ≤ (r_1 : Int32) → (p0 : Int32) < ((σ 0).1 20 : Int32) := fun h9 => lt_ch (Eq.refl _).symm (show ((σ1 0).1 20 : Int32) = ((σ 0).1 20 : Int32) from by rw [eσ1, gI_oth _ _ _ (by decide)]).symm (hp_3.2.2.1 (le_ch (Eq.refl _) (Eq.refl _) h9))
  have im_6 : (1 : Int32) ≤ (r_1 : Int32) → (p1 : Int32) < ((σ 17).1 p0.toNatClampNeg : Int32) := fun h9 => lt_ch (Eq.refl _).symm (show ((σ1 17).1 p0.toNatClampNeg : Int32) = ((σ 17).1 p0.toNatClampNeg : Int32) from by rw [eσ1, gI_ne _ _ _ (by decide)]).symm (hp_3.2.2.2.2.1 (le_ch (Eq.refl _) (Eq.refl _) h9))
  refine lv_if_ne (tgt := 23) hx hb dX12_coupon_11 (by decide) (fun c_7 => ?_) (fun c_7 => ?_)
  · refine lv_aload_n hx hb dX12_coupon_23 rfl (lv_at hl 0 rfl) ?_
    refine lv_iload_n hx hb dX12_coupon_24 rfl (lv_at hl 1 rfl) ?_
    refine lv_iload_n hx hb dX12_coupon_25 rfl (lv_at hl 2 rfl) ?_
    have hF := gFree hD hS hA
    refine va_callvD hd0 (va_runV_D (As := [.int p0, .int p1]) (rest := []) ⟨hx, hb, hml, hown, hts⟩ (n_X12_coupons l dC dI ad cA adK adV H.size σ1 hIσ1 p0 p1 ((hp_3.2.1) (gl1 (b := 1) (ne_lt (b01_0 hp_3.1) c_7) (by decide))) (Int32.lt_of_lt_of_le (im_5 (gl1 (b := 1) (ne_lt (b01_0 hp_3.1) c_7) (by decide))) bd_4.2) ((hp_3.2.2.2.1) (gl1 (b := 1) (ne_lt (b01_0 hp_3.1) c_7) (by decide))) ((hp_3.2.2.2.2.2) (gl1 (b := 1) (ne_lt (b01_0 hp_3.1) c_7) (by decide))) ((Deep.fr hh0 (by rw [eσ1, gI_ne _ _ _ (by decide)]) (by rw [eσ1, gI_ne _ _ _ (by decide)]) (by rw [eσ1, gI_ne _ _ _ (by decide)]) (by rw [eσ1, gI_ne _ _ _ (by decide)]) (by rw [eσ1, gI_ne _ _ _ (by decide)]) (by rw [eσ1, gI_ne _ _ _ (by decide)]) (by rw [eσ1, gI_ne _ _ _ (by decide)]) (by rw [eσ1, gI_oth _ _ _ (by decide)]) (by rw [eσ1, gI_oth _ _ _ (by decide)]) (by rw [eσ1, gI_oth _ _ _ (by decide)]) (by rw [eσ1, gI_oth _ _ _ (by decide)]) (by rw [eσ1, gI_oth _ _ _ (by decide)]) (by rw [eσ1, gI_oth _ _ _ (by decide)])).1 _ (nc_lt ((hp_3.2.1) (gl1 (b := 1) (ne_lt (b01_0 hp_3.1) c_7) (by decide))) (lt_ch (Eq.refl _) (show ((σ1 0).1 20 : Int32) = ((σ 0).1 20 : Int32) from by rw [eσ1, gI_oth _ _ _ (by decide)]) (im_5 (gl1 (b := 1) (ne_lt (b01_0 hp_3.1) c_7) (by decide)))))).1) (cwV 2 hts gX12_coupon_X12_coupons rfl rfl rfl (by decide +kernel) ⟨Nat.le_of_ble_eq_true rfl, Nat.le_of_ble_eq_true rfl⟩) ⟨gBlind, va_recv hK hP (ci := 11) (q0 := 0) rfl (mat_11 rfl), gStart (As := [.ref (ad 0), .int p0, .int p1]) hP hD hK0 hT hS hF (d_2)⟩ rfl rfl hl.1 rfl (lv_room (Nat.le_of_ble_eq_true rfl)) dX12_coupon_26 ⟨Nat.le_of_ble_eq_true rfl, Nat.le_of_ble_eq_true rfl⟩) hS (fun q _ h => hF q h) hF (fun σ3 t H locs ht hvm hw hB hz1 hk1 hS d_9 hd0 => ?_)
    have hts := dr_words hts0 (d_9)
    have hK := gKd hK0 (d_9)
    have hown : (s.setDrawn (d_9)).vm.findClass RX12 = some m.cls := hown0
    obtain ⟨hP, hD⟩ := gBack hF ht hB
    obtain ⟨hIσ3, fcσ3, hp_10⟩ := hw
    refine lv_aload_n hx hb dX12_coupon_29 rfl (lv_at hl 0 rfl) ?_
    refine lv_iload_n hx hb dX12_coupon_30 rfl (lv_at hl 3 rfl) ?_
    have hF := gFree hD hS hA
    refine va_calllD hd0 (va_runV_D (As := [.int p2]) (rest := []) ⟨hx, hb, hml, hown, hts⟩ (n_X12_part l dC dI ad cA adK adV H.size σ3 hIσ3 p2) (cwV 1 hts gX12_coupon_X12_part rfl rfl rfl (by decide +kernel) ⟨Nat.le_of_ble_eq_true rfl, Nat.le_of_ble_eq_true rfl⟩) ⟨gBlind, va_recv hK hP (ci := 11) (q0 := 0) rfl (mat_11 rfl), gStart (As := [.ref (ad 0), .int p2]) hP hD hK0 hT hS hF (d_9)⟩ rfl rfl hl.1 rfl (lv_room (Nat.le_of_ble_eq_true rfl)) dX12_coupon_31 ⟨Nat.le_of_ble_eq_true rfl, Nat.le_of_ble_eq_true rfl⟩) hS (fun q _ h => hF q h) hF (fun r_11 σ4 t H locs ht hvm hw hB hz1 hk1 hS d_12 hd0 => ?_)
    have hts := dr_words hts0 (d_12)
    have hK := gKd hK0 (d_12)
    have hown : (s.setDrawn (d_12)).vm.findClass RX12 = some m.cls := hown0
    obtain ⟨hP, hD⟩ := gBack hF ht hB
    obtain ⟨hIσ4, fcσ4, hp_13⟩ := hw
    refine W.endD hd0 ?_
    exact W.lret (v := r_11) hx hb hr (fun t ht hW => ⟨⟨r_11, σ4, rfl, ⟨hIσ4, (mFr.tr (mFr.tr frσ1 fcσ3 (by decide) (by decide)) fcσ4 (by decide) (by decide)), trivial⟩, ⟨by rw [ht]; exact hP, hD⟩⟩, hS.F ht⟩) hS.2.2 dX12_coupon_34
  · refine lv_aload_n hx hb dX12_coupon_14 rfl (lv_at hl 0 rfl) ?_
    refine lv_iconst (v := 1) hx hb dX12_coupon_15 (by decide) ?_
    refine lv_ldc2 (v := (-1)) hx hb hown (hts (.constantLong RX12 428 (-1)) (by decide +kernel)) dX12_coupon_16 ?_
    have hF := gFree hD hS hA
    refine va_calllD hd0 (va_runV_D (As := [.int 1, .long (-1)]) (rest := []) ⟨hx, hb, hml, hown, hts⟩ (n_X12_refusedLong l dC dI ad cA adK adV H.size σ1 hIσ1 1 (-1)) (cwV 2 hts gX12_coupon_X12_refusedLong rfl rfl rfl (by decide +kernel) ⟨Nat.le_of_ble_eq_true rfl, Nat.le_of_ble_eq_true rfl⟩) ⟨gBlind, va_recv hK hP (ci := 11) (q0 := 0) rfl (mat_11 rfl), gStart (As := [.ref (ad 0), .int 1, .long (-1)]) hP hD hK0 hT hS hF (d_2)⟩ rfl rfl hl.1 rfl (lv_room (Nat.le_of_ble_eq_true rfl)) dX12_coupon_19 ⟨Nat.le_of_ble_eq_true rfl, Nat.le_of_ble_eq_true rfl⟩) hS (fun q _ h => hF q h) hF (fun r_14 σ5 t H locs ht hvm hw hB hz1 hk1 hS d_15 hd0 => ?_)
    have hts := dr_words hts0 (d_15)
    have hK := gKd hK0 (d_15)
    have hown : (s.setDrawn (d_15)).vm.findClass RX12 = some m.cls := hown0
    obtain ⟨hP, hD⟩ := gBack hF ht hB
    obtain ⟨hIσ5, fcσ5, hp_16⟩ := hw
    refine W.endD hd0 ?_
    exact W.lret (v := r_14) hx hb hr (fun t ht hW => ⟨⟨r_14, σ5, rfl, ⟨hIσ5, (mFr.tr frσ1 fcσ5 (by decide) (by decide)), trivial⟩, ⟨by rw [ht]; exact hP, hD⟩⟩, hS.F ht⟩) hS.2.2 dX12_coupon_22
set_option maxHeartbeats 8000000 in
set_option maxRecDepth 100000 in
theorem n_X12_current (l : Launch) (dC : Nat → ClassId) (dI : Nat → Nat → Nat) (ad : Nat → Nat) (cA : Nat → ClassId) (adK adV : Nat → Nat) (sz : Nat) (σ : gs) (hI : InvM σ) (p0 : Int32) (p1 : Int32) (hh0 : Deep σ) : MetD lw_cs l yX12_current wsX12_current ({ frames := 3, cells := 0, slots := 0, locals := 66 }) (va_Pc [.ref (ad 0), .int p0, .int p1] (gPre adK adV (dC, dI) (wM ad cA σ) (tM cA) sz)) (va_Qi (fun (r : Int32) (τ : gs) => InvM τ ∧ mFr [] [0, 1, 2] σ τ ∧ (True)) (fun τ t => gPost (dC, dI) (va_A (wM ad cA σ) sz) (wM ad cA τ) t) (va_A (wM ad cA σ) sz)) 0 0 (va_A (wM ad cA σ) sz) := by
  refine MetD.ofW (cc := cX12_current) (maxL := 4) (ret := (some .int)) (by decide) rfl ?_
  intro p e s m args below meth c s₁ B hml hv hd0
  obtain ⟨rfl, hsz, hP, hK, hD0, hT⟩ := hv
  have hx := B.exec
  have hb := B.bytes
  have hr := B.returns
  have hts0 := atoms_spec (ws := wsX12_current) B.pre
  have hK0 := hK
  have hown0 : s.vm.findClass RX12 = some m.cls := findClass_of_methodNamed B.named
  have hlocks := B.notSynchronized
  have hinX12 : ∀ w ∈ u_ws RX12 TX12 69, w ∈ wsX12_current := (fun _ h9 => List.mem_cons_of_mem _ (List.mem_append_right _ h9))
  subst hsz
  have hD := hD0.self (sz := s.heap.size)
  generalize hAe : va_A (wM ad cA σ) s.heap.size = A at hD hT ⊢
  have hA : ∀ q : Nat, s.heap.size ≤ q → A q := fun q h => by rw [← hAe]; exact Or.inr h
  have hS : va_S A s.heap s.heap [] := va_S.rf
  have hl := lv_entry ([.ref (ad 0), .int p0, .int p1]) (n := 4) (Nat.le_of_ble_eq_true rfl)
  rw [lg_entry_eq]
  generalize (lg_sl ([.ref (ad 0), .int p0, .int p1]) ++ List.replicate (4 - (lg_sl ([.ref (ad 0), .int p0, .int p1])).length) Slot.unset).toArray = ls at hl ⊢
  have hl : lv_has ls 4 [(0, .ref (ad 0)), (1, .int p0), (2, .int p1)] := hl
  have hts := dr_words hts0 (s.drawn)
  have hK := gKd hK0 (s.drawn)
  have hown : (s.setDrawn (s.drawn)).vm.findClass RX12 = some m.cls := hown0
  refine lv_aload_n hx hb dX12_current_0 rfl (lv_at hl 0 rfl) ?_
  refine lv_iconst (v := 0) hx hb dX12_current_1 (by decide) ?_
  refine va_put (D := (dC, dI)) (ci := 11) (v := .int 0) (C := RX12) (T := TX12) (N := 69) hx hb hts hinX12 tyX12 tyX12_ok nmX12 hown hK hP hD hS 0 (mat_11 rfl) rfl 0 (by decide) (hts (.fieldLink RX12 107 "BondCalendarsModel" "thrown" "I") (by decide +kernel)) (fun _ h9 => h9) rfl (ty := .int) (by decide +kernel) rfl rfl (Nat.le_of_ble_eq_true rfl) dX12_current_2 (fun H locs hP hD hS => ?_)
  obtain ⟨σ1, eσ1, hP, hD⟩ := gPut (mse_11_0 rfl) hP hD
  have hIσ1 : InvM σ1 := by rw [eσ1]; exact minv_I hI (mok_11_0 rfl _)
  have frσ1 : mFr [] [0, 1, 2] σ σ1 := by rw [eσ1]; exact mFr.oI (mFr.rfl (L := []) (F := [0, 1, 2]) (σ := σ)) (by decide)
  refine lv_aload_n hx hb dX12_current_5 rfl (lv_at hl 0 rfl) ?_
  refine lv_iload_n hx hb dX12_current_6 rfl (lv_at hl 1 rfl) ?_
  refine lv_iload_n hx hb dX12_current_7 rfl (lv_at hl 2 rfl) ?_
  have hF := gFree hD hS hA
  refine va_calliD hd0 (va_runV_D (As := [.int p0, .int p1]) (rest := []) ⟨hx, hb, hml, hown, hts⟩ (n_X12_refuses l dC dI ad cA adK adV H.size σ1 hIσ1 p0 p1) (cwV 2 hts gX12_current_X12_refuses rfl rfl rfl (by decide +kernel) ⟨Nat.le_of_ble_eq_true rfl, Nat.le_of_ble_eq_true rfl⟩) ⟨gBlind, va_recv hK hP (ci := 11) (q0 := 0) rfl (mat_11 rfl), gStart (As := [.ref (ad 0), .int p0, .int p1]) hP hD hK0 hT hS hF (s.drawn)⟩ rfl rfl hl.1 rfl (lv_room (Nat.le_of_ble_eq_true rfl)) dX12_current_8 ⟨Nat.le_of_ble_eq_true rfl, Nat.le_of_ble_eq_true rfl⟩) hS (fun q _ h => hF q h) hF (fun r_1 σ2 t H locs ht hvm hw hB hz1 hk1 hS d_2 hd0 => ?_)
  have hts := dr_words hts0 (d_2)
  have hK := gKd hK0 (d_2)
  have hown : (s.setDrawn (d_2)).vm.findClass RX12 = some m.cls := hown0
  obtain ⟨hP, hD⟩ := gBack hF ht hB
  obtain ⟨hIσ2, hro, hp_3⟩ := hw
  subst hro
  have bd_4 := mrd_11_20 (c := 0) hI rfl
  have im_5 : (r_1 : Int32) ≤ (0 : Int32) → (p0 : Int32) < ((σ 0).1 20 : Int32) := fun h9 => lt_ch (Eq.refl _).symm (show ((σ1 0).1 20 : Int32) = ((σ 0).1 20 : Int32) from by rw [eσ1, gI_oth _ _ _ (by decide)]).symm (hp_3.2.1 (le_ch (Eq.refl _) (Eq.refl _) h9))
  have im_6 : (r_1 : Int32) ≤ (0 : Int32) → (p1 : Int32) < ((σ 4).1 p0.toNatClampNeg : Int32) := fun h9 => lt_ch (Eq.refl _).symm (show ((σ1 4).1 p0.toNatClampNeg : Int32) = ((σ 4).1 p0.toNatClampNeg : Int32) from by rw [eσ1, gI_ne _ _ _ (by decide)]).symm (hp_3.2.2 (le_ch (Eq.refl _) (Eq.refl _) h9))
  refine lv_istore_n (lv' := [(3, .int r_1), (0, .ref (ad 0)), (1, .int p0), (2, .int p1)]) hx hb dX12_current_11 rfl hl (by decide) rfl (fun ls hl => ?_)
  refine lv_iload_n hx hb dX12_current_12 rfl (lv_at hl 0 rfl) ?_
  refine lv_if_le (tgt := 22) hx hb dX12_current_13 (by decide) (fun c_7 => ?_) (fun c_7 => ?_)
  · refine lv_aload_n hx hb dX12_current_22 rfl (lv_at hl 1 rfl) ?_
    refine lv_aload_n hx hb dX12_current_23 rfl (lv_at hl 1 rfl) ?_
    refine lv_iload_n hx hb dX12_current_24 rfl (lv_at hl 2 rfl) ?_
    refine lv_iload_n hx hb dX12_current_25 rfl (lv_at hl 3 rfl) ?_
    have hF := gFree hD hS hA
    refine va_calliD hd0 (va_runV_D (As := [.int p0, .int p1]) (rest := [.ref (ad 0)]) ⟨hx, hb, hml, hown, hts⟩ (n_X12_currentOf l dC dI ad cA adK adV H.size σ1 hIσ1 p0 p1 ((hp_3.1) c_7) (Int32.lt_of_lt_of_le (im_5 c_7) bd_4.2) ((Deep.fr hh0 (by rw [eσ1, gI_ne _ _ _ (by decide)]) (by rw [eσ1, gI_ne _ _ _ (by decide)]) (by rw [eσ1, gI_ne _ _ _ (by decide)]) (by rw [eσ1, gI_ne _ _ _ (by decide)]) (by rw [eσ1, gI_ne _ _ _ (by decide)]) (by rw [eσ1, gI_ne _ _ _ (by decide)]) (by rw [eσ1, gI_ne _ _ _ (by decide)]) (by rw [eσ1, gI_oth _ _ _ (by decide)]) (by rw [eσ1, gI_oth _ _ _ (by decide)]) (by rw [eσ1, gI_oth _ _ _ (by decide)]) (by rw [eσ1, gI_oth _ _ _ (by decide)]) (by rw [eσ1, gI_oth _ _ _ (by decide)]) (by rw [eσ1, gI_oth _ _ _ (by decide)])).1 _ (nc_lt ((hp_3.1) c_7) (lt_ch (Eq.refl _) (show ((σ1 0).1 20 : Int32) = ((σ 0).1 20 : Int32) from by rw [eσ1, gI_oth _ _ _ (by decide)]) (im_5 c_7)))).2.1 (lt_ch (Eq.refl _) (show ((σ1 4).1 p0.toNatClampNeg : Int32) = ((σ 4).1 p0.toNatClampNeg : Int32) from by rw [eσ1, gI_ne _ _ _ (by decide)]) (im_6 c_7))) (cwV 2 hts gX12_current_X12_currentOf rfl rfl rfl (by decide +kernel) ⟨Nat.le_of_ble_eq_true rfl, Nat.le_of_ble_eq_true rfl⟩) ⟨gBlind, va_recv hK hP (ci := 11) (q0 := 0) rfl (mat_11 rfl), gStart (As := [.ref (ad 0), .int p0, .int p1]) hP hD hK0 hT hS hF (d_2)⟩ rfl rfl hl.1 rfl (lv_room (Nat.le_of_ble_eq_true rfl)) dX12_current_26 ⟨Nat.le_of_ble_eq_true rfl, Nat.le_of_ble_eq_true rfl⟩) hS (fun q _ h => hF q h) hF (fun r_8 σ3 t H locs ht hvm hw hB hz1 hk1 hS d_9 hd0 => ?_)
    have hts := dr_words hts0 (d_9)
    have hK := gKd hK0 (d_9)
    have hown : (s.setDrawn (d_9)).vm.findClass RX12 = some m.cls := hown0
    obtain ⟨hP, hD⟩ := gBack hF ht hB
    obtain ⟨hIσ3, hro, hp_10⟩ := hw
    subst hro
    have of_11 : (r_8 : Int32) < ((σ 17).1 p0.toNatClampNeg : Int32) := lt_ch (Eq.refl _).symm (show ((σ1 17).1 p0.toNatClampNeg : Int32) = ((σ 17).1 p0.toNatClampNeg : Int32) from by rw [eσ1, gI_ne _ _ _ (by decide)]).symm hp_10.2.2
    have hF := gFree hD hS hA
    refine va_calliD hd0 (va_runV_D (As := [.int r_8]) (rest := []) ⟨hx, hb, hml, hown, hts⟩ (n_X12_good l dC dI ad cA adK adV H.size σ1 hIσ1 r_8) (cwV 1 hts gX12_current_X12_good rfl rfl rfl (by decide +kernel) ⟨Nat.le_of_ble_eq_true rfl, Nat.le_of_ble_eq_true rfl⟩) ⟨gBlind, va_recv hK hP (ci := 11) (q0 := 0) rfl (mat_11 rfl), gStart (As := [.ref (ad 0), .int r_8]) hP hD hK0 hT hS hF (d_9)⟩ rfl rfl hl.1 rfl (lv_room (Nat.le_of_ble_eq_true rfl)) dX12_current_29 ⟨Nat.le_of_ble_eq_true rfl, Nat.le_of_ble_eq_true rfl⟩) hS (fun q _ h => hF q h) hF (fun r_12 σ4 t H locs ht hvm hw hB hz1 hk1 hS d_13 hd0 => ?_)
    have hts := dr_words hts0 (d_13)
    have hK := gKd hK0 (d_13)
    have hown : (s.setDrawn (d_13)).vm.findClass RX12 = some m.cls := hown0
    obtain ⟨hP, hD⟩ := gBack hF ht hB
    obtain ⟨hIσ4, fcσ4, hp_14⟩ := hw
    refine W.endD hd0 ?_
    exact W.iret (v := r_12) hx hb hr (fun t ht hW => ⟨⟨r_12, σ4, rfl, ⟨hIσ4, (mFr.tr frσ1 fcσ4 (by decide) (by decide)), trivial⟩, ⟨by rw [ht]; exact hP, hD⟩⟩, hS.F ht⟩) hS.2.2 dX12_current_32
  · refine lv_aload_n hx hb dX12_current_16 rfl (lv_at hl 1 rfl) ?_
    refine lv_iload_n hx hb dX12_current_17 rfl (lv_at hl 0 rfl) ?_
    have hF := gFree hD hS hA
    refine va_calliD hd0 (va_runV_D (As := [.int r_1]) (rest := []) ⟨hx, hb, hml, hown, hts⟩ (n_X12_refused l dC dI ad cA adK adV H.size σ1 hIσ1 r_1) (cwV 1 hts gX12_current_X12_refused rfl rfl rfl (by decide +kernel) ⟨Nat.le_of_ble_eq_true rfl, Nat.le_of_ble_eq_true rfl⟩) ⟨gBlind, va_recv hK hP (ci := 11) (q0 := 0) rfl (mat_11 rfl), gStart (As := [.ref (ad 0), .int r_1]) hP hD hK0 hT hS hF (d_2)⟩ rfl rfl hl.1 rfl (lv_room (Nat.le_of_ble_eq_true rfl)) dX12_current_18 ⟨Nat.le_of_ble_eq_true rfl, Nat.le_of_ble_eq_true rfl⟩) hS (fun q _ h => hF q h) hF (fun r_15 σ5 t H locs ht hvm hw hB hz1 hk1 hS d_16 hd0 => ?_)
    have hts := dr_words hts0 (d_16)
    have hK := gKd hK0 (d_16)
    have hown : (s.setDrawn (d_16)).vm.findClass RX12 = some m.cls := hown0
    obtain ⟨hP, hD⟩ := gBack hF ht hB
    obtain ⟨hIσ5, fcσ5, hp_17⟩ := hw
    refine W.endD hd0 ?_
    exact W.iret (v := r_15) hx hb hr (fun t ht hW => ⟨⟨r_15, σ5, rfl, ⟨hIσ5, (mFr.tr frσ1 fcσ5 (by decide) (by decide)), trivial⟩, ⟨by rw [ht]; exact hP, hD⟩⟩, hS.F ht⟩) hS.2.2 dX12_current_21
set_option maxHeartbeats 8000000 in
set_option maxRecDepth 100000 in
theorem n_X12_isEx (l : Launch) (dC : Nat → ClassId) (dI : Nat → Nat → Nat) (ad : Nat → Nat) (cA : Nat → ClassId) (adK adV : Nat → Nat) (sz : Nat) (σ : gs) (hI : InvM σ) (p0 : Int32) (p1 : Int32) (hh0 : Deep σ) : MetD lw_cs l yX12_isEx wsX12_isEx ({ frames := 3, cells := 0, slots := 0, locals := 67 }) (va_Pc [.ref (ad 0), .int p0, .int p1] (gPre adK adV (dC, dI) (wM ad cA σ) (tM cA) sz)) (va_Qi (fun (r : Int32) (τ : gs) => InvM τ ∧ mFr [] [0, 1, 2] σ τ ∧ (True)) (fun τ t => gPost (dC, dI) (va_A (wM ad cA σ) sz) (wM ad cA τ) t) (va_A (wM ad cA σ) sz)) 0 0 (va_A (wM ad cA σ) sz) := by
  refine MetD.ofW (cc := cX12_isEx) (maxL := 4) (ret := (some .int)) (by decide) rfl ?_
  intro p e s m args below meth c s₁ B hml hv hd0
  obtain ⟨rfl, hsz, hP, hK, hD0, hT⟩ := hv
  have hx := B.exec
  have hb := B.bytes
  have hr := B.returns
  have hts0 := atoms_spec (ws := wsX12_isEx) B.pre
  have hK0 := hK
  have hown0 : s.vm.findClass RX12 = some m.cls := findClass_of_methodNamed B.named
  have hlocks := B.notSynchronized
  have hinX12 : ∀ w ∈ u_ws RX12 TX12 69, w ∈ wsX12_isEx := (fun _ h9 => List.mem_cons_of_mem _ (List.mem_append_right _ h9))
  subst hsz
  have hD := hD0.self (sz := s.heap.size)
  generalize hAe : va_A (wM ad cA σ) s.heap.size = A at hD hT ⊢
  have hA : ∀ q : Nat, s.heap.size ≤ q → A q := fun q h => by rw [← hAe]; exact Or.inr h
  have hS : va_S A s.heap s.heap [] := va_S.rf
  have hl := lv_entry ([.ref (ad 0), .int p0, .int p1]) (n := 4) (Nat.le_of_ble_eq_true rfl)
  rw [lg_entry_eq]
  generalize (lg_sl ([.ref (ad 0), .int p0, .int p1]) ++ List.replicate (4 - (lg_sl ([.ref (ad 0), .int p0, .int p1])).length) Slot.unset).toArray = ls at hl ⊢
  have hl : lv_has ls 4 [(0, .ref (ad 0)), (1, .int p0), (2, .int p1)] := hl
  have hts := dr_words hts0 (s.drawn)
  have hK := gKd hK0 (s.drawn)
  have hown : (s.setDrawn (s.drawn)).vm.findClass RX12 = some m.cls := hown0
  refine lv_aload_n hx hb dX12_isEx_0 rfl (lv_at hl 0 rfl) ?_
  refine lv_iconst (v := 0) hx hb dX12_isEx_1 (by decide) ?_
  refine va_put (D := (dC, dI)) (ci := 11) (v := .int 0) (C := RX12) (T := TX12) (N := 69) hx hb hts hinX12 tyX12 tyX12_ok nmX12 hown hK hP hD hS 0 (mat_11 rfl) rfl 0 (by decide) (hts (.fieldLink RX12 107 "BondCalendarsModel" "thrown" "I") (by decide +kernel)) (fun _ h9 => h9) rfl (ty := .int) (by decide +kernel) rfl rfl (Nat.le_of_ble_eq_true rfl) dX12_isEx_2 (fun H locs hP hD hS => ?_)
  obtain ⟨σ1, eσ1, hP, hD⟩ := gPut (mse_11_0 rfl) hP hD
  have hIσ1 : InvM σ1 := by rw [eσ1]; exact minv_I hI (mok_11_0 rfl _)
  have frσ1 : mFr [] [0, 1, 2] σ σ1 := by rw [eσ1]; exact mFr.oI (mFr.rfl (L := []) (F := [0, 1, 2]) (σ := σ)) (by decide)
  refine lv_aload_n hx hb dX12_isEx_5 rfl (lv_at hl 0 rfl) ?_
  refine lv_iload_n hx hb dX12_isEx_6 rfl (lv_at hl 1 rfl) ?_
  refine lv_iload_n hx hb dX12_isEx_7 rfl (lv_at hl 2 rfl) ?_
  have hF := gFree hD hS hA
  refine va_calliD hd0 (va_runV_D (As := [.int p0, .int p1]) (rest := []) ⟨hx, hb, hml, hown, hts⟩ (n_X12_refuses l dC dI ad cA adK adV H.size σ1 hIσ1 p0 p1) (cwV 2 hts gX12_isEx_X12_refuses rfl rfl rfl (by decide +kernel) ⟨Nat.le_of_ble_eq_true rfl, Nat.le_of_ble_eq_true rfl⟩) ⟨gBlind, va_recv hK hP (ci := 11) (q0 := 0) rfl (mat_11 rfl), gStart (As := [.ref (ad 0), .int p0, .int p1]) hP hD hK0 hT hS hF (s.drawn)⟩ rfl rfl hl.1 rfl (lv_room (Nat.le_of_ble_eq_true rfl)) dX12_isEx_8 ⟨Nat.le_of_ble_eq_true rfl, Nat.le_of_ble_eq_true rfl⟩) hS (fun q _ h => hF q h) hF (fun r_1 σ2 t H locs ht hvm hw hB hz1 hk1 hS d_2 hd0 => ?_)
  have hts := dr_words hts0 (d_2)
  have hK := gKd hK0 (d_2)
  have hown : (s.setDrawn (d_2)).vm.findClass RX12 = some m.cls := hown0
  obtain ⟨hP, hD⟩ := gBack hF ht hB
  obtain ⟨hIσ2, hro, hp_3⟩ := hw
  subst hro
  have bd_4 := mrd_11_20 (c := 0) hI rfl
  have im_5 : (r_1 : Int32) ≤ (0 : Int32) → (p0 : Int32) < ((σ 0).1 20 : Int32) := fun h9 => lt_ch (Eq.refl _).symm (show ((σ1 0).1 20 : Int32) = ((σ 0).1 20 : Int32) from by rw [eσ1, gI_oth _ _ _ (by decide)]).symm (hp_3.2.1 (le_ch (Eq.refl _) (Eq.refl _) h9))
  have im_6 : (r_1 : Int32) ≤ (0 : Int32) → (p1 : Int32) < ((σ 4).1 p0.toNatClampNeg : Int32) := fun h9 => lt_ch (Eq.refl _).symm (show ((σ1 4).1 p0.toNatClampNeg : Int32) = ((σ 4).1 p0.toNatClampNeg : Int32) from by rw [eσ1, gI_ne _ _ _ (by decide)]).symm (hp_3.2.2 (le_ch (Eq.refl _) (Eq.refl _) h9))
  refine lv_istore_n (lv' := [(3, .int r_1), (0, .ref (ad 0)), (1, .int p0), (2, .int p1)]) hx hb dX12_isEx_11 rfl hl (by decide) rfl (fun ls hl => ?_)
  refine lv_iload_n hx hb dX12_isEx_12 rfl (lv_at hl 0 rfl) ?_
  refine lv_if_le (tgt := 22) hx hb dX12_isEx_13 (by decide) (fun c_7 => ?_) (fun c_7 => ?_)
  · refine lv_aload_n hx hb dX12_isEx_22 rfl (lv_at hl 1 rfl) ?_
    refine lv_aload_n hx hb dX12_isEx_23 rfl (lv_at hl 1 rfl) ?_
    refine lv_iload_n hx hb dX12_isEx_24 rfl (lv_at hl 2 rfl) ?_
    refine lv_iload_n hx hb dX12_isEx_25 rfl (lv_at hl 3 rfl) ?_
    have hF := gFree hD hS hA
    refine va_calliD hd0 (va_runV_D (As := [.int p0, .int p1]) (rest := [.ref (ad 0)]) ⟨hx, hb, hml, hown, hts⟩ (n_X12_isExAt l dC dI ad cA adK adV H.size σ1 hIσ1 p0 p1 ((hp_3.1) c_7) (Int32.lt_of_lt_of_le (im_5 c_7) bd_4.2) ((Deep.fr hh0 (by rw [eσ1, gI_ne _ _ _ (by decide)]) (by rw [eσ1, gI_ne _ _ _ (by decide)]) (by rw [eσ1, gI_ne _ _ _ (by decide)]) (by rw [eσ1, gI_ne _ _ _ (by decide)]) (by rw [eσ1, gI_ne _ _ _ (by decide)]) (by rw [eσ1, gI_ne _ _ _ (by decide)]) (by rw [eσ1, gI_ne _ _ _ (by decide)]) (by rw [eσ1, gI_oth _ _ _ (by decide)]) (by rw [eσ1, gI_oth _ _ _ (by decide)]) (by rw [eσ1, gI_oth _ _ _ (by decide)]) (by rw [eσ1, gI_oth _ _ _ (by decide)]) (by rw [eσ1, gI_oth _ _ _ (by decide)]) (by rw [eσ1, gI_oth _ _ _ (by decide)])).1 _ (nc_lt ((hp_3.1) c_7) (lt_ch (Eq.refl _) (show ((σ1 0).1 20 : Int32) = ((σ 0).1 20 : Int32) from by rw [eσ1, gI_oth _ _ _ (by decide)]) (im_5 c_7)))).2.1 (lt_ch (Eq.refl _) (show ((σ1 4).1 p0.toNatClampNeg : Int32) = ((σ 4).1 p0.toNatClampNeg : Int32) from by rw [eσ1, gI_ne _ _ _ (by decide)]) (im_6 c_7))) (cwV 2 hts gX12_isEx_X12_isExAt rfl rfl rfl (by decide +kernel) ⟨Nat.le_of_ble_eq_true rfl, Nat.le_of_ble_eq_true rfl⟩) ⟨gBlind, va_recv hK hP (ci := 11) (q0 := 0) rfl (mat_11 rfl), gStart (As := [.ref (ad 0), .int p0, .int p1]) hP hD hK0 hT hS hF (d_2)⟩ rfl rfl hl.1 rfl (lv_room (Nat.le_of_ble_eq_true rfl)) dX12_isEx_26 ⟨Nat.le_of_ble_eq_true rfl, Nat.le_of_ble_eq_true rfl⟩) hS (fun q _ h => hF q h) hF (fun r_8 σ3 t H locs ht hvm hw hB hz1 hk1 hS d_9 hd0 => ?_)
    have hts := dr_words hts0 (d_9)
    have hK := gKd hK0 (d_9)
    have hown : (s.setDrawn (d_9)).vm.findClass RX12 = some m.cls := hown0
    obtain ⟨hP, hD⟩ := gBack hF ht hB
    obtain ⟨hIσ3, hro, hp_10⟩ := hw
    subst hro
    refine lv_if_eq (tgt := 36) hx hb dX12_isEx_29 (by decide) (fun c_11 => ?_) (fun c_11 => ?_)
    · refine lv_iconst (v := 0) hx hb dX12_isEx_36 (by decide) ?_
      have hF := gFree hD hS hA
      refine va_calliD hd0 (va_runV_D (As := [.int 0]) (rest := []) ⟨hx, hb, hml, hown, hts⟩ (n_X12_good l dC dI ad cA adK adV H.size σ1 hIσ1 0) (cwV 1 hts gX12_isEx_X12_good rfl rfl rfl (by decide +kernel) ⟨Nat.le_of_ble_eq_true rfl, Nat.le_of_ble_eq_true rfl⟩) ⟨gBlind, va_recv hK hP (ci := 11) (q0 := 0) rfl (mat_11 rfl), gStart (As := [.ref (ad 0), .int 0]) hP hD hK0 hT hS hF (d_9)⟩ rfl rfl hl.1 rfl (lv_room (Nat.le_of_ble_eq_true rfl)) dX12_isEx_37 ⟨Nat.le_of_ble_eq_true rfl, Nat.le_of_ble_eq_true rfl⟩) hS (fun q _ h => hF q h) hF (fun r_12 σ4 t H locs ht hvm hw hB hz1 hk1 hS d_13 hd0 => ?_)
      have hts := dr_words hts0 (d_13)
      have hK := gKd hK0 (d_13)
      have hown : (s.setDrawn (d_13)).vm.findClass RX12 = some m.cls := hown0
      obtain ⟨hP, hD⟩ := gBack hF ht hB
      obtain ⟨hIσ4, fcσ4, hp_14⟩ := hw
      refine W.endD hd0 ?_
      exact W.iret (v := r_12) hx hb hr (fun t ht hW => ⟨⟨r_12, σ4, rfl, ⟨hIσ4, (mFr.tr frσ1 fcσ4 (by decide) (by decide)), trivial⟩, ⟨by rw [ht]; exact hP, hD⟩⟩, hS.F ht⟩) hS.2.2 dX12_isEx_40
    · refine lv_iconst (v := 1) hx hb dX12_isEx_32 (by decide) ?_
      refine lv_goto (tgt := 37) hx hb dX12_isEx_33 (by decide) ?_
      have hF := gFree hD hS hA
      refine va_calliD hd0 (va_runV_D (As := [.int 1]) (rest := []) ⟨hx, hb, hml, hown, hts⟩ (n_X12_good l dC dI ad cA adK adV H.size σ1 hIσ1 1) (cwV 1 hts gX12_isEx_X12_good rfl rfl rfl (by decide +kernel) ⟨Nat.le_of_ble_eq_true rfl, Nat.le_of_ble_eq_true rfl⟩) ⟨gBlind, va_recv hK hP (ci := 11) (q0 := 0) rfl (mat_11 rfl), gStart (As := [.ref (ad 0), .int 1]) hP hD hK0 hT hS hF (d_9)⟩ rfl rfl hl.1 rfl (lv_room (Nat.le_of_ble_eq_true rfl)) dX12_isEx_37 ⟨Nat.le_of_ble_eq_true rfl, Nat.le_of_ble_eq_true rfl⟩) hS (fun q _ h => hF q h) hF (fun r_15 σ5 t H locs ht hvm hw hB hz1 hk1 hS d_16 hd0 => ?_)
      have hts := dr_words hts0 (d_16)
      have hK := gKd hK0 (d_16)
      have hown : (s.setDrawn (d_16)).vm.findClass RX12 = some m.cls := hown0
      obtain ⟨hP, hD⟩ := gBack hF ht hB
      obtain ⟨hIσ5, fcσ5, hp_17⟩ := hw
      refine W.endD hd0 ?_
      exact W.iret (v := r_15) hx hb hr (fun t ht hW => ⟨⟨r_15, σ5, rfl, ⟨hIσ5, (mFr.tr frσ1 fcσ5 (by decide) (by decide)), trivial⟩, ⟨by rw [ht]; exact hP, hD⟩⟩, hS.F ht⟩) hS.2.2 dX12_isEx_40
  · refine lv_aload_n hx hb dX12_isEx_16 rfl (lv_at hl 1 rfl) ?_
    refine lv_iload_n hx hb dX12_isEx_17 rfl (lv_at hl 0 rfl) ?_
    have hF := gFree hD hS hA
    refine va_calliD hd0 (va_runV_D (As := [.int r_1]) (rest := []) ⟨hx, hb, hml, hown, hts⟩ (n_X12_refused l dC dI ad cA adK adV H.size σ1 hIσ1 r_1) (cwV 1 hts gX12_isEx_X12_refused rfl rfl rfl (by decide +kernel) ⟨Nat.le_of_ble_eq_true rfl, Nat.le_of_ble_eq_true rfl⟩) ⟨gBlind, va_recv hK hP (ci := 11) (q0 := 0) rfl (mat_11 rfl), gStart (As := [.ref (ad 0), .int r_1]) hP hD hK0 hT hS hF (d_2)⟩ rfl rfl hl.1 rfl (lv_room (Nat.le_of_ble_eq_true rfl)) dX12_isEx_18 ⟨Nat.le_of_ble_eq_true rfl, Nat.le_of_ble_eq_true rfl⟩) hS (fun q _ h => hF q h) hF (fun r_18 σ6 t H locs ht hvm hw hB hz1 hk1 hS d_19 hd0 => ?_)
    have hts := dr_words hts0 (d_19)
    have hK := gKd hK0 (d_19)
    have hown : (s.setDrawn (d_19)).vm.findClass RX12 = some m.cls := hown0
    obtain ⟨hP, hD⟩ := gBack hF ht hB
    obtain ⟨hIσ6, fcσ6, hp_20⟩ := hw
    refine W.endD hd0 ?_
    exact W.iret (v := r_18) hx hb hr (fun t ht hW => ⟨⟨r_18, σ6, rfl, ⟨hIσ6, (mFr.tr frσ1 fcσ6 (by decide) (by decide)), trivial⟩, ⟨by rw [ht]; exact hP, hD⟩⟩, hS.F ht⟩) hS.2.2 dX12_isEx_21
set_option maxHeartbeats 8000000 in
set_option maxRecDepth 100000 in
theorem n_X12_accrued (l : Launch) (dC : Nat → ClassId) (dI : Nat → Nat → Nat) (ad : Nat → Nat) (cA : Nat → ClassId) (adK adV : Nat → Nat) (sz : Nat) (σ : gs) (hI : InvM σ) (p0 : Int32) (p1 : Int32) (p2 : Int32) (hh0 : Deep σ) : MetD lw_cs l yX12_accrued wsX12_accrued ({ frames := 6, cells := 0, slots := 0, locals := 159 }) (va_Pc [.ref (ad 0), .int p0, .int p1, .int p2] (gPre adK adV (dC, dI) (wM ad cA σ) (tM cA) sz)) (va_Ql (fun (r : Int64) (τ : gs) => InvM τ ∧ mFr [] [0, 1, 2] σ τ ∧ (True)) (fun τ t => gPost (dC, dI) (va_A (wM ad cA σ) sz) (wM ad cA τ) t) (va_A (wM ad cA σ) sz)) 0 0 (va_A (wM ad cA σ) sz) := by
  refine MetD.ofW (cc := cX12_accrued) (maxL := 5) (ret := (some .long)) (by decide) rfl ?_
  intro p e s m args below meth c s₁ B hml hv hd0
  obtain ⟨rfl, hsz, hP, hK, hD0, hT⟩ := hv
  have hx := B.exec
  have hb := B.bytes
  have hr := B.returns
  have hts0 := atoms_spec (ws := wsX12_accrued) B.pre
  have hK0 := hK
  have hown0 : s.vm.findClass RX12 = some m.cls := findClass_of_methodNamed B.named
  have hlocks := B.notSynchronized
  have hinX12 : ∀ w ∈ u_ws RX12 TX12 69, w ∈ wsX12_accrued := (fun _ h9 => List.mem_cons_of_mem _ (List.mem_append_right _ h9))
  subst hsz
  have hD := hD0.self (sz := s.heap.size)
  generalize hAe : va_A (wM ad cA σ) s.heap.size = A at hD hT ⊢
  have hA : ∀ q : Nat, s.heap.size ≤ q → A q := fun q h => by rw [← hAe]; exact Or.inr h
  have hS : va_S A s.heap s.heap [] := va_S.rf
  have hl := lv_entry ([.ref (ad 0), .int p0, .int p1, .int p2]) (n := 5) (Nat.le_of_ble_eq_true rfl)
  rw [lg_entry_eq]
  generalize (lg_sl ([.ref (ad 0), .int p0, .int p1, .int p2]) ++ List.replicate (5 - (lg_sl ([.ref (ad 0), .int p0, .int p1, .int p2])).length) Slot.unset).toArray = ls at hl ⊢
  have hl : lv_has ls 5 [(0, .ref (ad 0)), (1, .int p0), (2, .int p1), (3, .int p2)] := hl
  have hts := dr_words hts0 (s.drawn)
  have hK := gKd hK0 (s.drawn)
  have hown : (s.setDrawn (s.drawn)).vm.findClass RX12 = some m.cls := hown0
  refine lv_aload_n hx hb dX12_accrued_0 rfl (lv_at hl 0 rfl) ?_
  refine lv_iconst (v := 0) hx hb dX12_accrued_1 (by decide) ?_
  refine va_put (D := (dC, dI)) (ci := 11) (v := .int 0) (C := RX12) (T := TX12) (N := 69) hx hb hts hinX12 tyX12 tyX12_ok nmX12 hown hK hP hD hS 0 (mat_11 rfl) rfl 0 (by decide) (hts (.fieldLink RX12 107 "BondCalendarsModel" "thrown" "I") (by decide +kernel)) (fun _ h9 => h9) rfl (ty := .int) (by decide +kernel) rfl rfl (Nat.le_of_ble_eq_true rfl) dX12_accrued_2 (fun H locs hP hD hS => ?_)
  obtain ⟨σ1, eσ1, hP, hD⟩ := gPut (mse_11_0 rfl) hP hD
  have hIσ1 : InvM σ1 := by rw [eσ1]; exact minv_I hI (mok_11_0 rfl _)
  have frσ1 : mFr [] [0, 1, 2] σ σ1 := by rw [eσ1]; exact mFr.oI (mFr.rfl (L := []) (F := [0, 1, 2]) (σ := σ)) (by decide)
  refine lv_aload_n hx hb dX12_accrued_5 rfl (lv_at hl 0 rfl) ?_
  refine lv_iload_n hx hb dX12_accrued_6 rfl (lv_at hl 1 rfl) ?_
  refine lv_iload_n hx hb dX12_accrued_7 rfl (lv_at hl 2 rfl) ?_
  have hF := gFree hD hS hA
  refine va_calliD hd0 (va_runV_D (As := [.int p0, .int p1]) (rest := []) ⟨hx, hb, hml, hown, hts⟩ (n_X12_refuses l dC dI ad cA adK adV H.size σ1 hIσ1 p0 p1) (cwV 2 hts gX12_accrued_X12_refuses rfl rfl rfl (by decide +kernel) ⟨Nat.le_of_ble_eq_true rfl, Nat.le_of_ble_eq_true rfl⟩) ⟨gBlind, va_recv hK hP (ci := 11) (q0 := 0) rfl (mat_11 rfl), gStart (As := [.ref (ad 0), .int p0, .int p1]) hP hD hK0 hT hS hF (s.drawn)⟩ rfl rfl hl.1 rfl (lv_room (Nat.le_of_ble_eq_true rfl)) dX12_accrued_8 ⟨Nat.le_of_ble_eq_true rfl, Nat.le_of_ble_eq_true rfl⟩) hS (fun q _ h => hF q h) hF (fun r_1 σ2 t H locs ht hvm hw hB hz1 hk1 hS d_2 hd0 => ?_)
  have hts := dr_words hts0 (d_2)
  have hK := gKd hK0 (d_2)
  have hown : (s.setDrawn (d_2)).vm.findClass RX12 = some m.cls := hown0
  obtain ⟨hP, hD⟩ := gBack hF ht hB
  obtain ⟨hIσ2, hro, hp_3⟩ := hw
  subst hro
  have bd_4 := mrd_11_20 (c := 0) hI rfl
  have im_5 : (r_1 : Int32) ≤ (0 : Int32) → (p0 : Int32) < ((σ 0).1 20 : Int32) := fun h9 => lt_ch (Eq.refl _).symm (show ((σ1 0).1 20 : Int32) = ((σ 0).1 20 : Int32) from by rw [eσ1, gI_oth _ _ _ (by decide)]).symm (hp_3.2.1 (le_ch (Eq.refl _) (Eq.refl _) h9))
  have im_6 : (r_1 : Int32) ≤ (0 : Int32) → (p1 : Int32) < ((σ 4).1 p0.toNatClampNeg : Int32) := fun h9 => lt_ch (Eq.refl _).symm (show ((σ1 4).1 p0.toNatClampNeg : Int32) = ((σ 4).1 p0.toNatClampNeg : Int32) from by rw [eσ1, gI_ne _ _ _ (by decide)]).symm (hp_3.2.2 (le_ch (Eq.refl _) (Eq.refl _) h9))
  refine lv_istore (lv' := [(4, .int r_1), (0, .ref (ad 0)), (1, .int p0), (2, .int p1), (3, .int p2)]) hx hb dX12_accrued_11 hl (by decide) rfl (fun ls hl => ?_)
  refine lv_iload hx hb dX12_accrued_13 (lv_at hl 0 rfl) ?_
  refine lv_if_le (tgt := 28) hx hb dX12_accrued_15 (by decide) (fun c_7 => ?_) (fun c_7 => ?_)
  · refine lv_aload_n hx hb dX12_accrued_28 rfl (lv_at hl 1 rfl) ?_
    refine lv_iload_n hx hb dX12_accrued_29 rfl (lv_at hl 2 rfl) ?_
    refine lv_iload_n hx hb dX12_accrued_30 rfl (lv_at hl 3 rfl) ?_
    have hF := gFree hD hS hA
    refine va_callvD hd0 (va_runV_D (As := [.int p0, .int p1]) (rest := []) ⟨hx, hb, hml, hown, hts⟩ (n_X12_accrues l dC dI ad cA adK adV H.size σ1 hIσ1 p0 p1 ((hp_3.1) c_7) (Int32.lt_of_lt_of_le (im_5 c_7) bd_4.2) ((Deep.fr hh0 (by rw [eσ1, gI_ne _ _ _ (by decide)]) (by rw [eσ1, gI_ne _ _ _ (by decide)]) (by rw [eσ1, gI_ne _ _ _ (by decide)]) (by rw [eσ1, gI_ne _ _ _ (by decide)]) (by rw [eσ1, gI_ne _ _ _ (by decide)]) (by rw [eσ1, gI_ne _ _ _ (by decide)]) (by rw [eσ1, gI_ne _ _ _ (by decide)]) (by rw [eσ1, gI_oth _ _ _ (by decide)]) (by rw [eσ1, gI_oth _ _ _ (by decide)]) (by rw [eσ1, gI_oth _ _ _ (by decide)]) (by rw [eσ1, gI_oth _ _ _ (by decide)]) (by rw [eσ1, gI_oth _ _ _ (by decide)]) (by rw [eσ1, gI_oth _ _ _ (by decide)])).1 _ (nc_lt ((hp_3.1) c_7) (lt_ch (Eq.refl _) (show ((σ1 0).1 20 : Int32) = ((σ 0).1 20 : Int32) from by rw [eσ1, gI_oth _ _ _ (by decide)]) (im_5 c_7)))).1 ((Deep.fr hh0 (by rw [eσ1, gI_ne _ _ _ (by decide)]) (by rw [eσ1, gI_ne _ _ _ (by decide)]) (by rw [eσ1, gI_ne _ _ _ (by decide)]) (by rw [eσ1, gI_ne _ _ _ (by decide)]) (by rw [eσ1, gI_ne _ _ _ (by decide)]) (by rw [eσ1, gI_ne _ _ _ (by decide)]) (by rw [eσ1, gI_ne _ _ _ (by decide)]) (by rw [eσ1, gI_oth _ _ _ (by decide)]) (by rw [eσ1, gI_oth _ _ _ (by decide)]) (by rw [eσ1, gI_oth _ _ _ (by decide)]) (by rw [eσ1, gI_oth _ _ _ (by decide)]) (by rw [eσ1, gI_oth _ _ _ (by decide)]) (by rw [eσ1, gI_oth _ _ _ (by decide)])).1 _ (nc_lt ((hp_3.1) c_7) (lt_ch (Eq.refl _) (show ((σ1 0).1 20 : Int32) = ((σ 0).1 20 : Int32) from by rw [eσ1, gI_oth _ _ _ (by decide)]) (im_5 c_7)))).2.1 (lt_ch (Eq.refl _) (show ((σ1 4).1 p0.toNatClampNeg : Int32) = ((σ 4).1 p0.toNatClampNeg : Int32) from by rw [eσ1, gI_ne _ _ _ (by decide)]) (im_6 c_7))) (cwV 2 hts gX12_accrued_X12_accrues rfl rfl rfl (by decide +kernel) ⟨Nat.le_of_ble_eq_true rfl, Nat.le_of_ble_eq_true rfl⟩) ⟨gBlind, va_recv hK hP (ci := 11) (q0 := 0) rfl (mat_11 rfl), gStart (As := [.ref (ad 0), .int p0, .int p1]) hP hD hK0 hT hS hF (d_2)⟩ rfl rfl hl.1 rfl (lv_room (Nat.le_of_ble_eq_true rfl)) dX12_accrued_31 ⟨Nat.le_of_ble_eq_true rfl, Nat.le_of_ble_eq_true rfl⟩) hS (fun q _ h => hF q h) hF (fun σ3 t H locs ht hvm hw hB hz1 hk1 hS d_9 hd0 => ?_)
    have hts := dr_words hts0 (d_9)
    have hK := gKd hK0 (d_9)
    have hown : (s.setDrawn (d_9)).vm.findClass RX12 = some m.cls := hown0
    obtain ⟨hP, hD⟩ := gBack hF ht hB
    obtain ⟨hIσ3, fcσ3, hp_10⟩ := hw
    refine lv_aload_n hx hb dX12_accrued_34 rfl (lv_at hl 1 rfl) ?_
    refine lv_iload_n hx hb dX12_accrued_35 rfl (lv_at hl 4 rfl) ?_
    have hF := gFree hD hS hA
    refine va_calllD hd0 (va_runV_D (As := [.int p2]) (rest := []) ⟨hx, hb, hml, hown, hts⟩ (n_X12_part l dC dI ad cA adK adV H.size σ3 hIσ3 p2) (cwV 1 hts gX12_accrued_X12_part rfl rfl rfl (by decide +kernel) ⟨Nat.le_of_ble_eq_true rfl, Nat.le_of_ble_eq_true rfl⟩) ⟨gBlind, va_recv hK hP (ci := 11) (q0 := 0) rfl (mat_11 rfl), gStart (As := [.ref (ad 0), .int p2]) hP hD hK0 hT hS hF (d_9)⟩ rfl rfl hl.1 rfl (lv_room (Nat.le_of_ble_eq_true rfl)) dX12_accrued_36 ⟨Nat.le_of_ble_eq_true rfl, Nat.le_of_ble_eq_true rfl⟩) hS (fun q _ h => hF q h) hF (fun r_11 σ4 t H locs ht hvm hw hB hz1 hk1 hS d_12 hd0 => ?_)
    have hts := dr_words hts0 (d_12)
    have hK := gKd hK0 (d_12)
    have hown : (s.setDrawn (d_12)).vm.findClass RX12 = some m.cls := hown0
    obtain ⟨hP, hD⟩ := gBack hF ht hB
    obtain ⟨hIσ4, fcσ4, hp_13⟩ := hw
    refine W.endD hd0 ?_
    exact W.lret (v := r_11) hx hb hr (fun t ht hW => ⟨⟨r_11, σ4, rfl, ⟨hIσ4, (mFr.tr (mFr.tr frσ1 fcσ3 (by decide) (by decide)) fcσ4 (by decide) (by decide)), trivial⟩, ⟨by rw [ht]; exact hP, hD⟩⟩, hS.F ht⟩) hS.2.2 dX12_accrued_39
  · refine lv_aload_n hx hb dX12_accrued_18 rfl (lv_at hl 1 rfl) ?_
    refine lv_iload hx hb dX12_accrued_19 (lv_at hl 0 rfl) ?_
    refine lv_ldc2 (v := (-9223372036854775808)) hx hb hown (hts (.constantLong RX12 482 (-9223372036854775808)) (by decide +kernel)) dX12_accrued_21 ?_
    have hF := gFree hD hS hA
    refine va_calllD hd0 (va_runV_D (As := [.int r_1, .long (-9223372036854775808)]) (rest := []) ⟨hx, hb, hml, hown, hts⟩ (n_X12_refusedLong l dC dI ad cA adK adV H.size σ1 hIσ1 r_1 (-9223372036854775808)) (cwV 2 hts gX12_accrued_X12_refusedLong rfl rfl rfl (by decide +kernel) ⟨Nat.le_of_ble_eq_true rfl, Nat.le_of_ble_eq_true rfl⟩) ⟨gBlind, va_recv hK hP (ci := 11) (q0 := 0) rfl (mat_11 rfl), gStart (As := [.ref (ad 0), .int r_1, .long (-9223372036854775808)]) hP hD hK0 hT hS hF (d_2)⟩ rfl rfl hl.1 rfl (lv_room (Nat.le_of_ble_eq_true rfl)) dX12_accrued_24 ⟨Nat.le_of_ble_eq_true rfl, Nat.le_of_ble_eq_true rfl⟩) hS (fun q _ h => hF q h) hF (fun r_14 σ5 t H locs ht hvm hw hB hz1 hk1 hS d_15 hd0 => ?_)
    have hts := dr_words hts0 (d_15)
    have hK := gKd hK0 (d_15)
    have hown : (s.setDrawn (d_15)).vm.findClass RX12 = some m.cls := hown0
    obtain ⟨hP, hD⟩ := gBack hF ht hB
    obtain ⟨hIσ5, fcσ5, hp_16⟩ := hw
    refine W.endD hd0 ?_
    exact W.lret (v := r_14) hx hb hr (fun t ht hW => ⟨⟨r_14, σ5, rfl, ⟨hIσ5, (mFr.tr frσ1 fcσ5 (by decide) (by decide)), trivial⟩, ⟨by rw [ht]; exact hP, hD⟩⟩, hS.F ht⟩) hS.2.2 dX12_accrued_27
set_option maxHeartbeats 8000000 in
set_option maxRecDepth 100000 in
theorem n_X12_rest (l : Launch) (dC : Nat → ClassId) (dI : Nat → Nat → Nat) (ad : Nat → Nat) (cA : Nat → ClassId) (adK adV : Nat → Nat) (sz : Nat) (σ : gs) (hI : InvM σ) (p0 : Int32) (p1 : Int32) (p2 : Int32) (hh0 : Deep σ) : MetD lw_cs l yX12_rest wsX12_rest ({ frames := 4, cells := 0, slots := 0, locals := 110 }) (va_Pc [.ref (ad 0), .int p0, .int p1, .int p2] (gPre adK adV (dC, dI) (wM ad cA σ) (tM cA) sz)) (va_Ql (fun (r : Int64) (τ : gs) => InvM τ ∧ mFr [] [0, 1, 2] σ τ ∧ (True)) (fun τ t => gPost (dC, dI) (va_A (wM ad cA σ) sz) (wM ad cA τ) t) (va_A (wM ad cA σ) sz)) 0 0 (va_A (wM ad cA σ) sz) := by
  refine MetD.ofW (cc := cX12_rest) (maxL := 5) (ret := (some .long)) (by decide) rfl ?_
  intro p e s m args below meth c s₁ B hml hv hd0
  obtain ⟨rfl, hsz, hP, hK, hD0, hT⟩ := hv
  have hx := B.exec
  have hb := B.bytes
  have hr := B.returns
  have hts0 := atoms_spec (ws := wsX12_rest) B.pre
  have hK0 := hK
  have hown0 : s.vm.findClass RX12 = some m.cls := findClass_of_methodNamed B.named
  have hlocks := B.notSynchronized
  have hinX12 : ∀ w ∈ u_ws RX12 TX12 69, w ∈ wsX12_rest := (fun _ h9 => List.mem_cons_of_mem _ (List.mem_append_right _ h9))
  subst hsz
  have hD := hD0.self (sz := s.heap.size)
  generalize hAe : va_A (wM ad cA σ) s.heap.size = A at hD hT ⊢
  have hA : ∀ q : Nat, s.heap.size ≤ q → A q := fun q h => by rw [← hAe]; exact Or.inr h
  have hS : va_S A s.heap s.heap [] := va_S.rf
  have hl := lv_entry ([.ref (ad 0), .int p0, .int p1, .int p2]) (n := 5) (Nat.le_of_ble_eq_true rfl)
  rw [lg_entry_eq]
  generalize (lg_sl ([.ref (ad 0), .int p0, .int p1, .int p2]) ++ List.replicate (5 - (lg_sl ([.ref (ad 0), .int p0, .int p1, .int p2])).length) Slot.unset).toArray = ls at hl ⊢
  have hl : lv_has ls 5 [(0, .ref (ad 0)), (1, .int p0), (2, .int p1), (3, .int p2)] := hl
  have hts := dr_words hts0 (s.drawn)
  have hK := gKd hK0 (s.drawn)
  have hown : (s.setDrawn (s.drawn)).vm.findClass RX12 = some m.cls := hown0
  refine lv_aload_n hx hb dX12_rest_0 rfl (lv_at hl 0 rfl) ?_
  refine lv_iconst (v := 0) hx hb dX12_rest_1 (by decide) ?_
  refine va_put (D := (dC, dI)) (ci := 11) (v := .int 0) (C := RX12) (T := TX12) (N := 69) hx hb hts hinX12 tyX12 tyX12_ok nmX12 hown hK hP hD hS 0 (mat_11 rfl) rfl 0 (by decide) (hts (.fieldLink RX12 107 "BondCalendarsModel" "thrown" "I") (by decide +kernel)) (fun _ h9 => h9) rfl (ty := .int) (by decide +kernel) rfl rfl (Nat.le_of_ble_eq_true rfl) dX12_rest_2 (fun H locs hP hD hS => ?_)
  obtain ⟨σ1, eσ1, hP, hD⟩ := gPut (mse_11_0 rfl) hP hD
  have hIσ1 : InvM σ1 := by rw [eσ1]; exact minv_I hI (mok_11_0 rfl _)
  have frσ1 : mFr [] [0, 1, 2] σ σ1 := by rw [eσ1]; exact mFr.oI (mFr.rfl (L := []) (F := [0, 1, 2]) (σ := σ)) (by decide)
  refine lv_aload_n hx hb dX12_rest_5 rfl (lv_at hl 0 rfl) ?_
  refine lv_iload_n hx hb dX12_rest_6 rfl (lv_at hl 1 rfl) ?_
  refine lv_iload_n hx hb dX12_rest_7 rfl (lv_at hl 2 rfl) ?_
  have hF := gFree hD hS hA
  refine va_calliD hd0 (va_runV_D (As := [.int p0, .int p1]) (rest := []) ⟨hx, hb, hml, hown, hts⟩ (n_X12_refuses l dC dI ad cA adK adV H.size σ1 hIσ1 p0 p1) (cwV 2 hts gX12_rest_X12_refuses rfl rfl rfl (by decide +kernel) ⟨Nat.le_of_ble_eq_true rfl, Nat.le_of_ble_eq_true rfl⟩) ⟨gBlind, va_recv hK hP (ci := 11) (q0 := 0) rfl (mat_11 rfl), gStart (As := [.ref (ad 0), .int p0, .int p1]) hP hD hK0 hT hS hF (s.drawn)⟩ rfl rfl hl.1 rfl (lv_room (Nat.le_of_ble_eq_true rfl)) dX12_rest_8 ⟨Nat.le_of_ble_eq_true rfl, Nat.le_of_ble_eq_true rfl⟩) hS (fun q _ h => hF q h) hF (fun r_1 σ2 t H locs ht hvm hw hB hz1 hk1 hS d_2 hd0 => ?_)
  have hts := dr_words hts0 (d_2)
  have hK := gKd hK0 (d_2)
  have hown : (s.setDrawn (d_2)).vm.findClass RX12 = some m.cls := hown0
  obtain ⟨hP, hD⟩ := gBack hF ht hB
  obtain ⟨hIσ2, hro, hp_3⟩ := hw
  subst hro
  have bd_4 := mrd_11_20 (c := 0) hI rfl
  have im_5 : (r_1 : Int32) ≤ (0 : Int32) → (p0 : Int32) < ((σ 0).1 20 : Int32) := fun h9 => lt_ch (Eq.refl _).symm (show ((σ1 0).1 20 : Int32) = ((σ 0).1 20 : Int32) from by rw [eσ1, gI_oth _ _ _ (by decide)]).symm (hp_3.2.1 (le_ch (Eq.refl _) (Eq.refl _) h9))
  have im_6 : (r_1 : Int32) ≤ (0 : Int32) → (p1 : Int32) < ((σ 4).1 p0.toNatClampNeg : Int32) := fun h9 => lt_ch (Eq.refl _).symm (show ((σ1 4).1 p0.toNatClampNeg : Int32) = ((σ 4).1 p0.toNatClampNeg : Int32) from by rw [eσ1, gI_ne _ _ _ (by decide)]).symm (hp_3.2.2 (le_ch (Eq.refl _) (Eq.refl _) h9))
  refine lv_istore (lv' := [(4, .int r_1), (0, .ref (ad 0)), (1, .int p0), (2, .int p1), (3, .int p2)]) hx hb dX12_rest_11 hl (by decide) rfl (fun ls hl => ?_)
  refine lv_iload hx hb dX12_rest_13 (lv_at hl 0 rfl) ?_
  refine lv_if_le (tgt := 28) hx hb dX12_rest_15 (by decide) (fun c_7 => ?_) (fun c_7 => ?_)
  · refine lv_aload_n hx hb dX12_rest_28 rfl (lv_at hl 1 rfl) ?_
    refine lv_iload_n hx hb dX12_rest_29 rfl (lv_at hl 2 rfl) ?_
    refine lv_iload_n hx hb dX12_rest_30 rfl (lv_at hl 3 rfl) ?_
    refine lv_aload_n hx hb dX12_rest_31 rfl (lv_at hl 1 rfl) ?_
    refine lv_iload_n hx hb dX12_rest_32 rfl (lv_at hl 2 rfl) ?_
    refine lv_aload_n hx hb dX12_rest_33 rfl (lv_at hl 1 rfl) ?_
    refine lv_iload_n hx hb dX12_rest_34 rfl (lv_at hl 2 rfl) ?_
    refine lv_iload_n hx hb dX12_rest_35 rfl (lv_at hl 3 rfl) ?_
    have hF := gFree hD hS hA
    refine va_calliD hd0 (va_runV_D (As := [.int p0, .int p1]) (rest := [.int p0, .ref (ad 0), .int p1, .int p0, .ref (ad 0)]) ⟨hx, hb, hml, hown, hts⟩ (n_X12_currentOf l dC dI ad cA adK adV H.size σ1 hIσ1 p0 p1 ((hp_3.1) c_7) (Int32.lt_of_lt_of_le (im_5 c_7) bd_4.2) ((Deep.fr hh0 (by rw [eσ1, gI_ne _ _ _ (by decide)]) (by rw [eσ1, gI_ne _ _ _ (by decide)]) (by rw [eσ1, gI_ne _ _ _ (by decide)]) (by rw [eσ1, gI_ne _ _ _ (by decide)]) (by rw [eσ1, gI_ne _ _ _ (by decide)]) (by rw [eσ1, gI_ne _ _ _ (by decide)]) (by rw [eσ1, gI_ne _ _ _ (by decide)]) (by rw [eσ1, gI_oth _ _ _ (by decide)]) (by rw [eσ1, gI_oth _ _ _ (by decide)]) (by rw [eσ1, gI_oth _ _ _ (by decide)]) (by rw [eσ1, gI_oth _ _ _ (by decide)]) (by rw [eσ1, gI_oth _ _ _ (by decide)]) (by rw [eσ1, gI_oth _ _ _ (by decide)])).1 _ (nc_lt ((hp_3.1) c_7) (lt_ch (Eq.refl _) (show ((σ1 0).1 20 : Int32) = ((σ 0).1 20 : Int32) from by rw [eσ1, gI_oth _ _ _ (by decide)]) (im_5 c_7)))).2.1 (lt_ch (Eq.refl _) (show ((σ1 4).1 p0.toNatClampNeg : Int32) = ((σ 4).1 p0.toNatClampNeg : Int32) from by rw [eσ1, gI_ne _ _ _ (by decide)]) (im_6 c_7))) (cwV 2 hts gX12_rest_X12_currentOf rfl rfl rfl (by decide +kernel) ⟨Nat.le_of_ble_eq_true rfl, Nat.le_of_ble_eq_true rfl⟩) ⟨gBlind, va_recv hK hP (ci := 11) (q0 := 0) rfl (mat_11 rfl), gStart (As := [.ref (ad 0), .int p0, .int p1]) hP hD hK0 hT hS hF (d_2)⟩ rfl rfl hl.1 rfl (lv_room (Nat.le_of_ble_eq_true rfl)) dX12_rest_36 ⟨Nat.le_of_ble_eq_true rfl, Nat.le_of_ble_eq_true rfl⟩) hS (fun q _ h => hF q h) hF (fun r_8 σ3 t H locs ht hvm hw hB hz1 hk1 hS d_9 hd0 => ?_)
    have hts := dr_words hts0 (d_9)
    have hK := gKd hK0 (d_9)
    have hown : (s.setDrawn (d_9)).vm.findClass RX12 = some m.cls := hown0
    obtain ⟨hP, hD⟩ := gBack hF ht hB
    obtain ⟨hIσ3, hro, hp_10⟩ := hw
    subst hro
    have of_11 : (r_8 : Int32) < ((σ 17).1 p0.toNatClampNeg : Int32) := lt_ch (Eq.refl _).symm (show ((σ1 17).1 p0.toNatClampNeg : Int32) = ((σ 17).1 p0.toNatClampNeg : Int32) from by rw [eσ1, gI_ne _ _ _ (by decide)]).symm hp_10.2.2
    have hF := gFree hD hS hA
    refine va_calliD hd0 (va_runV_D (As := [.int p0, .int r_8]) (rest := [.int p1, .int p0, .ref (ad 0)]) ⟨hx, hb, hml, hown, hts⟩ (n_X12_endOf l dC dI ad cA adK adV H.size σ1 hIσ1 p0 r_8 ((hp_3.1) c_7) (Int32.lt_of_lt_of_le (im_5 c_7) bd_4.2) hp_10.1 hp_10.2.1) (cwV 2 hts gX12_rest_X12_endOf rfl rfl rfl (by decide +kernel) ⟨Nat.le_of_ble_eq_true rfl, Nat.le_of_ble_eq_true rfl⟩) ⟨gBlind, va_recv hK hP (ci := 11) (q0 := 0) rfl (mat_11 rfl), gStart (As := [.ref (ad 0), .int p0, .int r_8]) hP hD hK0 hT hS hF (d_9)⟩ rfl rfl hl.1 rfl (lv_room (Nat.le_of_ble_eq_true rfl)) dX12_rest_39 ⟨Nat.le_of_ble_eq_true rfl, Nat.le_of_ble_eq_true rfl⟩) hS (fun q _ h => hF q h) hF (fun r_12 σ4 t H locs ht hvm hw hB hz1 hk1 hS d_13 hd0 => ?_)
    have hts := dr_words hts0 (d_13)
    have hK := gKd hK0 (d_13)
    have hown : (s.setDrawn (d_13)).vm.findClass RX12 = some m.cls := hown0
    obtain ⟨hP, hD⟩ := gBack hF ht hB
    obtain ⟨hIσ4, hro, hp_14⟩ := hw
    subst hro
    have eo_15 : ∀ j : Nat, (j : Int) = 82 * p0.toInt + r_8.toInt → r_12 = (σ 18).1 j := fun j hj => by have h7 := hp_14.2.2 j hj; rw [eσ1, gI_ne _ _ _ (by decide)] at h7; exact h7
    have hF := gFree hD hS hA
    refine va_callvD hd0 (va_runV_D (As := [.int p0, .int p1, .int r_12]) (rest := []) ⟨hx, hb, hml, hown, hts⟩ (n_X12_counts l dC dI ad cA adK adV H.size σ1 hIσ1 p0 p1 r_12 ((hp_3.1) c_7) (Int32.lt_of_lt_of_le (im_5 c_7) bd_4.2) ((Deep.fr hh0 (by rw [eσ1, gI_ne _ _ _ (by decide)]) (by rw [eσ1, gI_ne _ _ _ (by decide)]) (by rw [eσ1, gI_ne _ _ _ (by decide)]) (by rw [eσ1, gI_ne _ _ _ (by decide)]) (by rw [eσ1, gI_ne _ _ _ (by decide)]) (by rw [eσ1, gI_ne _ _ _ (by decide)]) (by rw [eσ1, gI_ne _ _ _ (by decide)]) (by rw [eσ1, gI_oth _ _ _ (by decide)]) (by rw [eσ1, gI_oth _ _ _ (by decide)]) (by rw [eσ1, gI_oth _ _ _ (by decide)]) (by rw [eσ1, gI_oth _ _ _ (by decide)]) (by rw [eσ1, gI_oth _ _ _ (by decide)]) (by rw [eσ1, gI_oth _ _ _ (by decide)])).1 _ (nc_lt ((hp_3.1) c_7) (lt_ch (Eq.refl _) (show ((σ1 0).1 20 : Int32) = ((σ 0).1 20 : Int32) from by rw [eσ1, gI_oth _ _ _ (by decide)]) (im_5 c_7)))).1) (cwV 3 hts gX12_rest_X12_counts rfl rfl rfl (by decide +kernel) ⟨Nat.le_of_ble_eq_true rfl, Nat.le_of_ble_eq_true rfl⟩) ⟨gBlind, va_recv hK hP (ci := 11) (q0 := 0) rfl (mat_11 rfl), gStart (As := [.ref (ad 0), .int p0, .int p1, .int r_12]) hP hD hK0 hT hS hF (d_13)⟩ rfl rfl hl.1 rfl (lv_room (Nat.le_of_ble_eq_true rfl)) dX12_rest_42 ⟨Nat.le_of_ble_eq_true rfl, Nat.le_of_ble_eq_true rfl⟩) hS (fun q _ h => hF q h) hF (fun σ5 t H locs ht hvm hw hB hz1 hk1 hS d_17 hd0 => ?_)
    have hts := dr_words hts0 (d_17)
    have hK := gKd hK0 (d_17)
    have hown : (s.setDrawn (d_17)).vm.findClass RX12 = some m.cls := hown0
    obtain ⟨hP, hD⟩ := gBack hF ht hB
    obtain ⟨hIσ5, fcσ5, hp_18⟩ := hw
    refine lv_aload_n hx hb dX12_rest_45 rfl (lv_at hl 1 rfl) ?_
    refine lv_aload_n hx hb dX12_rest_46 rfl (lv_at hl 1 rfl) ?_
    refine va_get (D := (dC, dI)) (ci := 11) (v := .ref (ad 1)) (C := RX12) (T := TX12) (N := 69) hx hb hts hinX12 hown hK hP 0 (mat_11 rfl) rfl 5 (by decide) (hts (.fieldLink RX12 13 "BondCalendarsModel" "rate" "[I") (by decide +kernel)) (fun _ h9 => h9) rfl dX12_rest_47 ?_
    refine lv_iload_n hx hb dX12_rest_50 rfl (lv_at hl 2 rfl) ?_
    refine va_iald hx hb hK hP 1 1 (mat_41 rfl) (mty_41 rfl) (gin (N := 8) (by decide) ((hp_3.1) c_7) (Int32.lt_trans (Int32.lt_of_lt_of_le (im_5 c_7) bd_4.2) (show (4 : Int32) < 8 by decide))) dX12_rest_51 ?_
    refine lv_topi (fun x_19 ex_19 => ?_)
    have ex_19 : x_19 = ((σ 1).1 p0.toNatClampNeg) := by rw [ex_19, fcσ5.1 1 (by decide) (by decide), eσ1, gI_ne _ _ _ (by decide)]
    refine lv_i2l hx hb dX12_rest_52 rfl ?_
    refine lv_ldc2 (v := 100) hx hb hown (hts (.constantLong RX12 408 (100)) (by decide +kernel)) dX12_rest_53 ?_
    have hF := gFree hD hS hA
    refine va_callvD hd0 (va_runV_D (As := [.long (x_19.toInt64), .long 100]) (rest := []) ⟨hx, hb, hml, hown, hts⟩ (n_X12_times l dC dI ad cA adK adV H.size σ5 hIσ5 (x_19.toInt64) 100 (tm_100 hp_18)) (cwV 2 hts gX12_rest_X12_times rfl rfl rfl (by decide +kernel) ⟨Nat.le_of_ble_eq_true rfl, Nat.le_of_ble_eq_true rfl⟩) ⟨gBlind, va_recv hK hP (ci := 11) (q0 := 0) rfl (mat_11 rfl), gStart (As := [.ref (ad 0), .long (x_19.toInt64), .long 100]) hP hD hK0 hT hS hF (d_17)⟩ rfl rfl hl.1 rfl (lv_room (Nat.le_of_ble_eq_true rfl)) dX12_rest_56 ⟨Nat.le_of_ble_eq_true rfl, Nat.le_of_ble_eq_true rfl⟩) hS (fun q _ h => hF q h) hF (fun σ6 t H locs ht hvm hw hB hz1 hk1 hS d_21 hd0 => ?_)
    have hts := dr_words hts0 (d_21)
    have hK := gKd hK0 (d_21)
    have hown : (s.setDrawn (d_21)).vm.findClass RX12 = some m.cls := hown0
    obtain ⟨hP, hD⟩ := gBack hF ht hB
    obtain ⟨hIσ6, fcσ6, hp_22⟩ := hw
    refine lv_aload_n hx hb dX12_rest_59 rfl (lv_at hl 1 rfl) ?_
    refine lv_iload_n hx hb dX12_rest_60 rfl (lv_at hl 4 rfl) ?_
    have hF := gFree hD hS hA
    refine va_calllD hd0 (va_runV_D (As := [.int p2]) (rest := []) ⟨hx, hb, hml, hown, hts⟩ (n_X12_part l dC dI ad cA adK adV H.size σ6 hIσ6 p2) (cwV 1 hts gX12_rest_X12_part rfl rfl rfl (by decide +kernel) ⟨Nat.le_of_ble_eq_true rfl, Nat.le_of_ble_eq_true rfl⟩) ⟨gBlind, va_recv hK hP (ci := 11) (q0 := 0) rfl (mat_11 rfl), gStart (As := [.ref (ad 0), .int p2]) hP hD hK0 hT hS hF (d_21)⟩ rfl rfl hl.1 rfl (lv_room (Nat.le_of_ble_eq_true rfl)) dX12_rest_61 ⟨Nat.le_of_ble_eq_true rfl, Nat.le_of_ble_eq_true rfl⟩) hS (fun q _ h => hF q h) hF (fun r_23 σ7 t H locs ht hvm hw hB hz1 hk1 hS d_24 hd0 => ?_)
    have hts := dr_words hts0 (d_24)
    have hK := gKd hK0 (d_24)
    have hown : (s.setDrawn (d_24)).vm.findClass RX12 = some m.cls := hown0
    obtain ⟨hP, hD⟩ := gBack hF ht hB
    obtain ⟨hIσ7, fcσ7, hp_25⟩ := hw
    refine W.endD hd0 ?_
    exact W.lret (v := r_23) hx hb hr (fun t ht hW => ⟨⟨r_23, σ7, rfl, ⟨hIσ7, (mFr.tr (mFr.tr (mFr.tr frσ1 fcσ5 (by decide) (by decide)) fcσ6 (by decide) (by decide)) fcσ7 (by decide) (by decide)), trivial⟩, ⟨by rw [ht]; exact hP, hD⟩⟩, hS.F ht⟩) hS.2.2 dX12_rest_64
  · refine lv_aload_n hx hb dX12_rest_18 rfl (lv_at hl 1 rfl) ?_
    refine lv_iload hx hb dX12_rest_19 (lv_at hl 0 rfl) ?_
    refine lv_ldc2 (v := (-1)) hx hb hown (hts (.constantLong RX12 428 (-1)) (by decide +kernel)) dX12_rest_21 ?_
    have hF := gFree hD hS hA
    refine va_calllD hd0 (va_runV_D (As := [.int r_1, .long (-1)]) (rest := []) ⟨hx, hb, hml, hown, hts⟩ (n_X12_refusedLong l dC dI ad cA adK adV H.size σ1 hIσ1 r_1 (-1)) (cwV 2 hts gX12_rest_X12_refusedLong rfl rfl rfl (by decide +kernel) ⟨Nat.le_of_ble_eq_true rfl, Nat.le_of_ble_eq_true rfl⟩) ⟨gBlind, va_recv hK hP (ci := 11) (q0 := 0) rfl (mat_11 rfl), gStart (As := [.ref (ad 0), .int r_1, .long (-1)]) hP hD hK0 hT hS hF (d_2)⟩ rfl rfl hl.1 rfl (lv_room (Nat.le_of_ble_eq_true rfl)) dX12_rest_24 ⟨Nat.le_of_ble_eq_true rfl, Nat.le_of_ble_eq_true rfl⟩) hS (fun q _ h => hF q h) hF (fun r_26 σ8 t H locs ht hvm hw hB hz1 hk1 hS d_27 hd0 => ?_)
    have hts := dr_words hts0 (d_27)
    have hK := gKd hK0 (d_27)
    have hown : (s.setDrawn (d_27)).vm.findClass RX12 = some m.cls := hown0
    obtain ⟨hP, hD⟩ := gBack hF ht hB
    obtain ⟨hIσ8, fcσ8, hp_28⟩ := hw
    refine W.endD hd0 ?_
    exact W.lret (v := r_26) hx hb hr (fun t ht hW => ⟨⟨r_26, σ8, rfl, ⟨hIσ8, (mFr.tr frσ1 fcσ8 (by decide) (by decide)), trivial⟩, ⟨by rw [ht]; exact hP, hD⟩⟩, hS.F ht⟩) hS.2.2 dX12_rest_27
set_option maxHeartbeats 8000000 in
set_option maxRecDepth 100000 in
theorem n_X12_dirty (l : Launch) (dC : Nat → ClassId) (dI : Nat → Nat → Nat) (ad : Nat → Nat) (cA : Nat → ClassId) (adK adV : Nat → Nat) (sz : Nat) (σ : gs) (hI : InvM σ) (p0 : Int32) (p1 : Int32) (p2 : Int32) (hh0 : Deep σ) : MetD lw_cs l yX12_dirty wsX12_dirty ({ frames := 7, cells := 0, slots := 0, locals := 181 }) (va_Pc [.ref (ad 0), .int p0, .int p1, .int p2] (gPre adK adV (dC, dI) (wM ad cA σ) (tM cA) sz)) (va_Ql (fun (r : Int64) (τ : gs) => InvM τ ∧ mFr [] [0, 1, 2, 47, 48, 49] σ τ ∧ (True)) (fun τ t => gPost (dC, dI) (va_A (wM ad cA σ) sz) (wM ad cA τ) t) (va_A (wM ad cA σ) sz)) 0 0 (va_A (wM ad cA σ) sz) := by
  refine MetD.ofW (cc := cX12_dirty) (maxL := 5) (ret := (some .long)) (by decide) rfl ?_
  intro p e s m args below meth c s₁ B hml hv hd0
  obtain ⟨rfl, hsz, hP, hK, hD0, hT⟩ := hv
  have hx := B.exec
  have hb := B.bytes
  have hr := B.returns
  have hts0 := atoms_spec (ws := wsX12_dirty) B.pre
  have hK0 := hK
  have hown0 : s.vm.findClass RX12 = some m.cls := findClass_of_methodNamed B.named
  have hlocks := B.notSynchronized
  have hinX12 : ∀ w ∈ u_ws RX12 TX12 69, w ∈ wsX12_dirty := (fun _ h9 => List.mem_cons_of_mem _ (List.mem_append_right _ h9))
  subst hsz
  have hD := hD0.self (sz := s.heap.size)
  generalize hAe : va_A (wM ad cA σ) s.heap.size = A at hD hT ⊢
  have hA : ∀ q : Nat, s.heap.size ≤ q → A q := fun q h => by rw [← hAe]; exact Or.inr h
  have hS : va_S A s.heap s.heap [] := va_S.rf
  have hl := lv_entry ([.ref (ad 0), .int p0, .int p1, .int p2]) (n := 5) (Nat.le_of_ble_eq_true rfl)
  rw [lg_entry_eq]
  generalize (lg_sl ([.ref (ad 0), .int p0, .int p1, .int p2]) ++ List.replicate (5 - (lg_sl ([.ref (ad 0), .int p0, .int p1, .int p2])).length) Slot.unset).toArray = ls at hl ⊢
  have hl : lv_has ls 5 [(0, .ref (ad 0)), (1, .int p0), (2, .int p1), (3, .int p2)] := hl
  have hts := dr_words hts0 (s.drawn)
  have hK := gKd hK0 (s.drawn)
  have hown : (s.setDrawn (s.drawn)).vm.findClass RX12 = some m.cls := hown0
  refine lv_aload_n hx hb dX12_dirty_0 rfl (lv_at hl 0 rfl) ?_
  refine lv_iconst (v := 0) hx hb dX12_dirty_1 (by decide) ?_
  refine va_put (D := (dC, dI)) (ci := 11) (v := .int 0) (C := RX12) (T := TX12) (N := 69) hx hb hts hinX12 tyX12 tyX12_ok nmX12 hown hK hP hD hS 0 (mat_11 rfl) rfl 0 (by decide) (hts (.fieldLink RX12 107 "BondCalendarsModel" "thrown" "I") (by decide +kernel)) (fun _ h9 => h9) rfl (ty := .int) (by decide +kernel) rfl rfl (Nat.le_of_ble_eq_true rfl) dX12_dirty_2 (fun H locs hP hD hS => ?_)
  obtain ⟨σ1, eσ1, hP, hD⟩ := gPut (mse_11_0 rfl) hP hD
  have hIσ1 : InvM σ1 := by rw [eσ1]; exact minv_I hI (mok_11_0 rfl _)
  have frσ1 : mFr [] [0, 1, 2, 47, 48, 49] σ σ1 := by rw [eσ1]; exact mFr.oI (mFr.rfl (L := []) (F := [0, 1, 2, 47, 48, 49]) (σ := σ)) (by decide)
  refine lv_aload_n hx hb dX12_dirty_5 rfl (lv_at hl 0 rfl) ?_
  refine lv_iload_n hx hb dX12_dirty_6 rfl (lv_at hl 1 rfl) ?_
  refine lv_iload_n hx hb dX12_dirty_7 rfl (lv_at hl 2 rfl) ?_
  refine lv_iload_n hx hb dX12_dirty_8 rfl (lv_at hl 3 rfl) ?_
  have hF := gFree (w := []) (hx_D0 (A := A)) hS hA
  have hKe := hK.sub (tys' := []) [] rfl
  refine va_calli (va_runS (As := [.int p2]) (rest := [.int p1, .int p0, .ref (ad 0)]) ⟨hx, hb, hml, hown, hts⟩ (k_X12_isPoints l dC dI H.size p2 ) (va_cwS 1 hts gX12_dirty_X12_isPoints rfl rfl rfl (by decide +kernel) ⟨Nat.le_of_ble_eq_true rfl, Nat.le_of_ble_eq_true rfl⟩) ⟨fun a U g mk q => by obtain ⟨q0, q1, qP, qK, qD⟩ := q; exact ⟨q0, q1, qP, va_K.moved (u := U) (U := U.calling g mk a) (Vm.Alike.refl U.vm) qK, qD⟩, fun U hU hW => ⟨rfl, by rw [hU], hx_P0, va_K.moved hW.alike hKe, hx_D0⟩⟩ rfl rfl hl.1 rfl (lv_room (Nat.le_of_ble_eq_true rfl)) dX12_dirty_9 ⟨Nat.le_of_ble_eq_true rfl, Nat.le_of_ble_eq_true rfl⟩) hS (fun q _ h => hF q h) hF (fun r_1 u t H locs ht hvm hw hB hz1 hk1 hS => ?_)
  have hP := gKeep hP hk1
  have pu_2 : r_1 = f_X12_isPoints p2 := hw
  have hF := gFree hD hS hA
  refine va_calliD hd0 (va_runV_D (As := [.int p0, .int p1, .int r_1]) (rest := []) ⟨hx, hb, hml, hown, hts⟩ (n_X12_refusesBy l dC dI ad cA adK adV H.size σ1 hIσ1 p0 p1 r_1) (cwV 3 hts gX12_dirty_X12_refusesBy rfl rfl rfl (by decide +kernel) ⟨Nat.le_of_ble_eq_true rfl, Nat.le_of_ble_eq_true rfl⟩) ⟨gBlind, va_recv hK hP (ci := 11) (q0 := 0) rfl (mat_11 rfl), gStart (As := [.ref (ad 0), .int p0, .int p1, .int r_1]) hP hD hK0 hT hS hF (s.drawn)⟩ rfl rfl hl.1 rfl (lv_room (Nat.le_of_ble_eq_true rfl)) dX12_dirty_12 ⟨Nat.le_of_ble_eq_true rfl, Nat.le_of_ble_eq_true rfl⟩) hS (fun q _ h => hF q h) hF (fun r_3 σ2 t H locs ht hvm hw hB hz1 hk1 hS d_4 hd0 => ?_)
  have hts := dr_words hts0 (d_4)
  have hK := gKd hK0 (d_4)
  have hown : (s.setDrawn (d_4)).vm.findClass RX12 = some m.cls := hown0
  obtain ⟨hP, hD⟩ := gBack hF ht hB
  obtain ⟨hIσ2, hro, hp_5⟩ := hw
  subst hro
  have bd_6 := mrd_11_20 (c := 0) hI rfl
  have im_7 : (r_3 : Int32) ≤ (0 : Int32) → (p0 : Int32) < ((σ 0).1 20 : Int32) := fun h9 => lt_ch (Eq.refl _).symm (show ((σ1 0).1 20 : Int32) = ((σ 0).1 20 : Int32) from by rw [eσ1, gI_oth _ _ _ (by decide)]).symm (hp_5.2.1 (le_ch (Eq.refl _) (Eq.refl _) h9))
  have im_8 : (r_3 : Int32) ≤ (0 : Int32) → (p1 : Int32) < ((σ 4).1 p0.toNatClampNeg : Int32) := fun h9 => lt_ch (Eq.refl _).symm (show ((σ1 4).1 p0.toNatClampNeg : Int32) = ((σ 4).1 p0.toNatClampNeg : Int32) from by rw [eσ1, gI_ne _ _ _ (by decide)]).symm (hp_5.2.2 (le_ch (Eq.refl _) (Eq.refl _) h9))
  refine lv_istore (lv' := [(4, .int r_3), (0, .ref (ad 0)), (1, .int p0), (2, .int p1), (3, .int p2)]) hx hb dX12_dirty_15 hl (by decide) rfl (fun ls hl => ?_)
  refine lv_iload hx hb dX12_dirty_17 (lv_at hl 0 rfl) ?_
  refine lv_if_le (tgt := 32) hx hb dX12_dirty_19 (by decide) (fun c_9 => ?_) (fun c_9 => ?_)
  · refine lv_aload_n hx hb dX12_dirty_32 rfl (lv_at hl 1 rfl) ?_
    refine lv_iload_n hx hb dX12_dirty_33 rfl (lv_at hl 2 rfl) ?_
    refine lv_iload_n hx hb dX12_dirty_34 rfl (lv_at hl 3 rfl) ?_
    have hF := gFree hD hS hA
    refine va_callvD hd0 (va_runV_D (As := [.int p0, .int p1]) (rest := []) ⟨hx, hb, hml, hown, hts⟩ (n_X12_settles l dC dI ad cA adK adV H.size σ1 hIσ1 p0 p1 ((hp_5.1) c_9) (Int32.lt_of_lt_of_le (im_7 c_9) bd_6.2) ((Deep.fr hh0 (by rw [eσ1, gI_ne _ _ _ (by decide)]) (by rw [eσ1, gI_ne _ _ _ (by decide)]) (by rw [eσ1, gI_ne _ _ _ (by decide)]) (by rw [eσ1, gI_ne _ _ _ (by decide)]) (by rw [eσ1, gI_ne _ _ _ (by decide)]) (by rw [eσ1, gI_ne _ _ _ (by decide)]) (by rw [eσ1, gI_ne _ _ _ (by decide)]) (by rw [eσ1, gI_oth _ _ _ (by decide)]) (by rw [eσ1, gI_oth _ _ _ (by decide)]) (by rw [eσ1, gI_oth _ _ _ (by decide)]) (by rw [eσ1, gI_oth _ _ _ (by decide)]) (by rw [eσ1, gI_oth _ _ _ (by decide)]) (by rw [eσ1, gI_oth _ _ _ (by decide)])).1 _ (nc_lt ((hp_5.1) c_9) (lt_ch (Eq.refl _) (show ((σ1 0).1 20 : Int32) = ((σ 0).1 20 : Int32) from by rw [eσ1, gI_oth _ _ _ (by decide)]) (im_7 c_9)))).1 ((Deep.fr hh0 (by rw [eσ1, gI_ne _ _ _ (by decide)]) (by rw [eσ1, gI_ne _ _ _ (by decide)]) (by rw [eσ1, gI_ne _ _ _ (by decide)]) (by rw [eσ1, gI_ne _ _ _ (by decide)]) (by rw [eσ1, gI_ne _ _ _ (by decide)]) (by rw [eσ1, gI_ne _ _ _ (by decide)]) (by rw [eσ1, gI_ne _ _ _ (by decide)]) (by rw [eσ1, gI_oth _ _ _ (by decide)]) (by rw [eσ1, gI_oth _ _ _ (by decide)]) (by rw [eσ1, gI_oth _ _ _ (by decide)]) (by rw [eσ1, gI_oth _ _ _ (by decide)]) (by rw [eσ1, gI_oth _ _ _ (by decide)]) (by rw [eσ1, gI_oth _ _ _ (by decide)])).1 _ (nc_lt ((hp_5.1) c_9) (lt_ch (Eq.refl _) (show ((σ1 0).1 20 : Int32) = ((σ 0).1 20 : Int32) from by rw [eσ1, gI_oth _ _ _ (by decide)]) (im_7 c_9)))).2.1 (lt_ch (Eq.refl _) (show ((σ1 4).1 p0.toNatClampNeg : Int32) = ((σ 4).1 p0.toNatClampNeg : Int32) from by rw [eσ1, gI_ne _ _ _ (by decide)]) (im_8 c_9))) (cwV 2 hts gX12_dirty_X12_settles rfl rfl rfl (by decide +kernel) ⟨Nat.le_of_ble_eq_true rfl, Nat.le_of_ble_eq_true rfl⟩) ⟨gBlind, va_recv hK hP (ci := 11) (q0 := 0) rfl (mat_11 rfl), gStart (As := [.ref (ad 0), .int p0, .int p1]) hP hD hK0 hT hS hF (d_4)⟩ rfl rfl hl.1 rfl (lv_room (Nat.le_of_ble_eq_true rfl)) dX12_dirty_35 ⟨Nat.le_of_ble_eq_true rfl, Nat.le_of_ble_eq_true rfl⟩) hS (fun q _ h => hF q h) hF (fun σ3 t H locs ht hvm hw hB hz1 hk1 hS d_11 hd0 => ?_)
    have hts := dr_words hts0 (d_11)
    have hK := gKd hK0 (d_11)
    have hown : (s.setDrawn (d_11)).vm.findClass RX12 = some m.cls := hown0
    obtain ⟨hP, hD⟩ := gBack hF ht hB
    obtain ⟨hIσ3, fcσ3, hp_12⟩ := hw
    refine lv_aload_n hx hb dX12_dirty_38 rfl (lv_at hl 1 rfl) ?_
    refine lv_aload_n hx hb dX12_dirty_39 rfl (lv_at hl 1 rfl) ?_
    refine lv_iload_n hx hb dX12_dirty_40 rfl (lv_at hl 4 rfl) ?_
    have hF := gFree hD hS hA
    refine va_calldD hd0 (va_runS_D (As := [.int p2]) (rest := [.ref (ad 0), .ref (ad 0)]) ⟨hx, hb, hml, hown, hts⟩ (n_X12_asYield l dC dI ad cA adK adV H.size σ3 hIσ3 p2) (va_cwS 1 hts gX12_dirty_X12_asYield rfl rfl rfl (by decide +kernel) ⟨Nat.le_of_ble_eq_true rfl, Nat.le_of_ble_eq_true rfl⟩) ⟨gBlind, gStart (As := [.int p2]) hP hD hK0 hT hS hF (d_11)⟩ rfl rfl hl.1 rfl (lv_room (Nat.le_of_ble_eq_true rfl)) dX12_dirty_41 ⟨Nat.le_of_ble_eq_true rfl, Nat.le_of_ble_eq_true rfl⟩) hS (fun q _ h => hF q h) hF (fun r_13 σ4 t H locs ht hvm hw hB hz1 hk1 hS d_14 hd0 => ?_)
    have hts := dr_words hts0 (d_14)
    have hK := gKd hK0 (d_14)
    have hown : (s.setDrawn (d_14)).vm.findClass RX12 = some m.cls := hown0
    obtain ⟨hP, hD⟩ := gBack hF ht hB
    obtain ⟨hIσ4, hro, hp_15⟩ := hw
    subst hro
    have hF := gFree hD hS hA
    refine va_calldD hd0 (va_runV_D (As := [.double r_13]) (rest := [.ref (ad 0)]) ⟨hx, hb, hml, hown, hts⟩ (n_X12_dirtyAt l dC dI ad cA adK adV H.size σ3 hIσ3 r_13) (cwV 1 hts gX12_dirty_X12_dirtyAt rfl rfl rfl (by decide +kernel) ⟨Nat.le_of_ble_eq_true rfl, Nat.le_of_ble_eq_true rfl⟩) ⟨gBlind, va_recv hK hP (ci := 11) (q0 := 0) rfl (mat_11 rfl), gStart (As := [.ref (ad 0), .double r_13]) hP hD hK0 hT hS hF (d_14)⟩ rfl rfl hl.1 rfl (lv_room (Nat.le_of_ble_eq_true rfl)) dX12_dirty_44 ⟨Nat.le_of_ble_eq_true rfl, Nat.le_of_ble_eq_true rfl⟩) hS (fun q _ h => hF q h) hF (fun r_16 σ5 t H locs ht hvm hw hB hz1 hk1 hS d_17 hd0 => ?_)
    have hts := dr_words hts0 (d_17)
    have hK := gKd hK0 (d_17)
    have hown : (s.setDrawn (d_17)).vm.findClass RX12 = some m.cls := hown0
    obtain ⟨hP, hD⟩ := gBack hF ht hB
    obtain ⟨hIσ5, hro, hp_18⟩ := hw
    subst hro
    have hF := gFree hD hS hA
    refine va_calllD hd0 (va_runV_D (As := [.double r_16]) (rest := []) ⟨hx, hb, hml, hown, hts⟩ (n_X12_goodBits l dC dI ad cA adK adV H.size σ3 hIσ3 r_16) (cwV 1 hts gX12_dirty_X12_goodBits rfl rfl rfl (by decide +kernel) ⟨Nat.le_of_ble_eq_true rfl, Nat.le_of_ble_eq_true rfl⟩) ⟨gBlind, va_recv hK hP (ci := 11) (q0 := 0) rfl (mat_11 rfl), gStart (As := [.ref (ad 0), .double r_16]) hP hD hK0 hT hS hF (d_17)⟩ rfl rfl hl.1 rfl (lv_room (Nat.le_of_ble_eq_true rfl)) dX12_dirty_47 ⟨Nat.le_of_ble_eq_true rfl, Nat.le_of_ble_eq_true rfl⟩) hS (fun q _ h => hF q h) hF (fun r_19 σ6 t H locs ht hvm hw hB hz1 hk1 hS d_20 hd0 => ?_)
    have hts := dr_words hts0 (d_20)
    have hK := gKd hK0 (d_20)
    have hown : (s.setDrawn (d_20)).vm.findClass RX12 = some m.cls := hown0
    obtain ⟨hP, hD⟩ := gBack hF ht hB
    obtain ⟨hIσ6, fcσ6, hp_21⟩ := hw
    refine W.endD hd0 ?_
    exact W.lret (v := r_19) hx hb hr (fun t ht hW => ⟨⟨r_19, σ6, rfl, ⟨hIσ6, (mFr.tr (mFr.tr frσ1 fcσ3 (by decide) (by decide)) fcσ6 (by decide) (by decide)), trivial⟩, ⟨by rw [ht]; exact hP, hD⟩⟩, hS.F ht⟩) hS.2.2 dX12_dirty_50
  · refine lv_aload_n hx hb dX12_dirty_22 rfl (lv_at hl 1 rfl) ?_
    refine lv_iload hx hb dX12_dirty_23 (lv_at hl 0 rfl) ?_
    refine lv_ldc2 (v := (-9223372036854775808)) hx hb hown (hts (.constantLong RX12 482 (-9223372036854775808)) (by decide +kernel)) dX12_dirty_25 ?_
    have hF := gFree hD hS hA
    refine va_calllD hd0 (va_runV_D (As := [.int r_3, .long (-9223372036854775808)]) (rest := []) ⟨hx, hb, hml, hown, hts⟩ (n_X12_refusedLong l dC dI ad cA adK adV H.size σ1 hIσ1 r_3 (-9223372036854775808)) (cwV 2 hts gX12_dirty_X12_refusedLong rfl rfl rfl (by decide +kernel) ⟨Nat.le_of_ble_eq_true rfl, Nat.le_of_ble_eq_true rfl⟩) ⟨gBlind, va_recv hK hP (ci := 11) (q0 := 0) rfl (mat_11 rfl), gStart (As := [.ref (ad 0), .int r_3, .long (-9223372036854775808)]) hP hD hK0 hT hS hF (d_4)⟩ rfl rfl hl.1 rfl (lv_room (Nat.le_of_ble_eq_true rfl)) dX12_dirty_28 ⟨Nat.le_of_ble_eq_true rfl, Nat.le_of_ble_eq_true rfl⟩) hS (fun q _ h => hF q h) hF (fun r_22 σ7 t H locs ht hvm hw hB hz1 hk1 hS d_23 hd0 => ?_)
    have hts := dr_words hts0 (d_23)
    have hK := gKd hK0 (d_23)
    have hown : (s.setDrawn (d_23)).vm.findClass RX12 = some m.cls := hown0
    obtain ⟨hP, hD⟩ := gBack hF ht hB
    obtain ⟨hIσ7, fcσ7, hp_24⟩ := hw
    refine W.endD hd0 ?_
    exact W.lret (v := r_22) hx hb hr (fun t ht hW => ⟨⟨r_22, σ7, rfl, ⟨hIσ7, (mFr.tr frσ1 fcσ7 (by decide) (by decide)), trivial⟩, ⟨by rw [ht]; exact hP, hD⟩⟩, hS.F ht⟩) hS.2.2 dX12_dirty_31
set_option maxHeartbeats 8000000 in
set_option maxRecDepth 100000 in
theorem n_X12_clean (l : Launch) (dC : Nat → ClassId) (dI : Nat → Nat → Nat) (ad : Nat → Nat) (cA : Nat → ClassId) (adK adV : Nat → Nat) (sz : Nat) (σ : gs) (hI : InvM σ) (p0 : Int32) (p1 : Int32) (p2 : Int32) (hh0 : Deep σ) : MetD lw_cs l yX12_clean wsX12_clean ({ frames := 7, cells := 0, slots := 0, locals := 181 }) (va_Pc [.ref (ad 0), .int p0, .int p1, .int p2] (gPre adK adV (dC, dI) (wM ad cA σ) (tM cA) sz)) (va_Ql (fun (r : Int64) (τ : gs) => InvM τ ∧ mFr [] [0, 1, 2, 47, 48, 49] σ τ ∧ (True)) (fun τ t => gPost (dC, dI) (va_A (wM ad cA σ) sz) (wM ad cA τ) t) (va_A (wM ad cA σ) sz)) 0 0 (va_A (wM ad cA σ) sz) := by
  refine MetD.ofW (cc := cX12_clean) (maxL := 5) (ret := (some .long)) (by decide) rfl ?_
  intro p e s m args below meth c s₁ B hml hv hd0
  obtain ⟨rfl, hsz, hP, hK, hD0, hT⟩ := hv
  have hx := B.exec
  have hb := B.bytes
  have hr := B.returns
  have hts0 := atoms_spec (ws := wsX12_clean) B.pre
  have hK0 := hK
  have hown0 : s.vm.findClass RX12 = some m.cls := findClass_of_methodNamed B.named
  have hlocks := B.notSynchronized
  have hinX12 : ∀ w ∈ u_ws RX12 TX12 69, w ∈ wsX12_clean := (fun _ h9 => List.mem_cons_of_mem _ (List.mem_append_right _ h9))
  subst hsz
  have hD := hD0.self (sz := s.heap.size)
  generalize hAe : va_A (wM ad cA σ) s.heap.size = A at hD hT ⊢
  have hA : ∀ q : Nat, s.heap.size ≤ q → A q := fun q h => by rw [← hAe]; exact Or.inr h
  have hS : va_S A s.heap s.heap [] := va_S.rf
  have hl := lv_entry ([.ref (ad 0), .int p0, .int p1, .int p2]) (n := 5) (Nat.le_of_ble_eq_true rfl)
  rw [lg_entry_eq]
  generalize (lg_sl ([.ref (ad 0), .int p0, .int p1, .int p2]) ++ List.replicate (5 - (lg_sl ([.ref (ad 0), .int p0, .int p1, .int p2])).length) Slot.unset).toArray = ls at hl ⊢
  have hl : lv_has ls 5 [(0, .ref (ad 0)), (1, .int p0), (2, .int p1), (3, .int p2)] := hl
  have hts := dr_words hts0 (s.drawn)
  have hK := gKd hK0 (s.drawn)
  have hown : (s.setDrawn (s.drawn)).vm.findClass RX12 = some m.cls := hown0
  refine lv_aload_n hx hb dX12_clean_0 rfl (lv_at hl 0 rfl) ?_
  refine lv_iconst (v := 0) hx hb dX12_clean_1 (by decide) ?_
  refine va_put (D := (dC, dI)) (ci := 11) (v := .int 0) (C := RX12) (T := TX12) (N := 69) hx hb hts hinX12 tyX12 tyX12_ok nmX12 hown hK hP hD hS 0 (mat_11 rfl) rfl 0 (by decide) (hts (.fieldLink RX12 107 "BondCalendarsModel" "thrown" "I") (by decide +kernel)) (fun _ h9 => h9) rfl (ty := .int) (by decide +kernel) rfl rfl (Nat.le_of_ble_eq_true rfl) dX12_clean_2 (fun H locs hP hD hS => ?_)
  obtain ⟨σ1, eσ1, hP, hD⟩ := gPut (mse_11_0 rfl) hP hD
  have hIσ1 : InvM σ1 := by rw [eσ1]; exact minv_I hI (mok_11_0 rfl _)
  have frσ1 : mFr [] [0, 1, 2, 47, 48, 49] σ σ1 := by rw [eσ1]; exact mFr.oI (mFr.rfl (L := []) (F := [0, 1, 2, 47, 48, 49]) (σ := σ)) (by decide)
  refine lv_aload_n hx hb dX12_clean_5 rfl (lv_at hl 0 rfl) ?_
  refine lv_iload_n hx hb dX12_clean_6 rfl (lv_at hl 1 rfl) ?_
  refine lv_iload_n hx hb dX12_clean_7 rfl (lv_at hl 2 rfl) ?_
  refine lv_iload_n hx hb dX12_clean_8 rfl (lv_at hl 3 rfl) ?_
  have hF := gFree (w := []) (hx_D0 (A := A)) hS hA
  have hKe := hK.sub (tys' := []) [] rfl
  refine va_calli (va_runS (As := [.int p2]) (rest := [.int p1, .int p0, .ref (ad 0)]) ⟨hx, hb, hml, hown, hts⟩ (k_X12_isPoints l dC dI H.size p2 ) (va_cwS 1 hts gX12_clean_X12_isPoints rfl rfl rfl (by decide +kernel) ⟨Nat.le_of_ble_eq_true rfl, Nat.le_of_ble_eq_true rfl⟩) ⟨fun a U g mk q => by obtain ⟨q0, q1, qP, qK, qD⟩ := q; exact ⟨q0, q1, qP, va_K.moved (u := U) (U := U.calling g mk a) (Vm.Alike.refl U.vm) qK, qD⟩, fun U hU hW => ⟨rfl, by rw [hU], hx_P0, va_K.moved hW.alike hKe, hx_D0⟩⟩ rfl rfl hl.1 rfl (lv_room (Nat.le_of_ble_eq_true rfl)) dX12_clean_9 ⟨Nat.le_of_ble_eq_true rfl, Nat.le_of_ble_eq_true rfl⟩) hS (fun q _ h => hF q h) hF (fun r_1 u t H locs ht hvm hw hB hz1 hk1 hS => ?_)
  have hP := gKeep hP hk1
  have pu_2 : r_1 = f_X12_isPoints p2 := hw
  have hF := gFree hD hS hA
  refine va_calliD hd0 (va_runV_D (As := [.int p0, .int p1, .int r_1]) (rest := []) ⟨hx, hb, hml, hown, hts⟩ (n_X12_refusesBy l dC dI ad cA adK adV H.size σ1 hIσ1 p0 p1 r_1) (cwV 3 hts gX12_clean_X12_refusesBy rfl rfl rfl (by decide +kernel) ⟨Nat.le_of_ble_eq_true rfl, Nat.le_of_ble_eq_true rfl⟩) ⟨gBlind, va_recv hK hP (ci := 11) (q0 := 0) rfl (mat_11 rfl), gStart (As := [.ref (ad 0), .int p0, .int p1, .int r_1]) hP hD hK0 hT hS hF (s.drawn)⟩ rfl rfl hl.1 rfl (lv_room (Nat.le_of_ble_eq_true rfl)) dX12_clean_12 ⟨Nat.le_of_ble_eq_true rfl, Nat.le_of_ble_eq_true rfl⟩) hS (fun q _ h => hF q h) hF (fun r_3 σ2 t H locs ht hvm hw hB hz1 hk1 hS d_4 hd0 => ?_)
  have hts := dr_words hts0 (d_4)
  have hK := gKd hK0 (d_4)
  have hown : (s.setDrawn (d_4)).vm.findClass RX12 = some m.cls := hown0
  obtain ⟨hP, hD⟩ := gBack hF ht hB
  obtain ⟨hIσ2, hro, hp_5⟩ := hw
  subst hro
  have bd_6 := mrd_11_20 (c := 0) hI rfl
  have im_7 : (r_3 : Int32) ≤ (0 : Int32) → (p0 : Int32) < ((σ 0).1 20 : Int32) := fun h9 => lt_ch (Eq.refl _).symm (show ((σ1 0).1 20 : Int32) = ((σ 0).1 20 : Int32) from by rw [eσ1, gI_oth _ _ _ (by decide)]).symm (hp_5.2.1 (le_ch (Eq.refl _) (Eq.refl _) h9))
  have im_8 : (r_3 : Int32) ≤ (0 : Int32) → (p1 : Int32) < ((σ 4).1 p0.toNatClampNeg : Int32) := fun h9 => lt_ch (Eq.refl _).symm (show ((σ1 4).1 p0.toNatClampNeg : Int32) = ((σ 4).1 p0.toNatClampNeg : Int32) from by rw [eσ1, gI_ne _ _ _ (by decide)]).symm (hp_5.2.2 (le_ch (Eq.refl _) (Eq.refl _) h9))
  refine lv_istore (lv' := [(4, .int r_3), (0, .ref (ad 0)), (1, .int p0), (2, .int p1), (3, .int p2)]) hx hb dX12_clean_15 hl (by decide) rfl (fun ls hl => ?_)
  refine lv_iload hx hb dX12_clean_17 (lv_at hl 0 rfl) ?_
  refine lv_if_le (tgt := 32) hx hb dX12_clean_19 (by decide) (fun c_9 => ?_) (fun c_9 => ?_)
  · refine lv_aload_n hx hb dX12_clean_32 rfl (lv_at hl 1 rfl) ?_
    refine lv_iload_n hx hb dX12_clean_33 rfl (lv_at hl 2 rfl) ?_
    refine lv_iload_n hx hb dX12_clean_34 rfl (lv_at hl 3 rfl) ?_
    have hF := gFree hD hS hA
    refine va_callvD hd0 (va_runV_D (As := [.int p0, .int p1]) (rest := []) ⟨hx, hb, hml, hown, hts⟩ (n_X12_settles l dC dI ad cA adK adV H.size σ1 hIσ1 p0 p1 ((hp_5.1) c_9) (Int32.lt_of_lt_of_le (im_7 c_9) bd_6.2) ((Deep.fr hh0 (by rw [eσ1, gI_ne _ _ _ (by decide)]) (by rw [eσ1, gI_ne _ _ _ (by decide)]) (by rw [eσ1, gI_ne _ _ _ (by decide)]) (by rw [eσ1, gI_ne _ _ _ (by decide)]) (by rw [eσ1, gI_ne _ _ _ (by decide)]) (by rw [eσ1, gI_ne _ _ _ (by decide)]) (by rw [eσ1, gI_ne _ _ _ (by decide)]) (by rw [eσ1, gI_oth _ _ _ (by decide)]) (by rw [eσ1, gI_oth _ _ _ (by decide)]) (by rw [eσ1, gI_oth _ _ _ (by decide)]) (by rw [eσ1, gI_oth _ _ _ (by decide)]) (by rw [eσ1, gI_oth _ _ _ (by decide)]) (by rw [eσ1, gI_oth _ _ _ (by decide)])).1 _ (nc_lt ((hp_5.1) c_9) (lt_ch (Eq.refl _) (show ((σ1 0).1 20 : Int32) = ((σ 0).1 20 : Int32) from by rw [eσ1, gI_oth _ _ _ (by decide)]) (im_7 c_9)))).1 ((Deep.fr hh0 (by rw [eσ1, gI_ne _ _ _ (by decide)]) (by rw [eσ1, gI_ne _ _ _ (by decide)]) (by rw [eσ1, gI_ne _ _ _ (by decide)]) (by rw [eσ1, gI_ne _ _ _ (by decide)]) (by rw [eσ1, gI_ne _ _ _ (by decide)]) (by rw [eσ1, gI_ne _ _ _ (by decide)]) (by rw [eσ1, gI_ne _ _ _ (by decide)]) (by rw [eσ1, gI_oth _ _ _ (by decide)]) (by rw [eσ1, gI_oth _ _ _ (by decide)]) (by rw [eσ1, gI_oth _ _ _ (by decide)]) (by rw [eσ1, gI_oth _ _ _ (by decide)]) (by rw [eσ1, gI_oth _ _ _ (by decide)]) (by rw [eσ1, gI_oth _ _ _ (by decide)])).1 _ (nc_lt ((hp_5.1) c_9) (lt_ch (Eq.refl _) (show ((σ1 0).1 20 : Int32) = ((σ 0).1 20 : Int32) from by rw [eσ1, gI_oth _ _ _ (by decide)]) (im_7 c_9)))).2.1 (lt_ch (Eq.refl _) (show ((σ1 4).1 p0.toNatClampNeg : Int32) = ((σ 4).1 p0.toNatClampNeg : Int32) from by rw [eσ1, gI_ne _ _ _ (by decide)]) (im_8 c_9))) (cwV 2 hts gX12_clean_X12_settles rfl rfl rfl (by decide +kernel) ⟨Nat.le_of_ble_eq_true rfl, Nat.le_of_ble_eq_true rfl⟩) ⟨gBlind, va_recv hK hP (ci := 11) (q0 := 0) rfl (mat_11 rfl), gStart (As := [.ref (ad 0), .int p0, .int p1]) hP hD hK0 hT hS hF (d_4)⟩ rfl rfl hl.1 rfl (lv_room (Nat.le_of_ble_eq_true rfl)) dX12_clean_35 ⟨Nat.le_of_ble_eq_true rfl, Nat.le_of_ble_eq_true rfl⟩) hS (fun q _ h => hF q h) hF (fun σ3 t H locs ht hvm hw hB hz1 hk1 hS d_11 hd0 => ?_)
    have hts := dr_words hts0 (d_11)
    have hK := gKd hK0 (d_11)
    have hown : (s.setDrawn (d_11)).vm.findClass RX12 = some m.cls := hown0
    obtain ⟨hP, hD⟩ := gBack hF ht hB
    obtain ⟨hIσ3, fcσ3, hp_12⟩ := hw
    refine lv_aload_n hx hb dX12_clean_38 rfl (lv_at hl 1 rfl) ?_
    refine lv_aload_n hx hb dX12_clean_39 rfl (lv_at hl 1 rfl) ?_
    refine lv_iload_n hx hb dX12_clean_40 rfl (lv_at hl 4 rfl) ?_
    have hF := gFree hD hS hA
    refine va_calldD hd0 (va_runV_D (As := [.int p2]) (rest := [.ref (ad 0)]) ⟨hx, hb, hml, hown, hts⟩ (n_X12_cleanAt l dC dI ad cA adK adV H.size σ3 hIσ3 p2) (cwV 1 hts gX12_clean_X12_cleanAt rfl rfl rfl (by decide +kernel) ⟨Nat.le_of_ble_eq_true rfl, Nat.le_of_ble_eq_true rfl⟩) ⟨gBlind, va_recv hK hP (ci := 11) (q0 := 0) rfl (mat_11 rfl), gStart (As := [.ref (ad 0), .int p2]) hP hD hK0 hT hS hF (d_11)⟩ rfl rfl hl.1 rfl (lv_room (Nat.le_of_ble_eq_true rfl)) dX12_clean_41 ⟨Nat.le_of_ble_eq_true rfl, Nat.le_of_ble_eq_true rfl⟩) hS (fun q _ h => hF q h) hF (fun r_13 σ4 t H locs ht hvm hw hB hz1 hk1 hS d_14 hd0 => ?_)
    have hts := dr_words hts0 (d_14)
    have hK := gKd hK0 (d_14)
    have hown : (s.setDrawn (d_14)).vm.findClass RX12 = some m.cls := hown0
    obtain ⟨hP, hD⟩ := gBack hF ht hB
    obtain ⟨hIσ4, hro, hp_15⟩ := hw
    subst hro
    have hF := gFree hD hS hA
    refine va_calllD hd0 (va_runV_D (As := [.double r_13]) (rest := []) ⟨hx, hb, hml, hown, hts⟩ (n_X12_goodBits l dC dI ad cA adK adV H.size σ3 hIσ3 r_13) (cwV 1 hts gX12_clean_X12_goodBits rfl rfl rfl (by decide +kernel) ⟨Nat.le_of_ble_eq_true rfl, Nat.le_of_ble_eq_true rfl⟩) ⟨gBlind, va_recv hK hP (ci := 11) (q0 := 0) rfl (mat_11 rfl), gStart (As := [.ref (ad 0), .double r_13]) hP hD hK0 hT hS hF (d_14)⟩ rfl rfl hl.1 rfl (lv_room (Nat.le_of_ble_eq_true rfl)) dX12_clean_44 ⟨Nat.le_of_ble_eq_true rfl, Nat.le_of_ble_eq_true rfl⟩) hS (fun q _ h => hF q h) hF (fun r_16 σ5 t H locs ht hvm hw hB hz1 hk1 hS d_17 hd0 => ?_)
    have hts := dr_words hts0 (d_17)
    have hK := gKd hK0 (d_17)
    have hown : (s.setDrawn (d_17)).vm.findClass RX12 = some m.cls := hown0
    obtain ⟨hP, hD⟩ := gBack hF ht hB
    obtain ⟨hIσ5, fcσ5, hp_18⟩ := hw
    refine W.endD hd0 ?_
    exact W.lret (v := r_16) hx hb hr (fun t ht hW => ⟨⟨r_16, σ5, rfl, ⟨hIσ5, (mFr.tr (mFr.tr frσ1 fcσ3 (by decide) (by decide)) fcσ5 (by decide) (by decide)), trivial⟩, ⟨by rw [ht]; exact hP, hD⟩⟩, hS.F ht⟩) hS.2.2 dX12_clean_47
  · refine lv_aload_n hx hb dX12_clean_22 rfl (lv_at hl 1 rfl) ?_
    refine lv_iload hx hb dX12_clean_23 (lv_at hl 0 rfl) ?_
    refine lv_ldc2 (v := (-9223372036854775808)) hx hb hown (hts (.constantLong RX12 482 (-9223372036854775808)) (by decide +kernel)) dX12_clean_25 ?_
    have hF := gFree hD hS hA
    refine va_calllD hd0 (va_runV_D (As := [.int r_3, .long (-9223372036854775808)]) (rest := []) ⟨hx, hb, hml, hown, hts⟩ (n_X12_refusedLong l dC dI ad cA adK adV H.size σ1 hIσ1 r_3 (-9223372036854775808)) (cwV 2 hts gX12_clean_X12_refusedLong rfl rfl rfl (by decide +kernel) ⟨Nat.le_of_ble_eq_true rfl, Nat.le_of_ble_eq_true rfl⟩) ⟨gBlind, va_recv hK hP (ci := 11) (q0 := 0) rfl (mat_11 rfl), gStart (As := [.ref (ad 0), .int r_3, .long (-9223372036854775808)]) hP hD hK0 hT hS hF (d_4)⟩ rfl rfl hl.1 rfl (lv_room (Nat.le_of_ble_eq_true rfl)) dX12_clean_28 ⟨Nat.le_of_ble_eq_true rfl, Nat.le_of_ble_eq_true rfl⟩) hS (fun q _ h => hF q h) hF (fun r_19 σ6 t H locs ht hvm hw hB hz1 hk1 hS d_20 hd0 => ?_)
    have hts := dr_words hts0 (d_20)
    have hK := gKd hK0 (d_20)
    have hown : (s.setDrawn (d_20)).vm.findClass RX12 = some m.cls := hown0
    obtain ⟨hP, hD⟩ := gBack hF ht hB
    obtain ⟨hIσ6, fcσ6, hp_21⟩ := hw
    refine W.endD hd0 ?_
    exact W.lret (v := r_19) hx hb hr (fun t ht hW => ⟨⟨r_19, σ6, rfl, ⟨hIσ6, (mFr.tr frσ1 fcσ6 (by decide) (by decide)), trivial⟩, ⟨by rw [ht]; exact hP, hD⟩⟩, hS.F ht⟩) hS.2.2 dX12_clean_31
set_option maxHeartbeats 8000000 in
set_option maxRecDepth 100000 in
theorem n_X12_risk (l : Launch) (dC : Nat → ClassId) (dI : Nat → Nat → Nat) (ad : Nat → Nat) (cA : Nat → ClassId) (adK adV : Nat → Nat) (sz : Nat) (σ : gs) (hI : InvM σ) (p0 : Int32) (p1 : Int32) (p2 : Int32) (hh0 : Deep σ) : MetD lw_cs l yX12_risk wsX12_risk ({ frames := 7, cells := 0, slots := 0, locals := 181 }) (va_Pc [.ref (ad 0), .int p0, .int p1, .int p2] (gPre adK adV (dC, dI) (wM ad cA σ) (tM cA) sz)) (va_Ql (fun (r : Int64) (τ : gs) => InvM τ ∧ mFr [] [0, 1, 2, 47, 48, 49] σ τ ∧ (True)) (fun τ t => gPost (dC, dI) (va_A (wM ad cA σ) sz) (wM ad cA τ) t) (va_A (wM ad cA σ) sz)) 0 0 (va_A (wM ad cA σ) sz) := by
  refine MetD.ofW (cc := cX12_risk) (maxL := 5) (ret := (some .long)) (by decide) rfl ?_
  intro p e s m args below meth c s₁ B hml hv hd0
  obtain ⟨rfl, hsz, hP, hK, hD0, hT⟩ := hv
  have hx := B.exec
  have hb := B.bytes
  have hr := B.returns
  have hts0 := atoms_spec (ws := wsX12_risk) B.pre
  have hK0 := hK
  have hown0 : s.vm.findClass RX12 = some m.cls := findClass_of_methodNamed B.named
  have hlocks := B.notSynchronized
  have hinX12 : ∀ w ∈ u_ws RX12 TX12 69, w ∈ wsX12_risk := (fun _ h9 => List.mem_cons_of_mem _ (List.mem_append_right _ h9))
  subst hsz
  have hD := hD0.self (sz := s.heap.size)
  generalize hAe : va_A (wM ad cA σ) s.heap.size = A at hD hT ⊢
  have hA : ∀ q : Nat, s.heap.size ≤ q → A q := fun q h => by rw [← hAe]; exact Or.inr h
  have hS : va_S A s.heap s.heap [] := va_S.rf
  have hl := lv_entry ([.ref (ad 0), .int p0, .int p1, .int p2]) (n := 5) (Nat.le_of_ble_eq_true rfl)
  rw [lg_entry_eq]
  generalize (lg_sl ([.ref (ad 0), .int p0, .int p1, .int p2]) ++ List.replicate (5 - (lg_sl ([.ref (ad 0), .int p0, .int p1, .int p2])).length) Slot.unset).toArray = ls at hl ⊢
  have hl : lv_has ls 5 [(0, .ref (ad 0)), (1, .int p0), (2, .int p1), (3, .int p2)] := hl
  have hts := dr_words hts0 (s.drawn)
  have hK := gKd hK0 (s.drawn)
  have hown : (s.setDrawn (s.drawn)).vm.findClass RX12 = some m.cls := hown0
  refine lv_aload_n hx hb dX12_risk_0 rfl (lv_at hl 0 rfl) ?_
  refine lv_iconst (v := 0) hx hb dX12_risk_1 (by decide) ?_
  refine va_put (D := (dC, dI)) (ci := 11) (v := .int 0) (C := RX12) (T := TX12) (N := 69) hx hb hts hinX12 tyX12 tyX12_ok nmX12 hown hK hP hD hS 0 (mat_11 rfl) rfl 0 (by decide) (hts (.fieldLink RX12 107 "BondCalendarsModel" "thrown" "I") (by decide +kernel)) (fun _ h9 => h9) rfl (ty := .int) (by decide +kernel) rfl rfl (Nat.le_of_ble_eq_true rfl) dX12_risk_2 (fun H locs hP hD hS => ?_)
  obtain ⟨σ1, eσ1, hP, hD⟩ := gPut (mse_11_0 rfl) hP hD
  have hIσ1 : InvM σ1 := by rw [eσ1]; exact minv_I hI (mok_11_0 rfl _)
  have frσ1 : mFr [] [0, 1, 2, 47, 48, 49] σ σ1 := by rw [eσ1]; exact mFr.oI (mFr.rfl (L := []) (F := [0, 1, 2, 47, 48, 49]) (σ := σ)) (by decide)
  refine lv_aload_n hx hb dX12_risk_5 rfl (lv_at hl 0 rfl) ?_
  refine lv_iload_n hx hb dX12_risk_6 rfl (lv_at hl 1 rfl) ?_
  refine lv_iload_n hx hb dX12_risk_7 rfl (lv_at hl 2 rfl) ?_
  refine lv_iload_n hx hb dX12_risk_8 rfl (lv_at hl 3 rfl) ?_
  refine lv_sipush (v := (-1999)) hx hb dX12_risk_9 (by decide) ?_
  refine lv_sipush (v := 9999) hx hb dX12_risk_12 (by decide) ?_
  have hF := gFree (w := []) (hx_D0 (A := A)) hS hA
  have hKe := hK.sub (tys' := []) [] rfl
  refine va_calli (va_runS (As := [.int p2, .int (-1999), .int 9999]) (rest := [.int p1, .int p0, .ref (ad 0)]) ⟨hx, hb, hml, hown, hts⟩ (k_X12_in l dC dI H.size p2 (-1999) 9999 ) (va_cwS 3 hts gX12_risk_X12_in rfl rfl rfl (by decide +kernel) ⟨Nat.le_of_ble_eq_true rfl, Nat.le_of_ble_eq_true rfl⟩) ⟨fun a U g mk q => by obtain ⟨q0, q1, qP, qK, qD⟩ := q; exact ⟨q0, q1, qP, va_K.moved (u := U) (U := U.calling g mk a) (Vm.Alike.refl U.vm) qK, qD⟩, fun U hU hW => ⟨rfl, by rw [hU], hx_P0, va_K.moved hW.alike hKe, hx_D0⟩⟩ rfl rfl hl.1 rfl (lv_room (Nat.le_of_ble_eq_true rfl)) dX12_risk_15 ⟨Nat.le_of_ble_eq_true rfl, Nat.le_of_ble_eq_true rfl⟩) hS (fun q _ h => hF q h) hF (fun r_1 u t H locs ht hvm hw hB hz1 hk1 hS => ?_)
  have hP := gKeep hP hk1
  have in_2 : r_1 = f_X12_in p2 (-1999) 9999 := hw
  have bin_2 : r_1 = 0 ∨ r_1 = 1 := by rw [in_2]; exact in01 _ _ _
  have hF := gFree hD hS hA
  refine va_calliD hd0 (va_runV_D (As := [.int p0, .int p1, .int r_1]) (rest := []) ⟨hx, hb, hml, hown, hts⟩ (n_X12_refusesBy l dC dI ad cA adK adV H.size σ1 hIσ1 p0 p1 r_1) (cwV 3 hts gX12_risk_X12_refusesBy rfl rfl rfl (by decide +kernel) ⟨Nat.le_of_ble_eq_true rfl, Nat.le_of_ble_eq_true rfl⟩) ⟨gBlind, va_recv hK hP (ci := 11) (q0 := 0) rfl (mat_11 rfl), gStart (As := [.ref (ad 0), .int p0, .int p1, .int r_1]) hP hD hK0 hT hS hF (s.drawn)⟩ rfl rfl hl.1 rfl (lv_room (Nat.le_of_ble_eq_true rfl)) dX12_risk_18 ⟨Nat.le_of_ble_eq_true rfl, Nat.le_of_ble_eq_true rfl⟩) hS (fun q _ h => hF q h) hF (fun r_3 σ2 t H locs ht hvm hw hB hz1 hk1 hS d_4 hd0 => ?_)
  have hts := dr_words hts0 (d_4)
  have hK := gKd hK0 (d_4)
  have hown : (s.setDrawn (d_4)).vm.findClass RX12 = some m.cls := hown0
  obtain ⟨hP, hD⟩ := gBack hF ht hB
  obtain ⟨hIσ2, hro, hp_5⟩ := hw
  subst hro
  have bd_6 := mrd_11_20 (c := 0) hI rfl
  have im_7 : (r_3 : Int32) ≤ (0 : Int32) → (p0 : Int32) < ((σ 0).1 20 : Int32) := fun h9 => lt_ch (Eq.refl _).symm (show ((σ1 0).1 20 : Int32) = ((σ 0).1 20 : Int32) from by rw [eσ1, gI_oth _ _ _ (by decide)]).symm (hp_5.2.1 (le_ch (Eq.refl _) (Eq.refl _) h9))
  have im_8 : (r_3 : Int32) ≤ (0 : Int32) → (p1 : Int32) < ((σ 4).1 p0.toNatClampNeg : Int32) := fun h9 => lt_ch (Eq.refl _).symm (show ((σ1 4).1 p0.toNatClampNeg : Int32) = ((σ 4).1 p0.toNatClampNeg : Int32) from by rw [eσ1, gI_ne _ _ _ (by decide)]).symm (hp_5.2.2 (le_ch (Eq.refl _) (Eq.refl _) h9))
  refine lv_istore (lv' := [(4, .int r_3), (0, .ref (ad 0)), (1, .int p0), (2, .int p1), (3, .int p2)]) hx hb dX12_risk_21 hl (by decide) rfl (fun ls hl => ?_)
  refine lv_iload hx hb dX12_risk_23 (lv_at hl 0 rfl) ?_
  refine lv_if_le (tgt := 38) hx hb dX12_risk_25 (by decide) (fun c_9 => ?_) (fun c_9 => ?_)
  · refine lv_aload_n hx hb dX12_risk_38 rfl (lv_at hl 1 rfl) ?_
    refine lv_iload_n hx hb dX12_risk_39 rfl (lv_at hl 2 rfl) ?_
    refine lv_iload_n hx hb dX12_risk_40 rfl (lv_at hl 3 rfl) ?_
    have hF := gFree hD hS hA
    refine va_callvD hd0 (va_runV_D (As := [.int p0, .int p1]) (rest := []) ⟨hx, hb, hml, hown, hts⟩ (n_X12_settles l dC dI ad cA adK adV H.size σ1 hIσ1 p0 p1 ((hp_5.1) c_9) (Int32.lt_of_lt_of_le (im_7 c_9) bd_6.2) ((Deep.fr hh0 (by rw [eσ1, gI_ne _ _ _ (by decide)]) (by rw [eσ1, gI_ne _ _ _ (by decide)]) (by rw [eσ1, gI_ne _ _ _ (by decide)]) (by rw [eσ1, gI_ne _ _ _ (by decide)]) (by rw [eσ1, gI_ne _ _ _ (by decide)]) (by rw [eσ1, gI_ne _ _ _ (by decide)]) (by rw [eσ1, gI_ne _ _ _ (by decide)]) (by rw [eσ1, gI_oth _ _ _ (by decide)]) (by rw [eσ1, gI_oth _ _ _ (by decide)]) (by rw [eσ1, gI_oth _ _ _ (by decide)]) (by rw [eσ1, gI_oth _ _ _ (by decide)]) (by rw [eσ1, gI_oth _ _ _ (by decide)]) (by rw [eσ1, gI_oth _ _ _ (by decide)])).1 _ (nc_lt ((hp_5.1) c_9) (lt_ch (Eq.refl _) (show ((σ1 0).1 20 : Int32) = ((σ 0).1 20 : Int32) from by rw [eσ1, gI_oth _ _ _ (by decide)]) (im_7 c_9)))).1 ((Deep.fr hh0 (by rw [eσ1, gI_ne _ _ _ (by decide)]) (by rw [eσ1, gI_ne _ _ _ (by decide)]) (by rw [eσ1, gI_ne _ _ _ (by decide)]) (by rw [eσ1, gI_ne _ _ _ (by decide)]) (by rw [eσ1, gI_ne _ _ _ (by decide)]) (by rw [eσ1, gI_ne _ _ _ (by decide)]) (by rw [eσ1, gI_ne _ _ _ (by decide)]) (by rw [eσ1, gI_oth _ _ _ (by decide)]) (by rw [eσ1, gI_oth _ _ _ (by decide)]) (by rw [eσ1, gI_oth _ _ _ (by decide)]) (by rw [eσ1, gI_oth _ _ _ (by decide)]) (by rw [eσ1, gI_oth _ _ _ (by decide)]) (by rw [eσ1, gI_oth _ _ _ (by decide)])).1 _ (nc_lt ((hp_5.1) c_9) (lt_ch (Eq.refl _) (show ((σ1 0).1 20 : Int32) = ((σ 0).1 20 : Int32) from by rw [eσ1, gI_oth _ _ _ (by decide)]) (im_7 c_9)))).2.1 (lt_ch (Eq.refl _) (show ((σ1 4).1 p0.toNatClampNeg : Int32) = ((σ 4).1 p0.toNatClampNeg : Int32) from by rw [eσ1, gI_ne _ _ _ (by decide)]) (im_8 c_9))) (cwV 2 hts gX12_risk_X12_settles rfl rfl rfl (by decide +kernel) ⟨Nat.le_of_ble_eq_true rfl, Nat.le_of_ble_eq_true rfl⟩) ⟨gBlind, va_recv hK hP (ci := 11) (q0 := 0) rfl (mat_11 rfl), gStart (As := [.ref (ad 0), .int p0, .int p1]) hP hD hK0 hT hS hF (d_4)⟩ rfl rfl hl.1 rfl (lv_room (Nat.le_of_ble_eq_true rfl)) dX12_risk_41 ⟨Nat.le_of_ble_eq_true rfl, Nat.le_of_ble_eq_true rfl⟩) hS (fun q _ h => hF q h) hF (fun σ3 t H locs ht hvm hw hB hz1 hk1 hS d_11 hd0 => ?_)
    have hts := dr_words hts0 (d_11)
    have hK := gKd hK0 (d_11)
    have hown : (s.setDrawn (d_11)).vm.findClass RX12 = some m.cls := hown0
    obtain ⟨hP, hD⟩ := gBack hF ht hB
    obtain ⟨hIσ3, fcσ3, hp_12⟩ := hw
    refine lv_aload_n hx hb dX12_risk_44 rfl (lv_at hl 1 rfl) ?_
    refine lv_aload_n hx hb dX12_risk_45 rfl (lv_at hl 1 rfl) ?_
    refine lv_iload_n hx hb dX12_risk_46 rfl (lv_at hl 4 rfl) ?_
    refine lv_iconst (v := 1) hx hb dX12_risk_47 (by decide) ?_
    refine lv_isub hx hb dX12_risk_48 ?_
    refine lv_topi (fun x_13 ex_13 => ?_)
    have hF := gFree hD hS hA
    refine va_calldD hd0 (va_runS_D (As := [.int x_13]) (rest := [.ref (ad 0), .ref (ad 0)]) ⟨hx, hb, hml, hown, hts⟩ (n_X12_asYield l dC dI ad cA adK adV H.size σ3 hIσ3 x_13) (va_cwS 1 hts gX12_risk_X12_asYield rfl rfl rfl (by decide +kernel) ⟨Nat.le_of_ble_eq_true rfl, Nat.le_of_ble_eq_true rfl⟩) ⟨gBlind, gStart (As := [.int x_13]) hP hD hK0 hT hS hF (d_11)⟩ rfl rfl hl.1 rfl (lv_room (Nat.le_of_ble_eq_true rfl)) dX12_risk_49 ⟨Nat.le_of_ble_eq_true rfl, Nat.le_of_ble_eq_true rfl⟩) hS (fun q _ h => hF q h) hF (fun r_14 σ4 t H locs ht hvm hw hB hz1 hk1 hS d_15 hd0 => ?_)
    have hts := dr_words hts0 (d_15)
    have hK := gKd hK0 (d_15)
    have hown : (s.setDrawn (d_15)).vm.findClass RX12 = some m.cls := hown0
    obtain ⟨hP, hD⟩ := gBack hF ht hB
    obtain ⟨hIσ4, hro, hp_16⟩ := hw
    subst hro
    have hF := gFree hD hS hA
    refine va_calldD hd0 (va_runV_D (As := [.double r_14]) (rest := [.ref (ad 0)]) ⟨hx, hb, hml, hown, hts⟩ (n_X12_dirtyAt l dC dI ad cA adK adV H.size σ3 hIσ3 r_14) (cwV 1 hts gX12_risk_X12_dirtyAt rfl rfl rfl (by decide +kernel) ⟨Nat.le_of_ble_eq_true rfl, Nat.le_of_ble_eq_true rfl⟩) ⟨gBlind, va_recv hK hP (ci := 11) (q0 := 0) rfl (mat_11 rfl), gStart (As := [.ref (ad 0), .double r_14]) hP hD hK0 hT hS hF (d_15)⟩ rfl rfl hl.1 rfl (lv_room (Nat.le_of_ble_eq_true rfl)) dX12_risk_52 ⟨Nat.le_of_ble_eq_true rfl, Nat.le_of_ble_eq_true rfl⟩) hS (fun q _ h => hF q h) hF (fun r_17 σ5 t H locs ht hvm hw hB hz1 hk1 hS d_18 hd0 => ?_)
    have hts := dr_words hts0 (d_18)
    have hK := gKd hK0 (d_18)
    have hown : (s.setDrawn (d_18)).vm.findClass RX12 = some m.cls := hown0
    obtain ⟨hP, hD⟩ := gBack hF ht hB
    obtain ⟨hIσ5, hro, hp_19⟩ := hw
    subst hro
    refine lv_aload_n hx hb dX12_risk_55 rfl (lv_at hl 1 rfl) ?_
    refine lv_iload_n hx hb dX12_risk_56 rfl (lv_at hl 4 rfl) ?_
    refine lv_iconst (v := 1) hx hb dX12_risk_57 (by decide) ?_
    refine lv_iadd hx hb dX12_risk_58 ?_
    refine lv_topi (fun x_20 ex_20 => ?_)
    have hF := gFree hD hS hA
    refine va_calldD hd0 (va_runS_D (As := [.int x_20]) (rest := [.ref (ad 0), .double r_17, .ref (ad 0)]) ⟨hx, hb, hml, hown, hts⟩ (n_X12_asYield l dC dI ad cA adK adV H.size σ3 hIσ3 x_20) (va_cwS 1 hts gX12_risk_X12_asYield rfl rfl rfl (by decide +kernel) ⟨Nat.le_of_ble_eq_true rfl, Nat.le_of_ble_eq_true rfl⟩) ⟨gBlind, gStart (As := [.int x_20]) hP hD hK0 hT hS hF (d_18)⟩ rfl rfl hl.1 rfl (lv_room (Nat.le_of_ble_eq_true rfl)) dX12_risk_59 ⟨Nat.le_of_ble_eq_true rfl, Nat.le_of_ble_eq_true rfl⟩) hS (fun q _ h => hF q h) hF (fun r_21 σ6 t H locs ht hvm hw hB hz1 hk1 hS d_22 hd0 => ?_)
    have hts := dr_words hts0 (d_22)
    have hK := gKd hK0 (d_22)
    have hown : (s.setDrawn (d_22)).vm.findClass RX12 = some m.cls := hown0
    obtain ⟨hP, hD⟩ := gBack hF ht hB
    obtain ⟨hIσ6, hro, hp_23⟩ := hw
    subst hro
    have hF := gFree hD hS hA
    refine va_calldD hd0 (va_runV_D (As := [.double r_21]) (rest := [.double r_17, .ref (ad 0)]) ⟨hx, hb, hml, hown, hts⟩ (n_X12_dirtyAt l dC dI ad cA adK adV H.size σ3 hIσ3 r_21) (cwV 1 hts gX12_risk_X12_dirtyAt rfl rfl rfl (by decide +kernel) ⟨Nat.le_of_ble_eq_true rfl, Nat.le_of_ble_eq_true rfl⟩) ⟨gBlind, va_recv hK hP (ci := 11) (q0 := 0) rfl (mat_11 rfl), gStart (As := [.ref (ad 0), .double r_21]) hP hD hK0 hT hS hF (d_22)⟩ rfl rfl hl.1 rfl (lv_room (Nat.le_of_ble_eq_true rfl)) dX12_risk_62 ⟨Nat.le_of_ble_eq_true rfl, Nat.le_of_ble_eq_true rfl⟩) hS (fun q _ h => hF q h) hF (fun r_24 σ7 t H locs ht hvm hw hB hz1 hk1 hS d_25 hd0 => ?_)
    have hts := dr_words hts0 (d_25)
    have hK := gKd hK0 (d_25)
    have hown : (s.setDrawn (d_25)).vm.findClass RX12 = some m.cls := hown0
    obtain ⟨hP, hD⟩ := gBack hF ht hB
    obtain ⟨hIσ7, hro, hp_26⟩ := hw
    subst hro
    refine lv_dsub_any hd0 lw_bits hx hb dX12_risk_65 (fun y_27 d_28 _ hd0 => ?_)
    have hts := dr_words hts0 (d_28)
    have hK := gKd hK0 (d_28)
    have hown : (s.setDrawn (d_28)).vm.findClass RX12 = some m.cls := hown0
    refine lv_ldc2d (v := 4611686018427387904) hx hb hown (hts (.constantDouble RX12 530 (4611686018427387904)) (by decide +kernel)) dX12_risk_66 ?_
    refine lv_ddiv_any hd0 lw_bits hx hb dX12_risk_69 (fun y_29 d_30 _ hd0 => ?_)
    have hts := dr_words hts0 (d_30)
    have hK := gKd hK0 (d_30)
    have hown : (s.setDrawn (d_30)).vm.findClass RX12 = some m.cls := hown0
    have hF := gFree hD hS hA
    refine va_calllD hd0 (va_runV_D (As := [.double y_29]) (rest := []) ⟨hx, hb, hml, hown, hts⟩ (n_X12_goodBits l dC dI ad cA adK adV H.size σ3 hIσ3 y_29) (cwV 1 hts gX12_risk_X12_goodBits rfl rfl rfl (by decide +kernel) ⟨Nat.le_of_ble_eq_true rfl, Nat.le_of_ble_eq_true rfl⟩) ⟨gBlind, va_recv hK hP (ci := 11) (q0 := 0) rfl (mat_11 rfl), gStart (As := [.ref (ad 0), .double y_29]) hP hD hK0 hT hS hF (d_30)⟩ rfl rfl hl.1 rfl (lv_room (Nat.le_of_ble_eq_true rfl)) dX12_risk_70 ⟨Nat.le_of_ble_eq_true rfl, Nat.le_of_ble_eq_true rfl⟩) hS (fun q _ h => hF q h) hF (fun r_31 σ8 t H locs ht hvm hw hB hz1 hk1 hS d_32 hd0 => ?_)
    have hts := dr_words hts0 (d_32)
    have hK := gKd hK0 (d_32)
    have hown : (s.setDrawn (d_32)).vm.findClass RX12 = some m.cls := hown0
    obtain ⟨hP, hD⟩ := gBack hF ht hB
    obtain ⟨hIσ8, fcσ8, hp_33⟩ := hw
    refine W.endD hd0 ?_
    exact W.lret (v := r_31) hx hb hr (fun t ht hW => ⟨⟨r_31, σ8, rfl, ⟨hIσ8, (mFr.tr (mFr.tr frσ1 fcσ3 (by decide) (by decide)) fcσ8 (by decide) (by decide)), trivial⟩, ⟨by rw [ht]; exact hP, hD⟩⟩, hS.F ht⟩) hS.2.2 dX12_risk_73
  · refine lv_aload_n hx hb dX12_risk_28 rfl (lv_at hl 1 rfl) ?_
    refine lv_iload hx hb dX12_risk_29 (lv_at hl 0 rfl) ?_
    refine lv_ldc2 (v := (-9223372036854775808)) hx hb hown (hts (.constantLong RX12 482 (-9223372036854775808)) (by decide +kernel)) dX12_risk_31 ?_
    have hF := gFree hD hS hA
    refine va_calllD hd0 (va_runV_D (As := [.int r_3, .long (-9223372036854775808)]) (rest := []) ⟨hx, hb, hml, hown, hts⟩ (n_X12_refusedLong l dC dI ad cA adK adV H.size σ1 hIσ1 r_3 (-9223372036854775808)) (cwV 2 hts gX12_risk_X12_refusedLong rfl rfl rfl (by decide +kernel) ⟨Nat.le_of_ble_eq_true rfl, Nat.le_of_ble_eq_true rfl⟩) ⟨gBlind, va_recv hK hP (ci := 11) (q0 := 0) rfl (mat_11 rfl), gStart (As := [.ref (ad 0), .int r_3, .long (-9223372036854775808)]) hP hD hK0 hT hS hF (d_4)⟩ rfl rfl hl.1 rfl (lv_room (Nat.le_of_ble_eq_true rfl)) dX12_risk_34 ⟨Nat.le_of_ble_eq_true rfl, Nat.le_of_ble_eq_true rfl⟩) hS (fun q _ h => hF q h) hF (fun r_34 σ9 t H locs ht hvm hw hB hz1 hk1 hS d_35 hd0 => ?_)
    have hts := dr_words hts0 (d_35)
    have hK := gKd hK0 (d_35)
    have hown : (s.setDrawn (d_35)).vm.findClass RX12 = some m.cls := hown0
    obtain ⟨hP, hD⟩ := gBack hF ht hB
    obtain ⟨hIσ9, fcσ9, hp_36⟩ := hw
    refine W.endD hd0 ?_
    exact W.lret (v := r_34) hx hb hr (fun t ht hW => ⟨⟨r_34, σ9, rfl, ⟨hIσ9, (mFr.tr frσ1 fcσ9 (by decide) (by decide)), trivial⟩, ⟨by rw [ht]; exact hP, hD⟩⟩, hS.F ht⟩) hS.2.2 dX12_risk_37
