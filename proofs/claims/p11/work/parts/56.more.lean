set_option maxHeartbeats 8000000 in
set_option maxRecDepth 100000 in
theorem n_X12_hundreds (l : Launch) (dC : Nat → ClassId) (dI : Nat → Nat → Nat) (ad : Nat → Nat) (cA : Nat → ClassId) (adK adV : Nat → Nat) (sz : Nat) (σ : gs) (hI : InvM σ) (p0 : Int32) (hh0 : dL ((σ 0).2.1 4)) : MetD lw_cs l yX12_hundreds wsX12_hundreds ({ frames := 3, cells := 0, slots := 0, locals := 83 }) (va_Pc [.ref (ad 0), .int p0] (gPre adK adV (dC, dI) (wM ad cA σ) (tM cA) sz)) (va_Ql (fun (r : Int64) (τ : gs) => InvM τ ∧ mFr [] [] σ τ ∧ (True)) (fun τ t => gPost (dC, dI) (va_A (wM ad cA σ) sz) (wM ad cA τ) t) (va_A (wM ad cA σ) sz)) 0 0 (va_A (wM ad cA σ) sz) := by
  refine MetD.ofW (cc := cX12_hundreds) (maxL := 4) (ret := (some .long)) (by decide) rfl ?_
  intro p e s m args below meth c s₁ B hml hv hd0
  obtain ⟨rfl, hsz, hP, hK, hD0, hT⟩ := hv
  have hx := B.exec
  have hb := B.bytes
  have hr := B.returns
  have hts0 := atoms_spec (ws := wsX12_hundreds) B.pre
  have hK0 := hK
  have hown0 : s.vm.findClass RX12 = some m.cls := findClass_of_methodNamed B.named
  have hlocks := B.notSynchronized
  have hinX12 : ∀ w ∈ u_ws RX12 TX12 69, w ∈ wsX12_hundreds := (fun _ h9 => List.mem_cons_of_mem _ (List.mem_append_right _ h9))
  subst hsz
  have hD := hD0.self (sz := s.heap.size)
  generalize hAe : va_A (wM ad cA σ) s.heap.size = A at hD hT ⊢
  have hA : ∀ q : Nat, s.heap.size ≤ q → A q := fun q h => by rw [← hAe]; exact Or.inr h
  have hS : va_S A s.heap s.heap [] := va_S.rf
  have hl := lv_entry ([.ref (ad 0), .int p0]) (n := 4) (Nat.le_of_ble_eq_true rfl)
  rw [lg_entry_eq]
  generalize (lg_sl ([.ref (ad 0), .int p0]) ++ List.replicate (4 - (lg_sl ([.ref (ad 0), .int p0])).length) Slot.unset).toArray = ls at hl ⊢
  have hl : lv_has ls 4 [(0, .ref (ad 0)), (1, .int p0)] := hl
  have hts := dr_words hts0 (s.drawn)
  have hK := gKd hK0 (s.drawn)
  have hown : (s.setDrawn (s.drawn)).vm.findClass RX12 = some m.cls := hown0
  refine lv_aload_n hx hb dX12_hundreds_0 rfl (lv_at hl 0 rfl) ?_
  refine lv_iload_n hx hb dX12_hundreds_1 rfl (lv_at hl 1 rfl) ?_
  refine lv_i2l hx hb dX12_hundreds_2 rfl ?_
  refine lv_lconst (v := 1) hx hb dX12_hundreds_3 (by decide) ?_
  have hF := gFree hD hS hA
  refine va_callvD hd0 (va_runV_D (As := [.long (p0.toInt64), .long 1]) (rest := []) ⟨hx, hb, hml, hown, hts⟩ (n_X12_times l dC dI ad cA adK adV s.heap.size σ hI (p0.toInt64) 1 (dL_1 hh0)) (cwV 2 hts gX12_hundreds_X12_times rfl rfl rfl (by decide +kernel) ⟨Nat.le_of_ble_eq_true rfl, Nat.le_of_ble_eq_true rfl⟩) ⟨gBlind, va_recv hK hP (ci := 11) (q0 := 0) rfl (mat_11 rfl), gStart (As := [.ref (ad 0), .long (p0.toInt64), .long 1]) hP hD hK0 hT hS hF (s.drawn)⟩ rfl rfl hl.1 rfl (lv_room (Nat.le_of_ble_eq_true rfl)) dX12_hundreds_4 ⟨Nat.le_of_ble_eq_true rfl, Nat.le_of_ble_eq_true rfl⟩) hS (fun q _ h => hF q h) hF (fun σ1 t H locs ht hvm hw hB hz1 hk1 hS d_2 hd0 => ?_)
  have hts := dr_words hts0 (d_2)
  have hK := gKd hK0 (d_2)
  have hown : (s.setDrawn (d_2)).vm.findClass RX12 = some m.cls := hown0
  obtain ⟨hP, hD⟩ := gBack hF ht hB
  obtain ⟨hIσ1, fcσ1, hp_3⟩ := hw
  refine lv_aload_n hx hb dX12_hundreds_7 rfl (lv_at hl 0 rfl) ?_
  refine lv_ldc2 (v := 100) hx hb hown (hts (.constantLong RX12 408 (100)) (by decide +kernel)) dX12_hundreds_8 ?_
  refine lv_lconst (v := 1) hx hb dX12_hundreds_11 (by decide) ?_
  have hF := gFree hD hS hA
  refine va_callvD hd0 (va_runV_D (As := [.long 100, .long 1]) (rest := []) ⟨hx, hb, hml, hown, hts⟩ (n_X12_times l dC dI ad cA adK adV H.size σ1 hIσ1 100 1 (dL_1 (dL_of hh0 hp_3))) (cwV 2 hts gX12_hundreds_X12_times rfl rfl rfl (by decide +kernel) ⟨Nat.le_of_ble_eq_true rfl, Nat.le_of_ble_eq_true rfl⟩) ⟨gBlind, va_recv hK hP (ci := 11) (q0 := 0) rfl (mat_11 rfl), gStart (As := [.ref (ad 0), .long 100, .long 1]) hP hD hK0 hT hS hF (d_2)⟩ rfl rfl hl.1 rfl (lv_room (Nat.le_of_ble_eq_true rfl)) dX12_hundreds_12 ⟨Nat.le_of_ble_eq_true rfl, Nat.le_of_ble_eq_true rfl⟩) hS (fun q _ h => hF q h) hF (fun σ2 t H locs ht hvm hw hB hz1 hk1 hS d_5 hd0 => ?_)
  have hts := dr_words hts0 (d_5)
  have hK := gKd hK0 (d_5)
  have hown : (s.setDrawn (d_5)).vm.findClass RX12 = some m.cls := hown0
  obtain ⟨hP, hD⟩ := gBack hF ht hB
  obtain ⟨hIσ2, fcσ2, hp_6⟩ := hw
  refine lv_aload_n hx hb dX12_hundreds_15 rfl (lv_at hl 0 rfl) ?_
  refine va_get (D := (dC, dI)) (ci := 11) (v := .long ((σ2 0).2.1 3)) (C := RX12) (T := TX12) (N := 69) hx hb hts hinX12 hown hK hP 0 (mat_11 rfl) rfl 3 (by decide) (hts (.fieldLink RX12 161 "BondCalendarsModel" "up" "J") (by decide +kernel)) (fun _ h9 => h9) rfl dX12_hundreds_16 ?_
  refine lv_aload_n hx hb dX12_hundreds_19 rfl (lv_at hl 0 rfl) ?_
  refine va_get (D := (dC, dI)) (ci := 11) (v := .long ((σ2 0).2.1 4)) (C := RX12) (T := TX12) (N := 69) hx hb hts hinX12 hown hK hP 0 (mat_11 rfl) rfl 4 (by decide) (hts (.fieldLink RX12 165 "BondCalendarsModel" "lo" "J") (by decide +kernel)) (fun _ h9 => h9) rfl dX12_hundreds_20 ?_
  refine lv_ldiv hx hb dX12_hundreds_23 (dL_ne (dL_of (dL_of hh0 hp_3) hp_6)) ?_
  refine lv_topl (fun x_7 ex_7 => ?_)
  refine lv_lstore_n (lv' := [(2, .long x_7), (0, .ref (ad 0)), (1, .int p0)]) hx hb dX12_hundreds_24 rfl hl (by decide) rfl (fun ls hl => ?_)
  refine lv_lload_n hx hb dX12_hundreds_25 rfl (lv_at hl 0 rfl) ?_
  refine lv_aload_n hx hb dX12_hundreds_26 rfl (lv_at hl 1 rfl) ?_
  refine va_get (D := (dC, dI)) (ci := 11) (v := .long ((σ2 0).2.1 4)) (C := RX12) (T := TX12) (N := 69) hx hb hts hinX12 hown hK hP 0 (mat_11 rfl) rfl 4 (by decide) (hts (.fieldLink RX12 165 "BondCalendarsModel" "lo" "J") (by decide +kernel)) (fun _ h9 => h9) rfl dX12_hundreds_27 ?_
  refine lv_lmul hx hb dX12_hundreds_30 ?_
  refine lv_topl (fun x_8 ex_8 => ?_)
  refine lv_aload_n hx hb dX12_hundreds_31 rfl (lv_at hl 1 rfl) ?_
  refine va_get (D := (dC, dI)) (ci := 11) (v := .long ((σ2 0).2.1 3)) (C := RX12) (T := TX12) (N := 69) hx hb hts hinX12 hown hK hP 0 (mat_11 rfl) rfl 3 (by decide) (hts (.fieldLink RX12 161 "BondCalendarsModel" "up" "J") (by decide +kernel)) (fun _ h9 => h9) rfl dX12_hundreds_32 ?_
  refine W.lcmp hx hb dX12_hundreds_35 ?_
  refine lv_if_le (tgt := 45) hx hb dX12_hundreds_36 (by decide) (fun c_9 => ?_) (fun c_9 => ?_)
  · refine lv_lload_n hx hb dX12_hundreds_45 rfl (lv_at hl 0 rfl) ?_
    refine W.endD hd0 ?_
    exact W.lret (v := x_7) hx hb hr (fun t ht hW => ⟨⟨x_7, σ2, rfl, ⟨hIσ2, (mFr.tr (mFr.tr (mFr.rfl (L := []) (F := []) (σ := σ)) fcσ1 (by decide) (by decide)) fcσ2 (by decide) (by decide)), trivial⟩, ⟨by rw [ht]; exact hP, hD⟩⟩, hS.F ht⟩) hS.2.2 dX12_hundreds_46
  · refine lv_lload_n hx hb dX12_hundreds_39 rfl (lv_at hl 0 rfl) ?_
    refine lv_lconst (v := 1) hx hb dX12_hundreds_40 (by decide) ?_
    refine lv_lsub hx hb dX12_hundreds_41 ?_
    refine lv_topl (fun x_10 ex_10 => ?_)
    refine lv_goto (tgt := 46) hx hb dX12_hundreds_42 (by decide) ?_
    refine W.endD hd0 ?_
    exact W.lret (v := x_10) hx hb hr (fun t ht hW => ⟨⟨x_10, σ2, rfl, ⟨hIσ2, (mFr.tr (mFr.tr (mFr.rfl (L := []) (F := []) (σ := σ)) fcσ1 (by decide) (by decide)) fcσ2 (by decide) (by decide)), trivial⟩, ⟨by rw [ht]; exact hP, hD⟩⟩, hS.F ht⟩) hS.2.2 dX12_hundreds_46
set_option maxHeartbeats 8000000 in
set_option maxRecDepth 100000 in
theorem n_X12_copies_25_29 (l : Launch) (dC : Nat → ClassId) (dI : Nat → Nat → Nat) (ad : Nat → Nat) (cA : Nat → ClassId) (adK adV : Nat → Nat) (sz : Nat) (σ : gs) (hI : InvM σ)  : MetD lw_cs l yX12_copies wsX12_copies ({ frames := 0, cells := 0, slots := 0, locals := 0 }) (va_Pc [.ref (ad 0), .ref (ad 25), .ref (ad 29)] (gPre adK adV (dC, dI) (wM ad cA σ) (tM cA) sz)) (va_Qv (fun (τ : gs) => InvM τ ∧ mFr [69] [] σ τ ∧ (True)) (fun τ t => gPost (dC, dI) (va_A (wM ad cA σ) sz) (wM ad cA τ) t) (va_A (wM ad cA σ) sz)) 0 0 (va_A (wM ad cA σ) sz) := by
  refine MetD.ofW (cc := cX12_copies) (maxL := 4) (ret := none) (by decide) rfl ?_
  intro p e s m args below meth c s₁ B hml hv hd0
  obtain ⟨rfl, hsz, hP, hK, hD0, hT⟩ := hv
  have hx := B.exec
  have hb := B.bytes
  have hr := B.returns
  have hts0 := atoms_spec (ws := wsX12_copies) B.pre
  have hK0 := hK
  have hown0 : s.vm.findClass RX12 = some m.cls := findClass_of_methodNamed B.named
  have hlocks := B.notSynchronized
  subst hsz
  have hD := hD0.self (sz := s.heap.size)
  generalize hAe : va_A (wM ad cA σ) s.heap.size = A at hD hT ⊢
  have hA : ∀ q : Nat, s.heap.size ≤ q → A q := fun q h => by rw [← hAe]; exact Or.inr h
  have hS : va_S A s.heap s.heap [] := va_S.rf
  have hl := lv_entry ([.ref (ad 0), .ref (ad 25), .ref (ad 29)]) (n := 4) (Nat.le_of_ble_eq_true rfl)
  rw [lg_entry_eq]
  generalize (lg_sl ([.ref (ad 0), .ref (ad 25), .ref (ad 29)]) ++ List.replicate (4 - (lg_sl ([.ref (ad 0), .ref (ad 25), .ref (ad 29)])).length) Slot.unset).toArray = ls at hl ⊢
  have hl : lv_has ls 4 [(0, .ref (ad 0)), (1, .ref (ad 25)), (2, .ref (ad 29))] := hl
  have hts := dr_words hts0 (s.drawn)
  have hK := gKd hK0 (s.drawn)
  have hown : (s.setDrawn (s.drawn)).vm.findClass RX12 = some m.cls := hown0
  refine lv_iconst (v := 0) hx hb dX12_copies_0 (by decide) ?_
  refine lv_istore_n (lv' := [(3, .int 0), (0, .ref (ad 0)), (1, .ref (ad 25)), (2, .ref (ad 29))]) hx hb dX12_copies_1 rfl hl (by decide) rfl (fun ls hl => ?_)
  refine (fun (h : ∀ (n : Nat) (i3 : Int32) (σ2x : gs) (d2 : Drawn) (H : Heap) (locs : List Loc) (ls : Array Slot), ((4 : Int32).toInt - i3.toInt).toNat < n → 0 ≤ i3 → InvM σ2x → mFr [69] [] σ σ2x → s.drawn.sameBut d2 lw_cs → va_P (dC, dI) vwCl (wM ad cA σ2x) H → va_D A (wM ad cA σ2x) → va_S A s.heap H locs → lv_has ls 4 [(3, .int i3), (0, .ref (ad 0)), (1, .ref (ad 25)), (2, .ref (ad 29))] → W p l e _ (s.setDrawn d2) m _ below meth c H locs _ _ _ (F0 m 2 ls [])) => h _ 0 σ _ _ _ _ (Nat.lt_succ_self _) (by decide) hI (mFr.rfl (L := [69]) (F := []) (σ := σ)) hd0 hP hD hS (lv_sub hl [0, 1, 2, 3] rfl)) ?_
  intro n2
  induction n2 with
  | zero => intro i3 σ2x d2 H locs ls hm; exact absurd hm (Nat.not_lt_zero _)
  | succ n2 ih2 =>
    intro i3 σ2x d2 H locs ls hm2 iv2_0 hIσ2x frσ2x hd0 hP hD hS hl
    have hts := dr_words hts0 (d2)
    have hK := gKd hK0 (d2)
    have hown : (s.setDrawn (d2)).vm.findClass RX12 = some m.cls := hown0
    refine lv_iload_n hx hb dX12_copies_2 rfl (lv_at hl 0 rfl) ?_
    refine lv_aload_n hx hb dX12_copies_3 rfl (lv_at hl 2 rfl) ?_
    refine va_alen (v := 4) hx hb hK hP 25 25 (mat_65 rfl) (mty_65 rfl) rfl dX12_copies_4 ?_
    refine lv_icmp_ge (tgt := 20) hx hb dX12_copies_5 (by decide) (fun c_1 => ?_) (fun c_1 => ?_)
    · refine W.endD hd0 ?_
      exact W.vret hx hb hr (fun t ht hW => ⟨⟨σ2x, rfl, ⟨hIσ2x, frσ2x, trivial⟩, ⟨by rw [ht]; exact hP, hD⟩⟩, hS.F ht⟩) hS.2.2 dX12_copies_20
    · refine lv_aload_n hx hb dX12_copies_8 rfl (lv_at hl 3 rfl) ?_
      refine lv_iload_n hx hb dX12_copies_9 rfl (lv_at hl 0 rfl) ?_
      refine lv_aload_n hx hb dX12_copies_10 rfl (lv_at hl 2 rfl) ?_
      refine lv_iload_n hx hb dX12_copies_11 rfl (lv_at hl 0 rfl) ?_
      refine va_iald hx hb hK hP 25 25 (mat_65 rfl) (mty_65 rfl) (gin (N := 4) (by decide) iv2_0 (Int32.not_le.mp c_1)) dX12_copies_12 ?_
      refine lv_topi (fun x_2 ex_2 => ?_)
      have ex_2 : x_2 = ((σ 25).1 i3.toNatClampNeg) := by rw [ex_2, frσ2x.1 25 (by decide) (by decide)]
      refine va_iast hx hb hK hP hD hS 29 29 (mat_69 rfl) (mty_69 rfl) (gin (N := 4) (by decide) iv2_0 (Int32.not_le.mp c_1)) dX12_copies_13 (fun H locs hP hD hS => ?_)
      obtain ⟨σ1, eσ1, hP, hD⟩ := gPut (mse_69 rfl) hP hD
      have hIσ1 : InvM σ1 := by rw [eσ1]; exact minv_I hIσ2x (mok_69 rfl _ _)
      have frσ1 : mFr [69] [] σ σ1 := by rw [eσ1]; exact mFr.aI frσ2x (by decide) (by decide)
      obtain ⟨x_3, ex_3⟩ : ∃ zz : Int32, zz = i3 + 1 := ⟨_, rfl⟩
      refine lv_iinc (v := x_3) (lv' := [(3, .int x_3), (0, .ref (ad 0)), (1, .ref (ad 25)), (2, .ref (ad 29))]) hx hb dX12_copies_14 hl (k := 0) rfl (by rw [ex_3]; rfl) (by decide) rfl (fun ls hl => ?_)
      refine lv_goto (tgt := 2) hx hb dX12_copies_17 (by decide) ?_
      exact ih2 x_3 σ1 _ _ _ _ (cnt_m iv2_0 (Int32.not_le.mp c_1) hm2 ex_3) (cnt_0 iv2_0 (Int32.not_le.mp c_1) ex_3) hIσ1 frσ1 hd0 hP hD hS (lv_sub hl [0, 1, 2, 3] rfl)
set_option maxHeartbeats 8000000 in
set_option maxRecDepth 100000 in
theorem n_X12_copies_26_30 (l : Launch) (dC : Nat → ClassId) (dI : Nat → Nat → Nat) (ad : Nat → Nat) (cA : Nat → ClassId) (adK adV : Nat → Nat) (sz : Nat) (σ : gs) (hI : InvM σ)  : MetD lw_cs l yX12_copies wsX12_copies ({ frames := 0, cells := 0, slots := 0, locals := 0 }) (va_Pc [.ref (ad 0), .ref (ad 26), .ref (ad 30)] (gPre adK adV (dC, dI) (wM ad cA σ) (tM cA) sz)) (va_Qv (fun (τ : gs) => InvM τ ∧ mFr [70] [] σ τ ∧ (True)) (fun τ t => gPost (dC, dI) (va_A (wM ad cA σ) sz) (wM ad cA τ) t) (va_A (wM ad cA σ) sz)) 0 0 (va_A (wM ad cA σ) sz) := by
  refine MetD.ofW (cc := cX12_copies) (maxL := 4) (ret := none) (by decide) rfl ?_
  intro p e s m args below meth c s₁ B hml hv hd0
  obtain ⟨rfl, hsz, hP, hK, hD0, hT⟩ := hv
  have hx := B.exec
  have hb := B.bytes
  have hr := B.returns
  have hts0 := atoms_spec (ws := wsX12_copies) B.pre
  have hK0 := hK
  have hown0 : s.vm.findClass RX12 = some m.cls := findClass_of_methodNamed B.named
  have hlocks := B.notSynchronized
  subst hsz
  have hD := hD0.self (sz := s.heap.size)
  generalize hAe : va_A (wM ad cA σ) s.heap.size = A at hD hT ⊢
  have hA : ∀ q : Nat, s.heap.size ≤ q → A q := fun q h => by rw [← hAe]; exact Or.inr h
  have hS : va_S A s.heap s.heap [] := va_S.rf
  have hl := lv_entry ([.ref (ad 0), .ref (ad 26), .ref (ad 30)]) (n := 4) (Nat.le_of_ble_eq_true rfl)
  rw [lg_entry_eq]
  generalize (lg_sl ([.ref (ad 0), .ref (ad 26), .ref (ad 30)]) ++ List.replicate (4 - (lg_sl ([.ref (ad 0), .ref (ad 26), .ref (ad 30)])).length) Slot.unset).toArray = ls at hl ⊢
  have hl : lv_has ls 4 [(0, .ref (ad 0)), (1, .ref (ad 26)), (2, .ref (ad 30))] := hl
  have hts := dr_words hts0 (s.drawn)
  have hK := gKd hK0 (s.drawn)
  have hown : (s.setDrawn (s.drawn)).vm.findClass RX12 = some m.cls := hown0
  refine lv_iconst (v := 0) hx hb dX12_copies_0 (by decide) ?_
  refine lv_istore_n (lv' := [(3, .int 0), (0, .ref (ad 0)), (1, .ref (ad 26)), (2, .ref (ad 30))]) hx hb dX12_copies_1 rfl hl (by decide) rfl (fun ls hl => ?_)
  refine (fun (h : ∀ (n : Nat) (i3 : Int32) (σ2x : gs) (d2 : Drawn) (H : Heap) (locs : List Loc) (ls : Array Slot), ((328 : Int32).toInt - i3.toInt).toNat < n → 0 ≤ i3 → InvM σ2x → mFr [70] [] σ σ2x → s.drawn.sameBut d2 lw_cs → va_P (dC, dI) vwCl (wM ad cA σ2x) H → va_D A (wM ad cA σ2x) → va_S A s.heap H locs → lv_has ls 4 [(3, .int i3), (0, .ref (ad 0)), (1, .ref (ad 26)), (2, .ref (ad 30))] → W p l e _ (s.setDrawn d2) m _ below meth c H locs _ _ _ (F0 m 2 ls [])) => h _ 0 σ _ _ _ _ (Nat.lt_succ_self _) (by decide) hI (mFr.rfl (L := [70]) (F := []) (σ := σ)) hd0 hP hD hS (lv_sub hl [0, 1, 2, 3] rfl)) ?_
  intro n2
  induction n2 with
  | zero => intro i3 σ2x d2 H locs ls hm; exact absurd hm (Nat.not_lt_zero _)
  | succ n2 ih2 =>
    intro i3 σ2x d2 H locs ls hm2 iv2_0 hIσ2x frσ2x hd0 hP hD hS hl
    have hts := dr_words hts0 (d2)
    have hK := gKd hK0 (d2)
    have hown : (s.setDrawn (d2)).vm.findClass RX12 = some m.cls := hown0
    refine lv_iload_n hx hb dX12_copies_2 rfl (lv_at hl 0 rfl) ?_
    refine lv_aload_n hx hb dX12_copies_3 rfl (lv_at hl 2 rfl) ?_
    refine va_alen (v := 328) hx hb hK hP 26 26 (mat_66 rfl) (mty_66 rfl) rfl dX12_copies_4 ?_
    refine lv_icmp_ge (tgt := 20) hx hb dX12_copies_5 (by decide) (fun c_1 => ?_) (fun c_1 => ?_)
    · refine W.endD hd0 ?_
      exact W.vret hx hb hr (fun t ht hW => ⟨⟨σ2x, rfl, ⟨hIσ2x, frσ2x, trivial⟩, ⟨by rw [ht]; exact hP, hD⟩⟩, hS.F ht⟩) hS.2.2 dX12_copies_20
    · refine lv_aload_n hx hb dX12_copies_8 rfl (lv_at hl 3 rfl) ?_
      refine lv_iload_n hx hb dX12_copies_9 rfl (lv_at hl 0 rfl) ?_
      refine lv_aload_n hx hb dX12_copies_10 rfl (lv_at hl 2 rfl) ?_
      refine lv_iload_n hx hb dX12_copies_11 rfl (lv_at hl 0 rfl) ?_
      refine va_iald hx hb hK hP 26 26 (mat_66 rfl) (mty_66 rfl) (gin (N := 328) (by decide) iv2_0 (Int32.not_le.mp c_1)) dX12_copies_12 ?_
      refine lv_topi (fun x_2 ex_2 => ?_)
      have ex_2 : x_2 = ((σ 26).1 i3.toNatClampNeg) := by rw [ex_2, frσ2x.1 26 (by decide) (by decide)]
      refine va_iast hx hb hK hP hD hS 30 30 (mat_70 rfl) (mty_70 rfl) (gin (N := 328) (by decide) iv2_0 (Int32.not_le.mp c_1)) dX12_copies_13 (fun H locs hP hD hS => ?_)
      obtain ⟨σ1, eσ1, hP, hD⟩ := gPut (mse_70 rfl) hP hD
      have hIσ1 : InvM σ1 := by rw [eσ1]; exact minv_I hIσ2x (mok_70 rfl _ _)
      have frσ1 : mFr [70] [] σ σ1 := by rw [eσ1]; exact mFr.aI frσ2x (by decide) (by decide)
      obtain ⟨x_3, ex_3⟩ : ∃ zz : Int32, zz = i3 + 1 := ⟨_, rfl⟩
      refine lv_iinc (v := x_3) (lv' := [(3, .int x_3), (0, .ref (ad 0)), (1, .ref (ad 26)), (2, .ref (ad 30))]) hx hb dX12_copies_14 hl (k := 0) rfl (by rw [ex_3]; rfl) (by decide) rfl (fun ls hl => ?_)
      refine lv_goto (tgt := 2) hx hb dX12_copies_17 (by decide) ?_
      exact ih2 x_3 σ1 _ _ _ _ (cnt_m iv2_0 (Int32.not_le.mp c_1) hm2 ex_3) (cnt_0 iv2_0 (Int32.not_le.mp c_1) ex_3) hIσ1 frσ1 hd0 hP hD hS (lv_sub hl [0, 1, 2, 3] rfl)
set_option maxHeartbeats 8000000 in
set_option maxRecDepth 100000 in
theorem n_X12_copies_29_25 (l : Launch) (dC : Nat → ClassId) (dI : Nat → Nat → Nat) (ad : Nat → Nat) (cA : Nat → ClassId) (adK adV : Nat → Nat) (sz : Nat) (σ : gs) (hI : InvM σ)  : MetD lw_cs l yX12_copies wsX12_copies ({ frames := 0, cells := 0, slots := 0, locals := 0 }) (va_Pc [.ref (ad 0), .ref (ad 29), .ref (ad 25)] (gPre adK adV (dC, dI) (wM ad cA σ) (tM cA) sz)) (va_Qv (fun (τ : gs) => InvM τ ∧ mFr [65] [] σ τ ∧ (True)) (fun τ t => gPost (dC, dI) (va_A (wM ad cA σ) sz) (wM ad cA τ) t) (va_A (wM ad cA σ) sz)) 0 0 (va_A (wM ad cA σ) sz) := by
  refine MetD.ofW (cc := cX12_copies) (maxL := 4) (ret := none) (by decide) rfl ?_
  intro p e s m args below meth c s₁ B hml hv hd0
  obtain ⟨rfl, hsz, hP, hK, hD0, hT⟩ := hv
  have hx := B.exec
  have hb := B.bytes
  have hr := B.returns
  have hts0 := atoms_spec (ws := wsX12_copies) B.pre
  have hK0 := hK
  have hown0 : s.vm.findClass RX12 = some m.cls := findClass_of_methodNamed B.named
  have hlocks := B.notSynchronized
  subst hsz
  have hD := hD0.self (sz := s.heap.size)
  generalize hAe : va_A (wM ad cA σ) s.heap.size = A at hD hT ⊢
  have hA : ∀ q : Nat, s.heap.size ≤ q → A q := fun q h => by rw [← hAe]; exact Or.inr h
  have hS : va_S A s.heap s.heap [] := va_S.rf
  have hl := lv_entry ([.ref (ad 0), .ref (ad 29), .ref (ad 25)]) (n := 4) (Nat.le_of_ble_eq_true rfl)
  rw [lg_entry_eq]
  generalize (lg_sl ([.ref (ad 0), .ref (ad 29), .ref (ad 25)]) ++ List.replicate (4 - (lg_sl ([.ref (ad 0), .ref (ad 29), .ref (ad 25)])).length) Slot.unset).toArray = ls at hl ⊢
  have hl : lv_has ls 4 [(0, .ref (ad 0)), (1, .ref (ad 29)), (2, .ref (ad 25))] := hl
  have hts := dr_words hts0 (s.drawn)
  have hK := gKd hK0 (s.drawn)
  have hown : (s.setDrawn (s.drawn)).vm.findClass RX12 = some m.cls := hown0
  refine lv_iconst (v := 0) hx hb dX12_copies_0 (by decide) ?_
  refine lv_istore_n (lv' := [(3, .int 0), (0, .ref (ad 0)), (1, .ref (ad 29)), (2, .ref (ad 25))]) hx hb dX12_copies_1 rfl hl (by decide) rfl (fun ls hl => ?_)
  refine (fun (h : ∀ (n : Nat) (i3 : Int32) (σ2x : gs) (d2 : Drawn) (H : Heap) (locs : List Loc) (ls : Array Slot), ((4 : Int32).toInt - i3.toInt).toNat < n → 0 ≤ i3 → InvM σ2x → mFr [65] [] σ σ2x → s.drawn.sameBut d2 lw_cs → va_P (dC, dI) vwCl (wM ad cA σ2x) H → va_D A (wM ad cA σ2x) → va_S A s.heap H locs → lv_has ls 4 [(3, .int i3), (0, .ref (ad 0)), (1, .ref (ad 29)), (2, .ref (ad 25))] → W p l e _ (s.setDrawn d2) m _ below meth c H locs _ _ _ (F0 m 2 ls [])) => h _ 0 σ _ _ _ _ (Nat.lt_succ_self _) (by decide) hI (mFr.rfl (L := [65]) (F := []) (σ := σ)) hd0 hP hD hS (lv_sub hl [0, 1, 2, 3] rfl)) ?_
  intro n2
  induction n2 with
  | zero => intro i3 σ2x d2 H locs ls hm; exact absurd hm (Nat.not_lt_zero _)
  | succ n2 ih2 =>
    intro i3 σ2x d2 H locs ls hm2 iv2_0 hIσ2x frσ2x hd0 hP hD hS hl
    have hts := dr_words hts0 (d2)
    have hK := gKd hK0 (d2)
    have hown : (s.setDrawn (d2)).vm.findClass RX12 = some m.cls := hown0
    refine lv_iload_n hx hb dX12_copies_2 rfl (lv_at hl 0 rfl) ?_
    refine lv_aload_n hx hb dX12_copies_3 rfl (lv_at hl 2 rfl) ?_
    refine va_alen (v := 4) hx hb hK hP 29 29 (mat_69 rfl) (mty_69 rfl) rfl dX12_copies_4 ?_
    refine lv_icmp_ge (tgt := 20) hx hb dX12_copies_5 (by decide) (fun c_1 => ?_) (fun c_1 => ?_)
    · refine W.endD hd0 ?_
      exact W.vret hx hb hr (fun t ht hW => ⟨⟨σ2x, rfl, ⟨hIσ2x, frσ2x, trivial⟩, ⟨by rw [ht]; exact hP, hD⟩⟩, hS.F ht⟩) hS.2.2 dX12_copies_20
    · refine lv_aload_n hx hb dX12_copies_8 rfl (lv_at hl 3 rfl) ?_
      refine lv_iload_n hx hb dX12_copies_9 rfl (lv_at hl 0 rfl) ?_
      refine lv_aload_n hx hb dX12_copies_10 rfl (lv_at hl 2 rfl) ?_
      refine lv_iload_n hx hb dX12_copies_11 rfl (lv_at hl 0 rfl) ?_
      refine va_iald hx hb hK hP 29 29 (mat_69 rfl) (mty_69 rfl) (gin (N := 4) (by decide) iv2_0 (Int32.not_le.mp c_1)) dX12_copies_12 ?_
      refine lv_topi (fun x_2 ex_2 => ?_)
      have ex_2 : x_2 = ((σ 29).1 i3.toNatClampNeg) := by rw [ex_2, frσ2x.1 29 (by decide) (by decide)]
      refine va_iast hx hb hK hP hD hS 25 25 (mat_65 rfl) (mty_65 rfl) (gin (N := 4) (by decide) iv2_0 (Int32.not_le.mp c_1)) dX12_copies_13 (fun H locs hP hD hS => ?_)
      obtain ⟨σ1, eσ1, hP, hD⟩ := gPut (mse_65 rfl) hP hD
      have hIσ1 : InvM σ1 := by rw [eσ1]; exact minv_I hIσ2x (mok_65 rfl _ _)
      have frσ1 : mFr [65] [] σ σ1 := by rw [eσ1]; exact mFr.aI frσ2x (by decide) (by decide)
      obtain ⟨x_3, ex_3⟩ : ∃ zz : Int32, zz = i3 + 1 := ⟨_, rfl⟩
      refine lv_iinc (v := x_3) (lv' := [(3, .int x_3), (0, .ref (ad 0)), (1, .ref (ad 29)), (2, .ref (ad 25))]) hx hb dX12_copies_14 hl (k := 0) rfl (by rw [ex_3]; rfl) (by decide) rfl (fun ls hl => ?_)
      refine lv_goto (tgt := 2) hx hb dX12_copies_17 (by decide) ?_
      exact ih2 x_3 σ1 _ _ _ _ (cnt_m iv2_0 (Int32.not_le.mp c_1) hm2 ex_3) (cnt_0 iv2_0 (Int32.not_le.mp c_1) ex_3) hIσ1 frσ1 hd0 hP hD hS (lv_sub hl [0, 1, 2, 3] rfl)
set_option maxHeartbeats 8000000 in
set_option maxRecDepth 100000 in
theorem n_X12_copies_30_26 (l : Launch) (dC : Nat → ClassId) (dI : Nat → Nat → Nat) (ad : Nat → Nat) (cA : Nat → ClassId) (adK adV : Nat → Nat) (sz : Nat) (σ : gs) (hI : InvM σ)  : MetD lw_cs l yX12_copies wsX12_copies ({ frames := 0, cells := 0, slots := 0, locals := 0 }) (va_Pc [.ref (ad 0), .ref (ad 30), .ref (ad 26)] (gPre adK adV (dC, dI) (wM ad cA σ) (tM cA) sz)) (va_Qv (fun (τ : gs) => InvM τ ∧ mFr [66] [] σ τ ∧ (True)) (fun τ t => gPost (dC, dI) (va_A (wM ad cA σ) sz) (wM ad cA τ) t) (va_A (wM ad cA σ) sz)) 0 0 (va_A (wM ad cA σ) sz) := by
  refine MetD.ofW (cc := cX12_copies) (maxL := 4) (ret := none) (by decide) rfl ?_
  intro p e s m args below meth c s₁ B hml hv hd0
  obtain ⟨rfl, hsz, hP, hK, hD0, hT⟩ := hv
  have hx := B.exec
  have hb := B.bytes
  have hr := B.returns
  have hts0 := atoms_spec (ws := wsX12_copies) B.pre
  have hK0 := hK
  have hown0 : s.vm.findClass RX12 = some m.cls := findClass_of_methodNamed B.named
  have hlocks := B.notSynchronized
  subst hsz
  have hD := hD0.self (sz := s.heap.size)
  generalize hAe : va_A (wM ad cA σ) s.heap.size = A at hD hT ⊢
  have hA : ∀ q : Nat, s.heap.size ≤ q → A q := fun q h => by rw [← hAe]; exact Or.inr h
  have hS : va_S A s.heap s.heap [] := va_S.rf
  have hl := lv_entry ([.ref (ad 0), .ref (ad 30), .ref (ad 26)]) (n := 4) (Nat.le_of_ble_eq_true rfl)
  rw [lg_entry_eq]
  generalize (lg_sl ([.ref (ad 0), .ref (ad 30), .ref (ad 26)]) ++ List.replicate (4 - (lg_sl ([.ref (ad 0), .ref (ad 30), .ref (ad 26)])).length) Slot.unset).toArray = ls at hl ⊢
  have hl : lv_has ls 4 [(0, .ref (ad 0)), (1, .ref (ad 30)), (2, .ref (ad 26))] := hl
  have hts := dr_words hts0 (s.drawn)
  have hK := gKd hK0 (s.drawn)
  have hown : (s.setDrawn (s.drawn)).vm.findClass RX12 = some m.cls := hown0
  refine lv_iconst (v := 0) hx hb dX12_copies_0 (by decide) ?_
  refine lv_istore_n (lv' := [(3, .int 0), (0, .ref (ad 0)), (1, .ref (ad 30)), (2, .ref (ad 26))]) hx hb dX12_copies_1 rfl hl (by decide) rfl (fun ls hl => ?_)
  refine (fun (h : ∀ (n : Nat) (i3 : Int32) (σ2x : gs) (d2 : Drawn) (H : Heap) (locs : List Loc) (ls : Array Slot), ((328 : Int32).toInt - i3.toInt).toNat < n → 0 ≤ i3 → InvM σ2x → mFr [66] [] σ σ2x → s.drawn.sameBut d2 lw_cs → va_P (dC, dI) vwCl (wM ad cA σ2x) H → va_D A (wM ad cA σ2x) → va_S A s.heap H locs → lv_has ls 4 [(3, .int i3), (0, .ref (ad 0)), (1, .ref (ad 30)), (2, .ref (ad 26))] → W p l e _ (s.setDrawn d2) m _ below meth c H locs _ _ _ (F0 m 2 ls [])) => h _ 0 σ _ _ _ _ (Nat.lt_succ_self _) (by decide) hI (mFr.rfl (L := [66]) (F := []) (σ := σ)) hd0 hP hD hS (lv_sub hl [0, 1, 2, 3] rfl)) ?_
  intro n2
  induction n2 with
  | zero => intro i3 σ2x d2 H locs ls hm; exact absurd hm (Nat.not_lt_zero _)
  | succ n2 ih2 =>
    intro i3 σ2x d2 H locs ls hm2 iv2_0 hIσ2x frσ2x hd0 hP hD hS hl
    have hts := dr_words hts0 (d2)
    have hK := gKd hK0 (d2)
    have hown : (s.setDrawn (d2)).vm.findClass RX12 = some m.cls := hown0
    refine lv_iload_n hx hb dX12_copies_2 rfl (lv_at hl 0 rfl) ?_
    refine lv_aload_n hx hb dX12_copies_3 rfl (lv_at hl 2 rfl) ?_
    refine va_alen (v := 328) hx hb hK hP 30 30 (mat_70 rfl) (mty_70 rfl) rfl dX12_copies_4 ?_
    refine lv_icmp_ge (tgt := 20) hx hb dX12_copies_5 (by decide) (fun c_1 => ?_) (fun c_1 => ?_)
    · refine W.endD hd0 ?_
      exact W.vret hx hb hr (fun t ht hW => ⟨⟨σ2x, rfl, ⟨hIσ2x, frσ2x, trivial⟩, ⟨by rw [ht]; exact hP, hD⟩⟩, hS.F ht⟩) hS.2.2 dX12_copies_20
    · refine lv_aload_n hx hb dX12_copies_8 rfl (lv_at hl 3 rfl) ?_
      refine lv_iload_n hx hb dX12_copies_9 rfl (lv_at hl 0 rfl) ?_
      refine lv_aload_n hx hb dX12_copies_10 rfl (lv_at hl 2 rfl) ?_
      refine lv_iload_n hx hb dX12_copies_11 rfl (lv_at hl 0 rfl) ?_
      refine va_iald hx hb hK hP 30 30 (mat_70 rfl) (mty_70 rfl) (gin (N := 328) (by decide) iv2_0 (Int32.not_le.mp c_1)) dX12_copies_12 ?_
      refine lv_topi (fun x_2 ex_2 => ?_)
      have ex_2 : x_2 = ((σ 30).1 i3.toNatClampNeg) := by rw [ex_2, frσ2x.1 30 (by decide) (by decide)]
      refine va_iast hx hb hK hP hD hS 26 26 (mat_66 rfl) (mty_66 rfl) (gin (N := 328) (by decide) iv2_0 (Int32.not_le.mp c_1)) dX12_copies_13 (fun H locs hP hD hS => ?_)
      obtain ⟨σ1, eσ1, hP, hD⟩ := gPut (mse_66 rfl) hP hD
      have hIσ1 : InvM σ1 := by rw [eσ1]; exact minv_I hIσ2x (mok_66 rfl _ _)
      have frσ1 : mFr [66] [] σ σ1 := by rw [eσ1]; exact mFr.aI frσ2x (by decide) (by decide)
      obtain ⟨x_3, ex_3⟩ : ∃ zz : Int32, zz = i3 + 1 := ⟨_, rfl⟩
      refine lv_iinc (v := x_3) (lv' := [(3, .int x_3), (0, .ref (ad 0)), (1, .ref (ad 30)), (2, .ref (ad 26))]) hx hb dX12_copies_14 hl (k := 0) rfl (by rw [ex_3]; rfl) (by decide) rfl (fun ls hl => ?_)
      refine lv_goto (tgt := 2) hx hb dX12_copies_17 (by decide) ?_
      exact ih2 x_3 σ1 _ _ _ _ (cnt_m iv2_0 (Int32.not_le.mp c_1) hm2 ex_3) (cnt_0 iv2_0 (Int32.not_le.mp c_1) ex_3) hIσ1 frσ1 hd0 hP hD hS (lv_sub hl [0, 1, 2, 3] rfl)
set_option maxHeartbeats 8000000 in
set_option maxRecDepth 100000 in
theorem n_X12_copies_25_27 (l : Launch) (dC : Nat → ClassId) (dI : Nat → Nat → Nat) (ad : Nat → Nat) (cA : Nat → ClassId) (adK adV : Nat → Nat) (sz : Nat) (σ : gs) (hI : InvM σ)  : MetD lw_cs l yX12_copies wsX12_copies ({ frames := 0, cells := 0, slots := 0, locals := 0 }) (va_Pc [.ref (ad 0), .ref (ad 25), .ref (ad 27)] (gPre adK adV (dC, dI) (wM ad cA σ) (tM cA) sz)) (va_Qv (fun (τ : gs) => InvM τ ∧ mFr [67] [] σ τ ∧ (True)) (fun τ t => gPost (dC, dI) (va_A (wM ad cA σ) sz) (wM ad cA τ) t) (va_A (wM ad cA σ) sz)) 0 0 (va_A (wM ad cA σ) sz) := by
  refine MetD.ofW (cc := cX12_copies) (maxL := 4) (ret := none) (by decide) rfl ?_
  intro p e s m args below meth c s₁ B hml hv hd0
  obtain ⟨rfl, hsz, hP, hK, hD0, hT⟩ := hv
  have hx := B.exec
  have hb := B.bytes
  have hr := B.returns
  have hts0 := atoms_spec (ws := wsX12_copies) B.pre
  have hK0 := hK
  have hown0 : s.vm.findClass RX12 = some m.cls := findClass_of_methodNamed B.named
  have hlocks := B.notSynchronized
  subst hsz
  have hD := hD0.self (sz := s.heap.size)
  generalize hAe : va_A (wM ad cA σ) s.heap.size = A at hD hT ⊢
  have hA : ∀ q : Nat, s.heap.size ≤ q → A q := fun q h => by rw [← hAe]; exact Or.inr h
  have hS : va_S A s.heap s.heap [] := va_S.rf
  have hl := lv_entry ([.ref (ad 0), .ref (ad 25), .ref (ad 27)]) (n := 4) (Nat.le_of_ble_eq_true rfl)
  rw [lg_entry_eq]
  generalize (lg_sl ([.ref (ad 0), .ref (ad 25), .ref (ad 27)]) ++ List.replicate (4 - (lg_sl ([.ref (ad 0), .ref (ad 25), .ref (ad 27)])).length) Slot.unset).toArray = ls at hl ⊢
  have hl : lv_has ls 4 [(0, .ref (ad 0)), (1, .ref (ad 25)), (2, .ref (ad 27))] := hl
  have hts := dr_words hts0 (s.drawn)
  have hK := gKd hK0 (s.drawn)
  have hown : (s.setDrawn (s.drawn)).vm.findClass RX12 = some m.cls := hown0
  refine lv_iconst (v := 0) hx hb dX12_copies_0 (by decide) ?_
  refine lv_istore_n (lv' := [(3, .int 0), (0, .ref (ad 0)), (1, .ref (ad 25)), (2, .ref (ad 27))]) hx hb dX12_copies_1 rfl hl (by decide) rfl (fun ls hl => ?_)
  refine (fun (h : ∀ (n : Nat) (i3 : Int32) (σ2x : gs) (d2 : Drawn) (H : Heap) (locs : List Loc) (ls : Array Slot), ((4 : Int32).toInt - i3.toInt).toNat < n → 0 ≤ i3 → InvM σ2x → mFr [67] [] σ σ2x → s.drawn.sameBut d2 lw_cs → va_P (dC, dI) vwCl (wM ad cA σ2x) H → va_D A (wM ad cA σ2x) → va_S A s.heap H locs → lv_has ls 4 [(3, .int i3), (0, .ref (ad 0)), (1, .ref (ad 25)), (2, .ref (ad 27))] → W p l e _ (s.setDrawn d2) m _ below meth c H locs _ _ _ (F0 m 2 ls [])) => h _ 0 σ _ _ _ _ (Nat.lt_succ_self _) (by decide) hI (mFr.rfl (L := [67]) (F := []) (σ := σ)) hd0 hP hD hS (lv_sub hl [0, 1, 2, 3] rfl)) ?_
  intro n2
  induction n2 with
  | zero => intro i3 σ2x d2 H locs ls hm; exact absurd hm (Nat.not_lt_zero _)
  | succ n2 ih2 =>
    intro i3 σ2x d2 H locs ls hm2 iv2_0 hIσ2x frσ2x hd0 hP hD hS hl
    have hts := dr_words hts0 (d2)
    have hK := gKd hK0 (d2)
    have hown : (s.setDrawn (d2)).vm.findClass RX12 = some m.cls := hown0
    refine lv_iload_n hx hb dX12_copies_2 rfl (lv_at hl 0 rfl) ?_
    refine lv_aload_n hx hb dX12_copies_3 rfl (lv_at hl 2 rfl) ?_
    refine va_alen (v := 4) hx hb hK hP 25 25 (mat_65 rfl) (mty_65 rfl) rfl dX12_copies_4 ?_
    refine lv_icmp_ge (tgt := 20) hx hb dX12_copies_5 (by decide) (fun c_1 => ?_) (fun c_1 => ?_)
    · refine W.endD hd0 ?_
      exact W.vret hx hb hr (fun t ht hW => ⟨⟨σ2x, rfl, ⟨hIσ2x, frσ2x, trivial⟩, ⟨by rw [ht]; exact hP, hD⟩⟩, hS.F ht⟩) hS.2.2 dX12_copies_20
    · refine lv_aload_n hx hb dX12_copies_8 rfl (lv_at hl 3 rfl) ?_
      refine lv_iload_n hx hb dX12_copies_9 rfl (lv_at hl 0 rfl) ?_
      refine lv_aload_n hx hb dX12_copies_10 rfl (lv_at hl 2 rfl) ?_
      refine lv_iload_n hx hb dX12_copies_11 rfl (lv_at hl 0 rfl) ?_
      refine va_iald hx hb hK hP 25 25 (mat_65 rfl) (mty_65 rfl) (gin (N := 4) (by decide) iv2_0 (Int32.not_le.mp c_1)) dX12_copies_12 ?_
      refine lv_topi (fun x_2 ex_2 => ?_)
      have ex_2 : x_2 = ((σ 25).1 i3.toNatClampNeg) := by rw [ex_2, frσ2x.1 25 (by decide) (by decide)]
      refine va_iast hx hb hK hP hD hS 27 27 (mat_67 rfl) (mty_67 rfl) (gin (N := 4) (by decide) iv2_0 (Int32.not_le.mp c_1)) dX12_copies_13 (fun H locs hP hD hS => ?_)
      obtain ⟨σ1, eσ1, hP, hD⟩ := gPut (mse_67 rfl) hP hD
      have hIσ1 : InvM σ1 := by rw [eσ1]; exact minv_I hIσ2x (mok_67 rfl _ _)
      have frσ1 : mFr [67] [] σ σ1 := by rw [eσ1]; exact mFr.aI frσ2x (by decide) (by decide)
      obtain ⟨x_3, ex_3⟩ : ∃ zz : Int32, zz = i3 + 1 := ⟨_, rfl⟩
      refine lv_iinc (v := x_3) (lv' := [(3, .int x_3), (0, .ref (ad 0)), (1, .ref (ad 25)), (2, .ref (ad 27))]) hx hb dX12_copies_14 hl (k := 0) rfl (by rw [ex_3]; rfl) (by decide) rfl (fun ls hl => ?_)
      refine lv_goto (tgt := 2) hx hb dX12_copies_17 (by decide) ?_
      exact ih2 x_3 σ1 _ _ _ _ (cnt_m iv2_0 (Int32.not_le.mp c_1) hm2 ex_3) (cnt_0 iv2_0 (Int32.not_le.mp c_1) ex_3) hIσ1 frσ1 hd0 hP hD hS (lv_sub hl [0, 1, 2, 3] rfl)
set_option maxHeartbeats 8000000 in
set_option maxRecDepth 100000 in
theorem n_X12_copies_26_28 (l : Launch) (dC : Nat → ClassId) (dI : Nat → Nat → Nat) (ad : Nat → Nat) (cA : Nat → ClassId) (adK adV : Nat → Nat) (sz : Nat) (σ : gs) (hI : InvM σ)  : MetD lw_cs l yX12_copies wsX12_copies ({ frames := 0, cells := 0, slots := 0, locals := 0 }) (va_Pc [.ref (ad 0), .ref (ad 26), .ref (ad 28)] (gPre adK adV (dC, dI) (wM ad cA σ) (tM cA) sz)) (va_Qv (fun (τ : gs) => InvM τ ∧ mFr [68] [] σ τ ∧ (True)) (fun τ t => gPost (dC, dI) (va_A (wM ad cA σ) sz) (wM ad cA τ) t) (va_A (wM ad cA σ) sz)) 0 0 (va_A (wM ad cA σ) sz) := by
  refine MetD.ofW (cc := cX12_copies) (maxL := 4) (ret := none) (by decide) rfl ?_
  intro p e s m args below meth c s₁ B hml hv hd0
  obtain ⟨rfl, hsz, hP, hK, hD0, hT⟩ := hv
  have hx := B.exec
  have hb := B.bytes
  have hr := B.returns
  have hts0 := atoms_spec (ws := wsX12_copies) B.pre
  have hK0 := hK
  have hown0 : s.vm.findClass RX12 = some m.cls := findClass_of_methodNamed B.named
  have hlocks := B.notSynchronized
  subst hsz
  have hD := hD0.self (sz := s.heap.size)
  generalize hAe : va_A (wM ad cA σ) s.heap.size = A at hD hT ⊢
  have hA : ∀ q : Nat, s.heap.size ≤ q → A q := fun q h => by rw [← hAe]; exact Or.inr h
  have hS : va_S A s.heap s.heap [] := va_S.rf
  have hl := lv_entry ([.ref (ad 0), .ref (ad 26), .ref (ad 28)]) (n := 4) (Nat.le_of_ble_eq_true rfl)
  rw [lg_entry_eq]
  generalize (lg_sl ([.ref (ad 0), .ref (ad 26), .ref (ad 28)]) ++ List.replicate (4 - (lg_sl ([.ref (ad 0), .ref (ad 26), .ref (ad 28)])).length) Slot.unset).toArray = ls at hl ⊢
  have hl : lv_has ls 4 [(0, .ref (ad 0)), (1, .ref (ad 26)), (2, .ref (ad 28))] := hl
  have hts := dr_words hts0 (s.drawn)
  have hK := gKd hK0 (s.drawn)
  have hown : (s.setDrawn (s.drawn)).vm.findClass RX12 = some m.cls := hown0
  refine lv_iconst (v := 0) hx hb dX12_copies_0 (by decide) ?_
  refine lv_istore_n (lv' := [(3, .int 0), (0, .ref (ad 0)), (1, .ref (ad 26)), (2, .ref (ad 28))]) hx hb dX12_copies_1 rfl hl (by decide) rfl (fun ls hl => ?_)
  refine (fun (h : ∀ (n : Nat) (i3 : Int32) (σ2x : gs) (d2 : Drawn) (H : Heap) (locs : List Loc) (ls : Array Slot), ((328 : Int32).toInt - i3.toInt).toNat < n → 0 ≤ i3 → InvM σ2x → mFr [68] [] σ σ2x → s.drawn.sameBut d2 lw_cs → va_P (dC, dI) vwCl (wM ad cA σ2x) H → va_D A (wM ad cA σ2x) → va_S A s.heap H locs → lv_has ls 4 [(3, .int i3), (0, .ref (ad 0)), (1, .ref (ad 26)), (2, .ref (ad 28))] → W p l e _ (s.setDrawn d2) m _ below meth c H locs _ _ _ (F0 m 2 ls [])) => h _ 0 σ _ _ _ _ (Nat.lt_succ_self _) (by decide) hI (mFr.rfl (L := [68]) (F := []) (σ := σ)) hd0 hP hD hS (lv_sub hl [0, 1, 2, 3] rfl)) ?_
  intro n2
  induction n2 with
  | zero => intro i3 σ2x d2 H locs ls hm; exact absurd hm (Nat.not_lt_zero _)
  | succ n2 ih2 =>
    intro i3 σ2x d2 H locs ls hm2 iv2_0 hIσ2x frσ2x hd0 hP hD hS hl
    have hts := dr_words hts0 (d2)
    have hK := gKd hK0 (d2)
    have hown : (s.setDrawn (d2)).vm.findClass RX12 = some m.cls := hown0
    refine lv_iload_n hx hb dX12_copies_2 rfl (lv_at hl 0 rfl) ?_
    refine lv_aload_n hx hb dX12_copies_3 rfl (lv_at hl 2 rfl) ?_
    refine va_alen (v := 328) hx hb hK hP 26 26 (mat_66 rfl) (mty_66 rfl) rfl dX12_copies_4 ?_
    refine lv_icmp_ge (tgt := 20) hx hb dX12_copies_5 (by decide) (fun c_1 => ?_) (fun c_1 => ?_)
    · refine W.endD hd0 ?_
      exact W.vret hx hb hr (fun t ht hW => ⟨⟨σ2x, rfl, ⟨hIσ2x, frσ2x, trivial⟩, ⟨by rw [ht]; exact hP, hD⟩⟩, hS.F ht⟩) hS.2.2 dX12_copies_20
    · refine lv_aload_n hx hb dX12_copies_8 rfl (lv_at hl 3 rfl) ?_
      refine lv_iload_n hx hb dX12_copies_9 rfl (lv_at hl 0 rfl) ?_
      refine lv_aload_n hx hb dX12_copies_10 rfl (lv_at hl 2 rfl) ?_
      refine lv_iload_n hx hb dX12_copies_11 rfl (lv_at hl 0 rfl) ?_
      refine va_iald hx hb hK hP 26 26 (mat_66 rfl) (mty_66 rfl) (gin (N := 328) (by decide) iv2_0 (Int32.not_le.mp c_1)) dX12_copies_12 ?_
      refine lv_topi (fun x_2 ex_2 => ?_)
      have ex_2 : x_2 = ((σ 26).1 i3.toNatClampNeg) := by rw [ex_2, frσ2x.1 26 (by decide) (by decide)]
      refine va_iast hx hb hK hP hD hS 28 28 (mat_68 rfl) (mty_68 rfl) (gin (N := 328) (by decide) iv2_0 (Int32.not_le.mp c_1)) dX12_copies_13 (fun H locs hP hD hS => ?_)
      obtain ⟨σ1, eσ1, hP, hD⟩ := gPut (mse_68 rfl) hP hD
      have hIσ1 : InvM σ1 := by rw [eσ1]; exact minv_I hIσ2x (mok_68 rfl _ _)
      have frσ1 : mFr [68] [] σ σ1 := by rw [eσ1]; exact mFr.aI frσ2x (by decide) (by decide)
      obtain ⟨x_3, ex_3⟩ : ∃ zz : Int32, zz = i3 + 1 := ⟨_, rfl⟩
      refine lv_iinc (v := x_3) (lv' := [(3, .int x_3), (0, .ref (ad 0)), (1, .ref (ad 26)), (2, .ref (ad 28))]) hx hb dX12_copies_14 hl (k := 0) rfl (by rw [ex_3]; rfl) (by decide) rfl (fun ls hl => ?_)
      refine lv_goto (tgt := 2) hx hb dX12_copies_17 (by decide) ?_
      exact ih2 x_3 σ1 _ _ _ _ (cnt_m iv2_0 (Int32.not_le.mp c_1) hm2 ex_3) (cnt_0 iv2_0 (Int32.not_le.mp c_1) ex_3) hIσ1 frσ1 hd0 hP hD hS (lv_sub hl [0, 1, 2, 3] rfl)
set_option maxHeartbeats 8000000 in
set_option maxRecDepth 100000 in
theorem n_X12_copies_27_25 (l : Launch) (dC : Nat → ClassId) (dI : Nat → Nat → Nat) (ad : Nat → Nat) (cA : Nat → ClassId) (adK adV : Nat → Nat) (sz : Nat) (σ : gs) (hI : InvM σ)  : MetD lw_cs l yX12_copies wsX12_copies ({ frames := 0, cells := 0, slots := 0, locals := 0 }) (va_Pc [.ref (ad 0), .ref (ad 27), .ref (ad 25)] (gPre adK adV (dC, dI) (wM ad cA σ) (tM cA) sz)) (va_Qv (fun (τ : gs) => InvM τ ∧ mFr [65] [] σ τ ∧ (True)) (fun τ t => gPost (dC, dI) (va_A (wM ad cA σ) sz) (wM ad cA τ) t) (va_A (wM ad cA σ) sz)) 0 0 (va_A (wM ad cA σ) sz) := by
  refine MetD.ofW (cc := cX12_copies) (maxL := 4) (ret := none) (by decide) rfl ?_
  intro p e s m args below meth c s₁ B hml hv hd0
  obtain ⟨rfl, hsz, hP, hK, hD0, hT⟩ := hv
  have hx := B.exec
  have hb := B.bytes
  have hr := B.returns
  have hts0 := atoms_spec (ws := wsX12_copies) B.pre
  have hK0 := hK
  have hown0 : s.vm.findClass RX12 = some m.cls := findClass_of_methodNamed B.named
  have hlocks := B.notSynchronized
  subst hsz
  have hD := hD0.self (sz := s.heap.size)
  generalize hAe : va_A (wM ad cA σ) s.heap.size = A at hD hT ⊢
  have hA : ∀ q : Nat, s.heap.size ≤ q → A q := fun q h => by rw [← hAe]; exact Or.inr h
  have hS : va_S A s.heap s.heap [] := va_S.rf
  have hl := lv_entry ([.ref (ad 0), .ref (ad 27), .ref (ad 25)]) (n := 4) (Nat.le_of_ble_eq_true rfl)
  rw [lg_entry_eq]
  generalize (lg_sl ([.ref (ad 0), .ref (ad 27), .ref (ad 25)]) ++ List.replicate (4 - (lg_sl ([.ref (ad 0), .ref (ad 27), .ref (ad 25)])).length) Slot.unset).toArray = ls at hl ⊢
  have hl : lv_has ls 4 [(0, .ref (ad 0)), (1, .ref (ad 27)), (2, .ref (ad 25))] := hl
  have hts := dr_words hts0 (s.drawn)
  have hK := gKd hK0 (s.drawn)
  have hown : (s.setDrawn (s.drawn)).vm.findClass RX12 = some m.cls := hown0
  refine lv_iconst (v := 0) hx hb dX12_copies_0 (by decide) ?_
  refine lv_istore_n (lv' := [(3, .int 0), (0, .ref (ad 0)), (1, .ref (ad 27)), (2, .ref (ad 25))]) hx hb dX12_copies_1 rfl hl (by decide) rfl (fun ls hl => ?_)
  refine (fun (h : ∀ (n : Nat) (i3 : Int32) (σ2x : gs) (d2 : Drawn) (H : Heap) (locs : List Loc) (ls : Array Slot), ((4 : Int32).toInt - i3.toInt).toNat < n → 0 ≤ i3 → InvM σ2x → mFr [65] [] σ σ2x → s.drawn.sameBut d2 lw_cs → va_P (dC, dI) vwCl (wM ad cA σ2x) H → va_D A (wM ad cA σ2x) → va_S A s.heap H locs → lv_has ls 4 [(3, .int i3), (0, .ref (ad 0)), (1, .ref (ad 27)), (2, .ref (ad 25))] → W p l e _ (s.setDrawn d2) m _ below meth c H locs _ _ _ (F0 m 2 ls [])) => h _ 0 σ _ _ _ _ (Nat.lt_succ_self _) (by decide) hI (mFr.rfl (L := [65]) (F := []) (σ := σ)) hd0 hP hD hS (lv_sub hl [0, 1, 2, 3] rfl)) ?_
  intro n2
  induction n2 with
  | zero => intro i3 σ2x d2 H locs ls hm; exact absurd hm (Nat.not_lt_zero _)
  | succ n2 ih2 =>
    intro i3 σ2x d2 H locs ls hm2 iv2_0 hIσ2x frσ2x hd0 hP hD hS hl
    have hts := dr_words hts0 (d2)
    have hK := gKd hK0 (d2)
    have hown : (s.setDrawn (d2)).vm.findClass RX12 = some m.cls := hown0
    refine lv_iload_n hx hb dX12_copies_2 rfl (lv_at hl 0 rfl) ?_
    refine lv_aload_n hx hb dX12_copies_3 rfl (lv_at hl 2 rfl) ?_
    refine va_alen (v := 4) hx hb hK hP 27 27 (mat_67 rfl) (mty_67 rfl) rfl dX12_copies_4 ?_
    refine lv_icmp_ge (tgt := 20) hx hb dX12_copies_5 (by decide) (fun c_1 => ?_) (fun c_1 => ?_)
    · refine W.endD hd0 ?_
      exact W.vret hx hb hr (fun t ht hW => ⟨⟨σ2x, rfl, ⟨hIσ2x, frσ2x, trivial⟩, ⟨by rw [ht]; exact hP, hD⟩⟩, hS.F ht⟩) hS.2.2 dX12_copies_20
    · refine lv_aload_n hx hb dX12_copies_8 rfl (lv_at hl 3 rfl) ?_
      refine lv_iload_n hx hb dX12_copies_9 rfl (lv_at hl 0 rfl) ?_
      refine lv_aload_n hx hb dX12_copies_10 rfl (lv_at hl 2 rfl) ?_
      refine lv_iload_n hx hb dX12_copies_11 rfl (lv_at hl 0 rfl) ?_
      refine va_iald hx hb hK hP 27 27 (mat_67 rfl) (mty_67 rfl) (gin (N := 4) (by decide) iv2_0 (Int32.not_le.mp c_1)) dX12_copies_12 ?_
      refine lv_topi (fun x_2 ex_2 => ?_)
      have ex_2 : x_2 = ((σ 27).1 i3.toNatClampNeg) := by rw [ex_2, frσ2x.1 27 (by decide) (by decide)]
      refine va_iast hx hb hK hP hD hS 25 25 (mat_65 rfl) (mty_65 rfl) (gin (N := 4) (by decide) iv2_0 (Int32.not_le.mp c_1)) dX12_copies_13 (fun H locs hP hD hS => ?_)
      obtain ⟨σ1, eσ1, hP, hD⟩ := gPut (mse_65 rfl) hP hD
      have hIσ1 : InvM σ1 := by rw [eσ1]; exact minv_I hIσ2x (mok_65 rfl _ _)
      have frσ1 : mFr [65] [] σ σ1 := by rw [eσ1]; exact mFr.aI frσ2x (by decide) (by decide)
      obtain ⟨x_3, ex_3⟩ : ∃ zz : Int32, zz = i3 + 1 := ⟨_, rfl⟩
      refine lv_iinc (v := x_3) (lv' := [(3, .int x_3), (0, .ref (ad 0)), (1, .ref (ad 27)), (2, .ref (ad 25))]) hx hb dX12_copies_14 hl (k := 0) rfl (by rw [ex_3]; rfl) (by decide) rfl (fun ls hl => ?_)
      refine lv_goto (tgt := 2) hx hb dX12_copies_17 (by decide) ?_
      exact ih2 x_3 σ1 _ _ _ _ (cnt_m iv2_0 (Int32.not_le.mp c_1) hm2 ex_3) (cnt_0 iv2_0 (Int32.not_le.mp c_1) ex_3) hIσ1 frσ1 hd0 hP hD hS (lv_sub hl [0, 1, 2, 3] rfl)
set_option maxHeartbeats 8000000 in
set_option maxRecDepth 100000 in
theorem n_X12_copies_28_26 (l : Launch) (dC : Nat → ClassId) (dI : Nat → Nat → Nat) (ad : Nat → Nat) (cA : Nat → ClassId) (adK adV : Nat → Nat) (sz : Nat) (σ : gs) (hI : InvM σ)  : MetD lw_cs l yX12_copies wsX12_copies ({ frames := 0, cells := 0, slots := 0, locals := 0 }) (va_Pc [.ref (ad 0), .ref (ad 28), .ref (ad 26)] (gPre adK adV (dC, dI) (wM ad cA σ) (tM cA) sz)) (va_Qv (fun (τ : gs) => InvM τ ∧ mFr [66] [] σ τ ∧ (True)) (fun τ t => gPost (dC, dI) (va_A (wM ad cA σ) sz) (wM ad cA τ) t) (va_A (wM ad cA σ) sz)) 0 0 (va_A (wM ad cA σ) sz) := by
  refine MetD.ofW (cc := cX12_copies) (maxL := 4) (ret := none) (by decide) rfl ?_
  intro p e s m args below meth c s₁ B hml hv hd0
  obtain ⟨rfl, hsz, hP, hK, hD0, hT⟩ := hv
  have hx := B.exec
  have hb := B.bytes
  have hr := B.returns
  have hts0 := atoms_spec (ws := wsX12_copies) B.pre
  have hK0 := hK
  have hown0 : s.vm.findClass RX12 = some m.cls := findClass_of_methodNamed B.named
  have hlocks := B.notSynchronized
  subst hsz
  have hD := hD0.self (sz := s.heap.size)
  generalize hAe : va_A (wM ad cA σ) s.heap.size = A at hD hT ⊢
  have hA : ∀ q : Nat, s.heap.size ≤ q → A q := fun q h => by rw [← hAe]; exact Or.inr h
  have hS : va_S A s.heap s.heap [] := va_S.rf
  have hl := lv_entry ([.ref (ad 0), .ref (ad 28), .ref (ad 26)]) (n := 4) (Nat.le_of_ble_eq_true rfl)
  rw [lg_entry_eq]
  generalize (lg_sl ([.ref (ad 0), .ref (ad 28), .ref (ad 26)]) ++ List.replicate (4 - (lg_sl ([.ref (ad 0), .ref (ad 28), .ref (ad 26)])).length) Slot.unset).toArray = ls at hl ⊢
  have hl : lv_has ls 4 [(0, .ref (ad 0)), (1, .ref (ad 28)), (2, .ref (ad 26))] := hl
  have hts := dr_words hts0 (s.drawn)
  have hK := gKd hK0 (s.drawn)
  have hown : (s.setDrawn (s.drawn)).vm.findClass RX12 = some m.cls := hown0
  refine lv_iconst (v := 0) hx hb dX12_copies_0 (by decide) ?_
  refine lv_istore_n (lv' := [(3, .int 0), (0, .ref (ad 0)), (1, .ref (ad 28)), (2, .ref (ad 26))]) hx hb dX12_copies_1 rfl hl (by decide) rfl (fun ls hl => ?_)
  refine (fun (h : ∀ (n : Nat) (i3 : Int32) (σ2x : gs) (d2 : Drawn) (H : Heap) (locs : List Loc) (ls : Array Slot), ((328 : Int32).toInt - i3.toInt).toNat < n → 0 ≤ i3 → InvM σ2x → mFr [66] [] σ σ2x → s.drawn.sameBut d2 lw_cs → va_P (dC, dI) vwCl (wM ad cA σ2x) H → va_D A (wM ad cA σ2x) → va_S A s.heap H locs → lv_has ls 4 [(3, .int i3), (0, .ref (ad 0)), (1, .ref (ad 28)), (2, .ref (ad 26))] → W p l e _ (s.setDrawn d2) m _ below meth c H locs _ _ _ (F0 m 2 ls [])) => h _ 0 σ _ _ _ _ (Nat.lt_succ_self _) (by decide) hI (mFr.rfl (L := [66]) (F := []) (σ := σ)) hd0 hP hD hS (lv_sub hl [0, 1, 2, 3] rfl)) ?_
  intro n2
  induction n2 with
  | zero => intro i3 σ2x d2 H locs ls hm; exact absurd hm (Nat.not_lt_zero _)
  | succ n2 ih2 =>
    intro i3 σ2x d2 H locs ls hm2 iv2_0 hIσ2x frσ2x hd0 hP hD hS hl
    have hts := dr_words hts0 (d2)
    have hK := gKd hK0 (d2)
    have hown : (s.setDrawn (d2)).vm.findClass RX12 = some m.cls := hown0
    refine lv_iload_n hx hb dX12_copies_2 rfl (lv_at hl 0 rfl) ?_
    refine lv_aload_n hx hb dX12_copies_3 rfl (lv_at hl 2 rfl) ?_
    refine va_alen (v := 328) hx hb hK hP 28 28 (mat_68 rfl) (mty_68 rfl) rfl dX12_copies_4 ?_
    refine lv_icmp_ge (tgt := 20) hx hb dX12_copies_5 (by decide) (fun c_1 => ?_) (fun c_1 => ?_)
    · refine W.endD hd0 ?_
      exact W.vret hx hb hr (fun t ht hW => ⟨⟨σ2x, rfl, ⟨hIσ2x, frσ2x, trivial⟩, ⟨by rw [ht]; exact hP, hD⟩⟩, hS.F ht⟩) hS.2.2 dX12_copies_20
    · refine lv_aload_n hx hb dX12_copies_8 rfl (lv_at hl 3 rfl) ?_
      refine lv_iload_n hx hb dX12_copies_9 rfl (lv_at hl 0 rfl) ?_
      refine lv_aload_n hx hb dX12_copies_10 rfl (lv_at hl 2 rfl) ?_
      refine lv_iload_n hx hb dX12_copies_11 rfl (lv_at hl 0 rfl) ?_
      refine va_iald hx hb hK hP 28 28 (mat_68 rfl) (mty_68 rfl) (gin (N := 328) (by decide) iv2_0 (Int32.not_le.mp c_1)) dX12_copies_12 ?_
      refine lv_topi (fun x_2 ex_2 => ?_)
      have ex_2 : x_2 = ((σ 28).1 i3.toNatClampNeg) := by rw [ex_2, frσ2x.1 28 (by decide) (by decide)]
      refine va_iast hx hb hK hP hD hS 26 26 (mat_66 rfl) (mty_66 rfl) (gin (N := 328) (by decide) iv2_0 (Int32.not_le.mp c_1)) dX12_copies_13 (fun H locs hP hD hS => ?_)
      obtain ⟨σ1, eσ1, hP, hD⟩ := gPut (mse_66 rfl) hP hD
      have hIσ1 : InvM σ1 := by rw [eσ1]; exact minv_I hIσ2x (mok_66 rfl _ _)
      have frσ1 : mFr [66] [] σ σ1 := by rw [eσ1]; exact mFr.aI frσ2x (by decide) (by decide)
      obtain ⟨x_3, ex_3⟩ : ∃ zz : Int32, zz = i3 + 1 := ⟨_, rfl⟩
      refine lv_iinc (v := x_3) (lv' := [(3, .int x_3), (0, .ref (ad 0)), (1, .ref (ad 28)), (2, .ref (ad 26))]) hx hb dX12_copies_14 hl (k := 0) rfl (by rw [ex_3]; rfl) (by decide) rfl (fun ls hl => ?_)
      refine lv_goto (tgt := 2) hx hb dX12_copies_17 (by decide) ?_
      exact ih2 x_3 σ1 _ _ _ _ (cnt_m iv2_0 (Int32.not_le.mp c_1) hm2 ex_3) (cnt_0 iv2_0 (Int32.not_le.mp c_1) ex_3) hIσ1 frσ1 hd0 hP hD hS (lv_sub hl [0, 1, 2, 3] rfl)
