set_option maxHeartbeats 8000000 in
set_option maxRecDepth 100000 in
theorem n_X12_hundreds (l : Launch) (dC : Nat → ClassId) (dI : Nat → Nat → Nat) (ad : Nat → Nat) (cA : Nat → ClassId) (adK adV : Nat → Nat) (sz : Nat) (σ : gs) (hI : InvM σ) (p0 : Int32) (hh0 : dL ((σ 0).2.1 4)) : MetD lw_cs l yX12_hundreds wsX12_hundreds ({ frames := 3, cells := 0, slots := 0, locals := 83 }) (va_Pc [.ref (ad 0), .int p0] (gPre adK adV (dC, dI) (wM ad cA σ) (tM cA) sz)) (va_Ql (fun (r : Int64) (τ : gs) => InvM τ ∧ mFr [] [] σ τ ∧ (True)) (fun τ t => gPost (dC, dI) (va_A (wM ad cA σ) sz) (wM ad cA τ) t) (va_A (wM ad cA σ) sz)) 0 0 (va_A (wM ad cA σ) sz) := by
  refine MetD.ofW (cc := cX12_hundreds) (maxL := 4) (ret := (some .long)) (by decide) rfl ?_
  intro p e s m args below meth c s₁ B hml hv hd0
  obtain ⟨rfl, hsz, hP, hK, hD0, hT⟩ := hv
  have hx := B.exec
  have hb := B.bytes
  have hr := B.returns
  have hts0 := atoms_spec (ws := wsX12_hundreds) B.pre
  have hK0 := hK
  have hown0 : s.vm.findClass RX12 = some m.cls := findClass_of_methodNamed B.named
  have hlocks := B.notSynchronized
  have hinX12 : ∀ w ∈ u_ws RX12 TX12 69, w ∈ wsX12_hundreds := (fun _ h9 => List.mem_cons_of_mem _ (List.mem_append_right _ h9))
  subst hsz
  have hD := hD0.self (sz := s.heap.size)
  generalize hAe : va_A (wM ad cA σ) s.heap.size = A at hD hT ⊢
  have hA : ∀ q : Nat, s.heap.size ≤ q → A q := fun q h => by rw [← hAe]; exact Or.inr h
  have hS : va_S A s.heap s.heap [] := va_S.rf
  have hl := lv_entry ([.ref (ad 0), .int p0]) (n := 4) (Nat.le_of_ble_eq_true rfl)
  rw [lg_entry_eq]
  generalize (lg_sl ([.ref (ad 0), .int p0]) ++ List.replicate (4 - (lg_sl ([.ref (ad 0), .int p0])).length) Slot.unset).toArray = ls at hl ⊢
  have hl : lv_has ls 4 [(0, .ref (ad 0)), (1, .int p0)] := hl
  have hts := dr_words hts0 (s.drawn)
  have hK := gKd hK0 (s.drawn)
  have hown : (s.setDrawn (s.drawn)).vm.findClass RX12 = some m.cls := hown0
  refine lv_aload_n hx hb dX12_hundreds_0 rfl (lv_at hl 0 rfl) ?_
  refine lv_iload_n hx hb dX12_hundreds_1 rfl (lv_at hl 1 rfl) ?_
  refine lv_i2l hx hb dX12_hundreds_2 rfl ?_
  refine lv_lconst (v := 1) hx hb dX12_hundreds_3 (by decide) ?_
  have hF := gFree hD hS hA
  refine va_callvD hd0 (va_runV_D (As := [.long (p0.toInt64), .long 1]) (rest := []) ⟨hx, hb, hml, hown, hts⟩ (n_X12_times l dC dI ad cA adK adV s.heap.size σ hI (p0.toInt64) 1 (dL_1 hh0)) (cwV 2 hts gX12_hundreds_X12_times rfl rfl rfl (by decide +kernel) ⟨Nat.le_of_ble_eq_true rfl, Nat.le_of_ble_eq_true rfl⟩) ⟨gBlind, va_recv hK hP (ci := 11) (q0 := 0) rfl (mat_11 rfl), gStart (As := [.ref (ad 0), .long (p0.toInt64), .long 1]) hP hD hK0 hT hS hF (s.drawn)⟩ rfl rfl hl.1 rfl (lv_room (Nat.le_of_ble_eq_true rfl)) dX12_hundreds_4 ⟨Nat.le_of_ble_eq_true rfl, Nat.le_of_ble_eq_true rfl⟩) hS (fun q _ h => hF q h) hF (fun σ1 t H locs ht hvm hw hB hz1 hk1 hS d_2 hd0 => ?_)
  have hts := dr_words hts0 (d_2)
  have hK := gKd hK0 (d_2)
  have hown : (s.setDrawn (d_2)).vm.findClass RX12 = some m.cls := hown0
  obtain ⟨hP, hD⟩ := gBack hF ht hB
  obtain ⟨hIσ1, fcσ1, hp_3⟩ := hw
  refine lv_aload_n hx hb dX12_hundreds_7 rfl (lv_at hl 0 rfl) ?_
  refine lv_ldc2 (v := 100) hx hb hown (hts (.constantLong RX12 408 (100)) (by decide +kernel)) dX12_hundreds_8 ?_
  refine lv_lconst (v := 1) hx hb dX12_hundreds_11 (by decide) ?_
  have hF := gFree hD hS hA
  refine va_callvD hd0 (va_runV_D (As := [.long 100, .long 1]) (rest := []) ⟨hx, hb, hml, hown, hts⟩ (n_X12_times l dC dI ad cA adK adV H.size σ1 hIσ1 100 1 (dL_1 (dL_of hh0 hp_3))) (cwV 2 hts gX12_hundreds_X12_times rfl rfl rfl (by decide +kernel) ⟨Nat.le_of_ble_eq_true rfl, Nat.le_of_ble_eq_true rfl⟩) ⟨gBlind, va_recv hK hP (ci := 11) (q0 := 0) rfl (mat_11 rfl), gStart (As := [.ref (ad 0), .long 100, .long 1]) hP hD hK0 hT hS hF (d_2)⟩ rfl rfl hl.1 rfl (lv_room (Nat.le_of_ble_eq_true rfl)) dX12_hundreds_12 ⟨Nat.le_of_ble_eq_true rfl, Nat.le_of_ble_eq_true rfl⟩) hS (fun q _ h => hF q h) hF (fun σ2 t H locs ht hvm hw hB hz1 hk1 hS d_5 hd0 => ?_)
  have hts := dr_words hts0 (d_5)
  have hK := gKd hK0 (d_5)
  have hown : (s.setDrawn (d_5)).vm.findClass RX12 = some m.cls := hown0
  obtain ⟨hP, hD⟩ := gBack hF ht hB
  obtain ⟨hIσ2, fcσ2, hp_6⟩ := hw
  refine lv_aload_n hx hb dX12_hundreds_15 rfl (lv_at hl 0 rfl) ?_
  refine va_get (D := (dC, dI)) (ci := 11) (v := .long ((σ2 0).2.1 3)) (C := RX12) (T := TX12) (N := 69) hx hb hts hinX12 hown hK hP 0 (mat_11 rfl) rfl 3 (by decide) (hts (.fieldLink RX12 161 "BondCalendarsModel" "up" "J") (by decide +kernel)) (fun _ h9 => h9) rfl dX12_hundreds_16 ?_
  refine lv_aload_n hx hb dX12_hundreds_19 rfl (lv_at hl 0 rfl) ?_
  refine va_get (D := (dC, dI)) (ci := 11) (v := .long ((σ2 0).2.1 4)) (C := RX12) (T := TX12) (N := 69) hx hb hts hinX12 hown hK hP 0 (mat_11 rfl) rfl 4 (by decide) (hts (.fieldLink RX12 165 "BondCalendarsModel" "lo" "J") (by decide +kernel)) (fun _ h9 => h9) rfl dX12_hundreds_20 ?_
  refine lv_ldiv hx hb dX12_hundreds_23 (dL_ne (dL_of (dL_of hh0 hp_3) hp_6)) ?_
  refine lv_topl (fun x_7 ex_7 => ?_)
  refine lv_lstore_n (lv' := [(2, .long x_7), (0, .ref (ad 0)), (1, .int p0)]) hx hb dX12_hundreds_24 rfl hl (by decide) rfl (fun ls hl => ?_)
  refine lv_lload_n hx hb dX12_hundreds_25 rfl (lv_at hl 0 rfl) ?_
  refine lv_aload_n hx hb dX12_hundreds_26 rfl (lv_at hl 1 rfl) ?_
  refine va_get (D := (dC, dI)) (ci := 11) (v := .long ((σ2 0).2.1 4)) (C := RX12) (T := TX12) (N := 69) hx hb hts hinX12 hown hK hP 0 (mat_11 rfl) rfl 4 (by decide) (hts (.fieldLink RX12 165 "BondCalendarsModel" "lo" "J") (by decide +kernel)) (fun _ h9 => h9) rfl dX12_hundreds_27 ?_
  refine lv_lmul hx hb dX12_hundreds_30 ?_
  refine lv_topl (fun x_8 ex_8 => ?_)
  refine lv_aload_n hx hb dX12_hundreds_31 rfl (lv_at hl 1 rfl) ?_
  refine va_get (D := (dC, dI)) (ci := 11) (v := .long ((σ2 0).2.1 3)) (C := RX12) (T := TX12) (N := 69) hx hb hts hinX12 hown hK hP 0 (mat_11 rfl) rfl 3 (by decide) (hts (.fieldLink RX12 161 "BondCalendarsModel" "up" "J") (by decide +kernel)) (fun _ h9 => h9) rfl dX12_hundreds_32 ?_
  refine W.lcmp hx hb dX12_hundreds_35 ?_
  refine lv_if_le (tgt := 45) hx hb dX12_hundreds_36 (by decide) (fun c_9 => ?_) (fun c_9 => ?_)
  · refine lv_lload_n hx hb dX12_hundreds_45 rfl (lv_at hl 0 rfl) ?_
    refine W.endD hd0 ?_
    exact W.lret (v := x_7) hx hb hr (fun t ht hW => ⟨⟨x_7, σ2, rfl, ⟨hIσ2, (mFr.tr (mFr.tr (mFr.rfl (L := []) (F := []) (σ := σ)) fcσ1 (by decide) (by decide)) fcσ2 (by decide) (by decide)), trivial⟩, ⟨by rw [ht]; exact hP, hD⟩⟩, hS.F ht⟩) hS.2.2 dX12_hundreds_46
  · refine lv_lload_n hx hb dX12_hundreds_39 rfl (lv_at hl 0 rfl) ?_
    refine lv_lconst (v := 1) hx hb dX12_hundreds_40 (by decide) ?_
    refine lv_lsub hx hb dX12_hundreds_41 ?_
    refine lv_topl (fun x_10 ex_10 => ?_)
    refine lv_goto (tgt := 46) hx hb dX12_hundreds_42 (by decide) ?_
    refine W.endD hd0 ?_
    exact W.lret (v := x_10) hx hb hr (fun t ht hW => ⟨⟨x_10, σ2, rfl, ⟨hIσ2, (mFr.tr (mFr.tr (mFr.rfl (L := []) (F := []) (σ := σ)) fcσ1 (by decide) (by decide)) fcσ2 (by decide) (by decide)), trivial⟩, ⟨by rw [ht]; exact hP, hD⟩⟩, hS.F ht⟩) hS.2.2 dX12_hundreds_46
set_option maxHeartbeats 8000000 in
set_option maxRecDepth 100000 in
theorem n_X12_copies_25_29 (l : Launch) (dC : Nat → ClassId) (dI : Nat → Nat → Nat) (ad : Nat → Nat) (cA : Nat → ClassId) (adK adV : Nat → Nat) (sz : Nat) (σ : gs) (hI : InvM σ)  : MetD lw_cs l yX12_copies wsX12_copies ({ frames := 0, cells := 0, slots := 0, locals := 0 }) (va_Pc [.ref (ad 0), .ref (ad 25), .ref (ad 29)] (gPre adK adV (dC, dI) (wM ad cA σ) (tM cA) sz)) (va_Qv (fun (τ : gs) => InvM τ ∧ mFr [69] [] σ τ ∧ (True)) (fun τ t => gPost (dC, dI) (va_A (wM ad cA σ) sz) (wM ad cA τ) t) (va_A (wM ad cA σ) sz)) 0 0 (va_A (wM ad cA σ) sz) := by
  refine MetD.ofW (cc := cX12_copies) (maxL := 4) (ret := none) (by decide) rfl ?_
  intro p e s m args below meth c s₁ B hml hv hd0
  obtain ⟨rfl, hsz, hP, hK, hD0, hT⟩ := hv
  have hx := B.exec
  have hb := B.bytes
  have hr := B.returns
  have hts0 := atoms_spec (ws := wsX12_copies) B.pre
  have hK0 := hK
  have hown0 : s.vm.findClass RX12 = some m.cls := findClass_of_methodNamed B.named
  have hlocks := B.notSynchronized
  subst hsz
  have hD := hD0.self (sz := s.heap.size)
  generalize hAe : va_A (wM ad cA σ) s.heap.size = A at hD hT ⊢
  have hA : ∀ q : Nat, s.heap.size ≤ q → A q := fun q h => by rw [← hAe]; exact Or.inr h
  have hS : va_S A s.heap s.heap [] := va_S.rf
  have hl := lv_entry ([.ref (ad 0), .ref (ad 25), .ref (ad 29)]) (n := 4) (Nat.le_of_ble_eq_true rfl)
  rw [lg_entry_eq]
  generalize (lg_sl ([.ref (ad 0), .ref (ad 25), .ref (ad 29)]) ++ List.replicate (4 - (lg_sl ([.ref (ad 0), .ref (ad 25), .ref (ad 29)])).length) Slot.unset).toArray = ls at hl ⊢
  have hl : lv_has ls 4 [(0, .ref (ad 0)), (1, .ref (ad 25)), (2, .ref (ad 29))] := hl
  have hts := dr_words hts0 (s.drawn)
  have hK := gKd hK0 (s.drawn)
  have hown : (s.setDrawn (s.drawn)).vm.findClass RX12 = some m.cls := hown0
  refine lv_iconst (v := 0) hx hb dX12_copies_0 (by decide) ?_
  refine lv_istore_n (lv' := [(3, .int 0), (0, .ref (ad 0)), (1, .ref (ad 25)), (2, .ref (ad 29))]) hx hb dX12_copies_1 rfl hl (by decide) rfl (fun ls hl => ?_)
  refine (fun (h : ∀ (n : Nat) (i3 : Int32) (σ2x : gs) (d2 : Drawn) (H : Heap) (locs : List Loc) (ls : Array Slot), ((4 : Int32).toInt - i3.toInt).toNat < n → 0 ≤ i3 → InvM σ2x → mFr [69] [] σ σ2x → s.drawn.sameBut d2 lw_cs → va_P (dC, dI) vwCl (wM ad cA σ2x) H → va_D A (wM ad cA σ2x) → va_S A s.heap H locs → lv_has ls 4 [(3, .int i3), (0, .ref (ad 0)), (1, .ref (ad 25)), (2, .ref (ad 29))] → W p l e _ (s.setDrawn d2) m _ below meth c H locs _ _ _ (F0 m 2 ls [])) => h _ 0 σ _ _ _ _ (Nat.lt_succ_self _) (by decide) hI (mFr.rfl (L := [69]) (F := []) (σ := σ)) hd0 hP hD hS (lv_sub hl [0, 1, 2, 3] rfl)) ?_
  intro n2
  induction n2 with
  | zero => intro i3 σ2x d2 H locs ls hm; exact absurd hm (Nat.not_lt_zero _)
  | succ n2 ih2 =>
    intro i3 σ2x d2 H locs ls hm2 iv2_0 hIσ2x frσ2x hd0 hP hD hS hl
    have hts := dr_words hts0 (d2)
    have hK := gKd hK0 (d2)
    have hown : (s.setDrawn (d2)).vm.findClass RX12 = some m.cls := hown0
    refine lv_iload_n hx hb dX12_copies_2 rfl (lv_at hl 0 rfl) ?_
    refine lv_aload_n hx hb dX12_copies_3 rfl (lv_at hl 2 rfl) ?_
    refine va_alen (v := 4) hx hb hK hP 25 25 (mat_65 rfl) (mty_65 rfl) rfl dX12_copies_4 ?_
    refine lv_icmp_ge (tgt := 20) hx hb dX12_copies_5 (by decide) (fun c_1 => ?_) (fun c_1 => ?_)
    · refine W.endD hd0 ?_
      exact W.vret hx hb hr (fun t ht hW => ⟨⟨σ2x, rfl, ⟨hIσ2x, frσ2x, trivial⟩, ⟨by rw [ht]; exact hP, hD⟩⟩, hS.F ht⟩) hS.2.2 dX12_copies_20
    · refine lv_aload_n hx hb dX12_copies_8 rfl (lv_at hl 3 rfl) ?_
      refine lv_iload_n hx hb dX12_copies_9 rfl (lv_at hl 0 rfl) ?_
      refine lv_aload_n hx hb dX12_copies_10 rfl (lv_at hl 2 rfl) ?_
      refine lv_iload_n hx hb dX12_copies_11 rfl (lv_at hl 0 rfl) ?_
      refine va_iald hx hb hK hP 25 25 (mat_65 rfl) (mty_65 rfl) (gin (N := 4) (by decide) iv2_0 (Int32.not_le.mp c_1)) dX12_copies_12 ?_
      refine lv_topi (fun x_2 ex_2 => ?_)
      have ex_2 : x_2 = ((σ 25).1 i3.toNatClampNeg) := by rw [ex_2, frσ2x.1 25 (by decide) (by decide)]
      refine va_iast hx hb hK hP hD hS 29 29 (mat_69 rfl) (mty_69 rfl) (gin (N := 4) (by decide) iv2_0 (Int32.not_le.mp c_1)) dX12_copies_13 (fun H locs hP hD hS => ?_)
      obtain ⟨σ1, eσ1, hP, hD⟩ := gPut (mse_69 rfl) hP hD
      have hIσ1 : InvM σ1 := by rw [eσ1]; exact minv_I hIσ2x (mok_69 rfl _ _)
      have frσ1 : mFr [69] [] σ σ1 := by rw [eσ1]; exact mFr.aI frσ2x (by decide) (by decide)
      obtain ⟨x_3, ex_3⟩ : ∃ zz : Int32, zz = i3 + 1 := ⟨_, rfl⟩
      refine lv_iinc (v := x_3) (lv' := [(3, .int x_3), (0, .ref (ad 0)), (1, .ref (ad 25)), (2, .ref (ad 29))]) hx hb dX12_copies_14 hl (k := 0) rfl (by rw [ex_3]; rfl) (by decide) rfl (fun ls hl => ?_)
      refine lv_goto (tgt := 2) hx hb dX12_copies_17 (by decide) ?_
      exact ih2 x_3 σ1 _ _ _ _ (cnt_m iv2_0 (Int32.not_le.mp c_1) hm2 ex_3) (cnt_0 iv2_0 (Int32.not_le.mp c_1) ex_3) hIσ1 frσ1 hd0 hP hD hS (lv_sub hl [0, 1, 2, 3] rfl)
set_option maxHeartbeats 8000000 in
set_option maxRecDepth 100000 in
theorem n_X12_copies_26_30 (l : Launch) (dC : Nat → ClassId) (dI : Nat → Nat → Nat) (ad : Nat → Nat) (cA : Nat → ClassId) (adK adV : Nat → Nat) (sz : Nat) (σ : gs) (hI : InvM σ)  : MetD lw_cs l yX12_copies wsX12_copies ({ frames := 0, cells := 0, slots := 0, locals := 0 }) (va_Pc [.ref (ad 0), .ref (ad 26), .ref (ad 30)] (gPre adK adV (dC, dI) (wM ad cA σ) (tM cA) sz)) (va_Qv (fun (τ : gs) => InvM τ ∧ mFr [70] [] σ τ ∧ (True)) (fun τ t => gPost (dC, dI) (va_A (wM ad cA σ) sz) (wM ad cA τ) t) (va_A (wM ad cA σ) sz)) 0 0 (va_A (wM ad cA σ) sz) := by
  refine MetD.ofW (cc := cX12_copies) (maxL := 4) (ret := none) (by decide) rfl ?_
  intro p e s m args below meth c s₁ B hml hv hd0
  obtain ⟨rfl, hsz, hP, hK, hD0, hT⟩ := hv
  have hx := B.exec
  have hb := B.bytes
  have hr := B.returns
  have hts0 := atoms_spec (ws := wsX12_copies) B.pre
  have hK0 := hK
  have hown0 : s.vm.findClass RX12 = some m.cls := findClass_of_methodNamed B.named
  have hlocks := B.notSynchronized
  subst hsz
  have hD := hD0.self (sz := s.heap.size)
  generalize hAe : va_A (wM ad cA σ) s.heap.size = A at hD hT ⊢
  have hA : ∀ q : Nat, s.heap.size ≤ q → A q := fun q h => by rw [← hAe]; exact Or.inr h
  have hS : va_S A s.heap s.heap [] := va_S.rf
  have hl := lv_entry ([.ref (ad 0), .ref (ad 26), .ref (ad 30)]) (n := 4) (Nat.le_of_ble_eq_true rfl)
  rw [lg_entry_eq]
  generalize (lg_sl ([.ref (ad 0), .ref (ad 26), .ref (ad 30)]) ++ List.replicate (4 - (lg_sl ([.ref (ad 0), .ref (ad 26), .ref (ad 30)])).length) Slot.unset).toArray = ls at hl ⊢
  have hl : lv_has ls 4 [(0, .ref (ad 0)), (1, .ref (ad 26)), (2, .ref (ad 30))] := hl
  have hts := dr_words hts0 (s.drawn)
  have hK := gKd hK0 (s.drawn)
  have hown : (s.setDrawn (s.drawn)).vm.findClass RX12 = some m.cls := hown0
  refine lv_iconst (v := 0) hx hb dX12_copies_0 (by decide) ?_
  refine lv_istore_n (lv' := [(3, .int 0), (0, .ref (ad 0)), (1, .ref (ad 26)), (2, .ref (ad 30))]) hx hb dX12_copies_1 rfl hl (by decide) rfl (fun ls hl => ?_)
  refine (fun (h : ∀ (n : Nat) (i3 : Int32) (σ2x : gs) (d2 : Drawn) (H : Heap) (locs : List Loc) (ls : Array Slot), ((328 : Int32).toInt - i3.toInt).toNat < n → 0 ≤ i3 → InvM σ2x → mFr [70] [] σ σ2x → s.drawn.sameBut d2 lw_cs → va_P (dC, dI) vwCl (wM ad cA σ2x) H → va_D A (wM ad cA σ2x) → va_S A s.heap H locs → lv_has ls 4 [(3, .int i3), (0, .ref (ad 0)), (1, .ref (ad 26)), (2, .ref (ad 30))] → W p l e _ (s.setDrawn d2) m _ below meth c H locs _ _ _ (F0 m 2 ls [])) => h _ 0 σ _ _ _ _ (Nat.lt_succ_self _) (by decide) hI (mFr.rfl (L := [70]) (F := []) (σ := σ)) hd0 hP hD hS (lv_sub hl [0, 1, 2, 3] rfl)) ?_
  intro n2
  induction n2 with
  | zero => intro i3 σ2x d2 H locs ls hm; exact absurd hm (Nat.not_lt_zero _)
  | succ n2 ih2 =>
    intro i3 σ2x d2 H locs ls hm2 iv2_0 hIσ2x frσ2x hd0 hP hD hS hl
    have hts := dr_words hts0 (d2)
    have hK := gKd hK0 (d2)
    have hown : (s.setDrawn (d2)).vm.findClass RX12 = some m.cls := hown0
    refine lv_iload_n hx hb dX12_copies_2 rfl (lv_at hl 0 rfl) ?_
    refine lv_aload_n hx hb dX12_copies_3 rfl (lv_at hl 2 rfl) ?_
    refine va_alen (v := 328) hx hb hK hP 26 26 (mat_66 rfl) (mty_66 rfl) rfl dX12_copies_4 ?_
    refine lv_icmp_ge (tgt := 20) hx hb dX12_copies_5 (by decide) (fun c_1 => ?_) (fun c_1 => ?_)
    · refine W.endD hd0 ?_
      exact W.vret hx hb hr (fun t ht hW => ⟨⟨σ2x, rfl, ⟨hIσ2x, frσ2x, trivial⟩, ⟨by rw [ht]; exact hP, hD⟩⟩, hS.F ht⟩) hS.2.2 dX12_copies_20
    · refine lv_aload_n hx hb dX12_copies_8 rfl (lv_at hl 3 rfl) ?_
      refine lv_iload_n hx hb dX12_copies_9 rfl (lv_at hl 0 rfl) ?_
      refine lv_aload_n hx hb dX12_copies_10 rfl (lv_at hl 2 rfl) ?_
      refine lv_iload_n hx hb dX12_copies_11 rfl (lv_at hl 0 rfl) ?_
      refine va_iald hx hb hK hP 26 26 (mat_66 rfl) (mty_66 rfl) (gin (N := 328) (by decide) iv2_0 (Int32.not_le.mp c_1)) dX12_copies_12 ?_
      refine lv_topi (fun x_2 ex_2 => ?_)
      have ex_2 : x_2 = ((σ 26).1 i3.toNatClampNeg) := by rw [ex_2, frσ2x.1 26 (by decide) (by decide)]
      refine va_iast hx hb hK hP hD hS 30 30 (mat_70 rfl) (mty_70 rfl) (gin (N := 328) (by decide) iv2_0 (Int32.not_le.mp c_1)) dX12_copies_13 (fun H locs hP hD hS => ?_)
      obtain ⟨σ1, eσ1, hP, hD⟩ := gPut (mse_70 rfl) hP hD
      have hIσ1 : InvM σ1 := by rw [eσ1]; exact minv_I hIσ2x (mok_70 rfl _ _)
      have frσ1 : mFr [70] [] σ σ1 := by rw [eσ1]; exact mFr.aI frσ2x (by decide) (by decide)
      obtain ⟨x_3, ex_3⟩ : ∃ zz : Int32, zz = i3 + 1 := ⟨_, rfl⟩
      refine lv_iinc (v := x_3) (lv' := [(3, .int x_3), (0, .ref (ad 0)), (1, .ref (ad 26)), (2, .ref (ad 30))]) hx hb dX12_copies_14 hl (k := 0) rfl (by rw [ex_3]; rfl) (by decide) rfl (fun ls hl => ?_)
      refine lv_goto (tgt := 2) hx hb dX12_copies_17 (by decide) ?_
      exact ih2 x_3 σ1 _ _ _ _ (cnt_m iv2_0 (Int32.not_le.mp c_1) hm2 ex_3) (cnt_0 iv2_0 (Int32.not_le.mp c_1) ex_3) hIσ1 frσ1 hd0 hP hD hS (lv_sub hl [0, 1, 2, 3] rfl)
set_option maxHeartbeats 8000000 in
set_option maxRecDepth 100000 in
theorem n_X12_copies_29_25 (l : Launch) (dC : Nat → ClassId) (dI : Nat → Nat → Nat) (ad : Nat → Nat) (cA : Nat → ClassId) (adK adV : Nat → Nat) (sz : Nat) (σ : gs) (hI : InvM σ)  : MetD lw_cs l yX12_copies wsX12_copies ({ frames := 0, cells := 0, slots := 0, locals := 0 }) (va_Pc [.ref (ad 0), .ref (ad 29), .ref (ad 25)] (gPre adK adV (dC, dI) (wM ad cA σ) (tM cA) sz)) (va_Qv (fun (τ : gs) => InvM τ ∧ mFr [65] [] σ τ ∧ (True)) (fun τ t => gPost (dC, dI) (va_A (wM ad cA σ) sz) (wM ad cA τ) t) (va_A (wM ad cA σ) sz)) 0 0 (va_A (wM ad cA σ) sz) := by
  refine MetD.ofW (cc := cX12_copies) (maxL := 4) (ret := none) (by decide) rfl ?_
  intro p e s m args below meth c s₁ B hml hv hd0
  obtain ⟨rfl, hsz, hP, hK, hD0, hT⟩ := hv
  have hx := B.exec
  have hb := B.bytes
  have hr := B.returns
  have hts0 := atoms_spec (ws := wsX12_copies) B.pre
  have hK0 := hK
  have hown0 : s.vm.findClass RX12 = some m.cls := findClass_of_methodNamed B.named
  have hlocks := B.notSynchronized
  subst hsz
  have hD := hD0.self (sz := s.heap.size)
  generalize hAe : va_A (wM ad cA σ) s.heap.size = A at hD hT ⊢
  have hA : ∀ q : Nat, s.heap.size ≤ q → A q := fun q h => by rw [← hAe]; exact Or.inr h
  have hS : va_S A s.heap s.heap [] := va_S.rf
  have hl := lv_entry ([.ref (ad 0), .ref (ad 29), .ref (ad 25)]) (n := 4) (Nat.le_of_ble_eq_true rfl)
  rw [lg_entry_eq]
  generalize (lg_sl ([.ref (ad 0), .ref (ad 29), .ref (ad 25)]) ++ List.replicate (4 - (lg_sl ([.ref (ad 0), .ref (ad 29), .ref (ad 25)])).length) Slot.unset).toArray = ls at hl ⊢
  have hl : lv_has ls 4 [(0, .ref (ad 0)), (1, .ref (ad 29)), (2, .ref (ad 25))] := hl
  have hts := dr_words hts0 (s.drawn)
  have hK := gKd hK0 (s.drawn)
  have hown : (s.setDrawn (s.drawn)).vm.findClass RX12 = some m.cls := hown0
  refine lv_iconst (v := 0) hx hb dX12_copies_0 (by decide) ?_
  refine lv_istore_n (lv' := [(3, .int 0), (0, .ref (ad 0)), (1, .ref (ad 29)), (2, .ref (ad 25))]) hx hb dX12_copies_1 rfl hl (by decide) rfl (fun ls hl => ?_)
  refine (fun (h : ∀ (n : Nat) (i3 : Int32) (σ2x : gs) (d2 : Drawn) (H : Heap) (locs : List Loc) (ls : Array Slot), ((4 : Int32).toInt - i3.toInt).toNat < n → 0 ≤ i3 → InvM σ2x → mFr [65] [] σ σ2x → s.drawn.sameBut d2 lw_cs → va_P (dC, dI) vwCl (wM ad cA σ2x) H → va_D A (wM ad cA σ2x) → va_S A s.heap H locs → lv_has ls 4 [(3, .int i3), (0, .ref (ad 0)), (1, .ref (ad 29)), (2, .ref (ad 25))] → W p l e _ (s.setDrawn d2) m _ below meth c H locs _ _ _ (F0 m 2 ls [])) => h _ 0 σ _ _ _ _ (Nat.lt_succ_self _) (by decide) hI (mFr.rfl (L := [65]) (F := []) (σ := σ)) hd0 hP hD hS (lv_sub hl [0, 1, 2, 3] rfl)) ?_
  intro n2
  induction n2 with
  | zero => intro i3 σ2x d2 H locs ls hm; exact absurd hm (Nat.not_lt_zero _)
  | succ n2 ih2 =>
    intro i3 σ2x d2 H locs ls hm2 iv2_0 hIσ2x frσ2x hd0 hP hD hS hl
    have hts := dr_words hts0 (d2)
    have hK := gKd hK0 (d2)
    have hown : (s.setDrawn (d2)).vm.findClass RX12 = some m.cls := hown0
    refine lv_iload_n hx hb dX12_copies_2 rfl (lv_at hl 0 rfl) ?_
    refine lv_aload_n hx hb dX12_copies_3 rfl (lv_at hl 2 rfl) ?_
    refine va_alen (v := 4) hx hb hK hP 29 29 (mat_69 rfl) (mty_69 rfl) rfl dX12_copies_4 ?_
    refine lv_icmp_ge (tgt := 20) hx hb dX12_copies_5 (by decide) (fun c_1 => ?_) (fun c_1 => ?_)
    · refine W.endD hd0 ?_
      exact W.vret hx hb hr (fun t ht hW => ⟨⟨σ2x, rfl, ⟨hIσ2x, frσ2x, trivial⟩, ⟨by rw [ht]; exact hP, hD⟩⟩, hS.F ht⟩) hS.2.2 dX12_copies_20
    · refine lv_aload_n hx hb dX12_copies_8 rfl (lv_at hl 3 rfl) ?_
      refine lv_iload_n hx hb dX12_copies_9 rfl (lv_at hl 0 rfl) ?_
      refine lv_aload_n hx hb dX12_copies_10 rfl (lv_at hl 2 rfl) ?_
      refine lv_iload_n hx hb dX12_copies_11 rfl (lv_at hl 0 rfl) ?_
      refine va_iald hx hb hK hP 29 29 (mat_69 rfl) (mty_69 rfl) (gin (N := 4) (by decide) iv2_0 (Int32.not_le.mp c_1)) dX12_copies_12 ?_
      refine lv_topi (fun x_2 ex_2 => ?_)
      have ex_2 : x_2 = ((σ 29).1 i3.toNatClampNeg) := by rw [ex_2, frσ2x.1 29 (by decide) (by decide)]
      refine va_iast hx hb hK hP hD hS 25 25 (mat_65 rfl) (mty_65 rfl) (gin (N := 4) (by decide) iv2_0 (Int32.not_le.mp c_1)) dX12_copies_13 (fun H locs hP hD hS => ?_)
      obtain ⟨σ1, eσ1, hP, hD⟩ := gPut (mse_65 rfl) hP hD
      have hIσ1 : InvM σ1 := by rw [eσ1]; exact minv_I hIσ2x (mok_65 rfl _ _)
      have frσ1 : mFr [65] [] σ σ1 := by rw [eσ1]; exact mFr.aI frσ2x (by decide) (by decide)
      obtain ⟨x_3, ex_3⟩ : ∃ zz : Int32, zz = i3 + 1 := ⟨_, rfl⟩
      refine lv_iinc (v := x_3) (lv' := [(3, .int x_3), (0, .ref (ad 0)), (1, .ref (ad 29)), (2, .ref (ad 25))]) hx hb dX12_copies_14 hl (k := 0) rfl (by rw [ex_3]; rfl) (by decide) rfl (fun ls hl => ?_)
      refine lv_goto (tgt := 2) hx hb dX12_copies_17 (by decide) ?_
      exact ih2 x_3 σ1 _ _ _ _ (cnt_m iv2_0 (Int32.not_le.mp c_1) hm2 ex_3) (cnt_0 iv2_0 (Int32.not_le.mp c_1) ex_3) hIσ1 frσ1 hd0 hP hD hS (lv_sub hl [0, 1, 2, 3] rfl)
set_option maxHeartbeats 8000000 in
set_option maxRecDepth 100000 in
theorem n_X12_copies_30_26 (l : Launch) (dC : Nat → ClassId) (dI : Nat → Nat → Nat) (ad : Nat → Nat) (cA : Nat → ClassId) (adK adV : Nat → Nat) (sz : Nat) (σ : gs) (hI : InvM σ)  : MetD lw_cs l yX12_copies wsX12_copies ({ frames := 0, cells := 0, slots := 0, locals := 0 }) (va_Pc [.ref (ad 0), .ref (ad 30), .ref (ad 26)] (gPre adK adV (dC, dI) (wM ad cA σ) (tM cA) sz)) (va_Qv (fun (τ : gs) => InvM τ ∧ mFr [66] [] σ τ ∧ (True)) (fun τ t => gPost (dC, dI) (va_A (wM ad cA σ) sz) (wM ad cA τ) t) (va_A (wM ad cA σ) sz)) 0 0 (va_A (wM ad cA σ) sz) := by
  refine MetD.ofW (cc := cX12_copies) (maxL := 4) (ret := none) (by decide) rfl ?_
  intro p e s m args below meth c s₁ B hml hv hd0
  obtain ⟨rfl, hsz, hP, hK, hD0, hT⟩ := hv
  have hx := B.exec
  have hb := B.bytes
  have hr := B.returns
  have hts0 := atoms_spec (ws := wsX12_copies) B.pre
  have hK0 := hK
  have hown0 : s.vm.findClass RX12 = some m.cls := findClass_of_methodNamed B.named
  have hlocks := B.notSynchronized
  subst hsz
  have hD := hD0.self (sz := s.heap.size)
  generalize hAe : va_A (wM ad cA σ) s.heap.size = A at hD hT ⊢
  have hA : ∀ q : Nat, s.heap.size ≤ q → A q := fun q h => by rw [← hAe]; exact Or.inr h
  have hS : va_S A s.heap s.heap [] := va_S.rf
  have hl := lv_entry ([.ref (ad 0), .ref (ad 30), .ref (ad 26)]) (n := 4) (Nat.le_of_ble_eq_true rfl)
  rw [lg_entry_eq]
  generalize (lg_sl ([.ref (ad 0), .ref (ad 30), .ref (ad 26)]) ++ List.replicate (4 - (lg_sl ([.ref (ad 0), .ref (ad 30), .ref (ad 26)])).length) Slot.unset).toArray = ls at hl ⊢
  have hl : lv_has ls 4 [(0, .ref (ad 0)), (1, .ref (ad 30)), (2, .ref (ad 26))] := hl
  have hts := dr_words hts0 (s.drawn)
  have hK := gKd hK0 (s.drawn)
  have hown : (s.setDrawn (s.drawn)).vm.findClass RX12 = some m.cls := hown0
  refine lv_iconst (v := 0) hx hb dX12_copies_0 (by decide) ?_
  refine lv_istore_n (lv' := [(3, .int 0), (0, .ref (ad 0)), (1, .ref (ad 30)), (2, .ref (ad 26))]) hx hb dX12_copies_1 rfl hl (by decide) rfl (fun ls hl => ?_)
  refine (fun (h : ∀ (n : Nat) (i3 : Int32) (σ2x : gs) (d2 : Drawn) (H : Heap) (locs : List Loc) (ls : Array Slot), ((328 : Int32).toInt - i3.toInt).toNat < n → 0 ≤ i3 → InvM σ2x → mFr [66] [] σ σ2x → s.drawn.sameBut d2 lw_cs → va_P (dC, dI) vwCl (wM ad cA σ2x) H → va_D A (wM ad cA σ2x) → va_S A s.heap H locs → lv_has ls 4 [(3, .int i3), (0, .ref (ad 0)), (1, .ref (ad 30)), (2, .ref (ad 26))] → W p l e _ (s.setDrawn d2) m _ below meth c H locs _ _ _ (F0 m 2 ls [])) => h _ 0 σ _ _ _ _ (Nat.lt_succ_self _) (by decide) hI (mFr.rfl (L := [66]) (F := []) (σ := σ)) hd0 hP hD hS (lv_sub hl [0, 1, 2, 3] rfl)) ?_
  intro n2
  induction n2 with
  | zero => intro i3 σ2x d2 H locs ls hm; exact absurd hm (Nat.not_lt_zero _)
  | succ n2 ih2 =>
    intro i3 σ2x d2 H locs ls hm2 iv2_0 hIσ2x frσ2x hd0 hP hD hS hl
    have hts := dr_words hts0 (d2)
    have hK := gKd hK0 (d2)
    have hown : (s.setDrawn (d2)).vm.findClass RX12 = some m.cls := hown0
    refine lv_iload_n hx hb dX12_copies_2 rfl (lv_at hl 0 rfl) ?_
    refine lv_aload_n hx hb dX12_copies_3 rfl (lv_at hl 2 rfl) ?_
    refine va_alen (v := 328) hx hb hK hP 30 30 (mat_70 rfl) (mty_70 rfl) rfl dX12_copies_4 ?_
    refine lv_icmp_ge (tgt := 20) hx hb dX12_copies_5 (by decide) (fun c_1 => ?_) (fun c_1 => ?_)
    · refine W.endD hd0 ?_
      exact W.vret hx hb hr (fun t ht hW => ⟨⟨σ2x, rfl, ⟨hIσ2x, frσ2x, trivial⟩, ⟨by rw [ht]; exact hP, hD⟩⟩, hS.F ht⟩) hS.2.2 dX12_copies_20
    · refine lv_aload_n hx hb dX12_copies_8 rfl (lv_at hl 3 rfl) ?_
      refine lv_iload_n hx hb dX12_copies_9 rfl (lv_at hl 0 rfl) ?_
      refine lv_aload_n hx hb dX12_copies_10 rfl (lv_at hl 2 rfl) ?_
      refine lv_iload_n hx hb dX12_copies_11 rfl (lv_at hl 0 rfl) ?_
      refine va_iald hx hb hK hP 30 30 (mat_70 rfl) (mty_70 rfl) (gin (N := 328) (by decide) iv2_0 (Int32.not_le.mp c_1)) dX12_copies_12 ?_
      refine lv_topi (fun x_2 ex_2 => ?_)
      have ex_2 : x_2 = ((σ 30).1 i3.toNatClampNeg) := by rw [ex_2, frσ2x.1 30 (by decide) (by decide)]
      refine va_iast hx hb hK hP hD hS 26 26 (mat_66 rfl) (mty_66 rfl) (gin (N := 328) (by decide) iv2_0 (Int32.not_le.mp c_1)) dX12_copies_13 (fun H locs hP hD hS => ?_)
      obtain ⟨σ1, eσ1, hP, hD⟩ := gPut (mse_66 rfl) hP hD
      have hIσ1 : InvM σ1 := by rw [eσ1]; exact minv_I hIσ2x (mok_66 rfl _ _)
      have frσ1 : mFr [66] [] σ σ1 := by rw [eσ1]; exact mFr.aI frσ2x (by decide) (by decide)
      obtain ⟨x_3, ex_3⟩ : ∃ zz : Int32, zz = i3 + 1 := ⟨_, rfl⟩
      refine lv_iinc (v := x_3) (lv' := [(3, .int x_3), (0, .ref (ad 0)), (1, .ref (ad 30)), (2, .ref (ad 26))]) hx hb dX12_copies_14 hl (k := 0) rfl (by rw [ex_3]; rfl) (by decide) rfl (fun ls hl => ?_)
      refine lv_goto (tgt := 2) hx hb dX12_copies_17 (by decide) ?_
      exact ih2 x_3 σ1 _ _ _ _ (cnt_m iv2_0 (Int32.not_le.mp c_1) hm2 ex_3) (cnt_0 iv2_0 (Int32.not_le.mp c_1) ex_3) hIσ1 frσ1 hd0 hP hD hS (lv_sub hl [0, 1, 2, 3] rfl)
set_option maxHeartbeats 8000000 in
set_option maxRecDepth 100000 in
theorem n_X12_copies_25_27 (l : Launch) (dC : Nat → ClassId) (dI : Nat → Nat → Nat) (ad : Nat → Nat) (cA : Nat → ClassId) (adK adV : Nat → Nat) (sz : Nat) (σ : gs) (hI : InvM σ)  : MetD lw_cs l yX12_copies wsX12_copies ({ frames := 0, cells := 0, slots := 0, locals := 0 }) (va_Pc [.ref (ad 0), .ref (ad 25), .ref (ad 27)] (gPre adK adV (dC, dI) (wM ad cA σ) (tM cA) sz)) (va_Qv (fun (τ : gs) => InvM τ ∧ mFr [67] [] σ τ ∧ (True)) (fun τ t => gPost (dC, dI) (va_A (wM ad cA σ) sz) (wM ad cA τ) t) (va_A (wM ad cA σ) sz)) 0 0 (va_A (wM ad cA σ) sz) := by
  refine MetD.ofW (cc := cX12_copies) (maxL := 4) (ret := none) (by decide) rfl ?_
  intro p e s m args below meth c s₁ B hml hv hd0
  obtain ⟨rfl, hsz, hP, hK, hD0, hT⟩ := hv
  have hx := B.exec
  have hb := B.bytes
  have hr := B.returns
  have hts0 := atoms_spec (ws := wsX12_copies) B.pre
  have hK0 := hK
  have hown0 : s.vm.findClass RX12 = some m.cls := findClass_of_methodNamed B.named
  have hlocks := B.notSynchronized
  subst hsz
  have hD := hD0.self (sz := s.heap.size)
  generalize hAe : va_A (wM ad cA σ) s.heap.size = A at hD hT ⊢
  have hA : ∀ q : Nat, s.heap.size ≤ q → A q := fun q h => by rw [← hAe]; exact Or.inr h
  have hS : va_S A s.heap s.heap [] := va_S.rf
  have hl := lv_entry ([.ref (ad 0), .ref (ad 25), .ref (ad 27)]) (n := 4) (Nat.le_of_ble_eq_true rfl)
  rw [lg_entry_eq]
  generalize (lg_sl ([.ref (ad 0), .ref (ad 25), .ref (ad 27)]) ++ List.replicate (4 - (lg_sl ([.ref (ad 0), .ref (ad 25), .ref (ad 27)])).length) Slot.unset).toArray = ls at hl ⊢
  have hl : lv_has ls 4 [(0, .ref (ad 0)), (1, .ref (ad 25)), (2, .ref (ad 27))] := hl
  have hts := dr_words hts0 (s.drawn)
  have hK := gKd hK0 (s.drawn)
  have hown : (s.setDrawn (s.drawn)).vm.findClass RX12 = some m.cls := hown0
  refine lv_iconst (v := 0) hx hb dX12_copies_0 (by decide) ?_
  refine lv_istore_n (lv' := [(3, .int 0), (0, .ref (ad 0)), (1, .ref (ad 25)), (2, .ref (ad 27))]) hx hb dX12_copies_1 rfl hl (by decide) rfl (fun ls hl => ?_)
  refine (fun (h : ∀ (n : Nat) (i3 : Int32) (σ2x : gs) (d2 : Drawn) (H : Heap) (locs : List Loc) (ls : Array Slot), ((4 : Int32).toInt - i3.toInt).toNat < n → 0 ≤ i3 → InvM σ2x → mFr [67] [] σ σ2x → s.drawn.sameBut d2 lw_cs → va_P (dC, dI) vwCl (wM ad cA σ2x) H → va_D A (wM ad cA σ2x) → va_S A s.heap H locs → lv_has ls 4 [(3, .int i3), (0, .ref (ad 0)), (1, .ref (ad 25)), (2, .ref (ad 27))] → W p l e _ (s.setDrawn d2) m _ below meth c H locs _ _ _ (F0 m 2 ls [])) => h _ 0 σ _ _ _ _ (Nat.lt_succ_self _) (by decide) hI (mFr.rfl (L := [67]) (F := []) (σ := σ)) hd0 hP hD hS (lv_sub hl [0, 1, 2, 3] rfl)) ?_
  intro n2
  induction n2 with
  | zero => intro i3 σ2x d2 H locs ls hm; exact absurd hm (Nat.not_lt_zero _)
  | succ n2 ih2 =>
    intro i3 σ2x d2 H locs ls hm2 iv2_0 hIσ2x frσ2x hd0 hP hD hS hl
    have hts := dr_words hts0 (d2)
    have hK := gKd hK0 (d2)
    have hown : (s.setDrawn (d2)).vm.findClass RX12 = some m.cls := hown0
    refine lv_iload_n hx hb dX12_copies_2 rfl (lv_at hl 0 rfl) ?_
    refine lv_aload_n hx hb dX12_copies_3 rfl (lv_at hl 2 rfl) ?_
    refine va_alen (v := 4) hx hb hK hP 25 25 (mat_65 rfl) (mty_65 rfl) rfl dX12_copies_4 ?_
    refine lv_icmp_ge (tgt := 20) hx hb dX12_copies_5 (by decide) (fun c_1 => ?_) (fun c_1 => ?_)
    · refine W.endD hd0 ?_
      exact W.vret hx hb hr (fun t ht hW => ⟨⟨σ2x, rfl, ⟨hIσ2x, frσ2x, trivial⟩, ⟨by rw [ht]; exact hP, hD⟩⟩, hS.F ht⟩) hS.2.2 dX12_copies_20
    · refine lv_aload_n hx hb dX12_copies_8 rfl (lv_at hl 3 rfl) ?_
      refine lv_iload_n hx hb dX12_copies_9 rfl (lv_at hl 0 rfl) ?_
      refine lv_aload_n hx hb dX12_copies_10 rfl (lv_at hl 2 rfl) ?_
      refine lv_iload_n hx hb dX12_copies_11 rfl (lv_at hl 0 rfl) ?_
      refine va_iald hx hb hK hP 25 25 (mat_65 rfl) (mty_65 rfl) (gin (N := 4) (by decide) iv2_0 (Int32.not_le.mp c_1)) dX12_copies_12 ?_
      refine lv_topi (fun x_2 ex_2 => ?_)
      have ex_2 : x_2 = ((σ 25).1 i3.toNatClampNeg) := by rw [ex_2, frσ2x.1 25 (by decide) (by decide)]
      refine va_iast hx hb hK hP hD hS 27 27 (mat_67 rfl) (mty_67 rfl) (gin (N := 4) (by decide) iv2_0 (Int32.not_le.mp c_1)) dX12_copies_13 (fun H locs hP hD hS => ?_)
      obtain ⟨σ1, eσ1, hP, hD⟩ := gPut (mse_67 rfl) hP hD
      have hIσ1 : InvM σ1 := by rw [eσ1]; exact minv_I hIσ2x (mok_67 rfl _ _)
      have frσ1 : mFr [67] [] σ σ1 := by rw [eσ1]; exact mFr.aI frσ2x (by decide) (by decide)
      obtain ⟨x_3, ex_3⟩ : ∃ zz : Int32, zz = i3 + 1 := ⟨_, rfl⟩
      refine lv_iinc (v := x_3) (lv' := [(3, .int x_3), (0, .ref (ad 0)), (1, .ref (ad 25)), (2, .ref (ad 27))]) hx hb dX12_copies_14 hl (k := 0) rfl (by rw [ex_3]; rfl) (by decide) rfl (fun ls hl => ?_)
      refine lv_goto (tgt := 2) hx hb dX12_copies_17 (by decide) ?_
      exact ih2 x_3 σ1 _ _ _ _ (cnt_m iv2_0 (Int32.not_le.mp c_1) hm2 ex_3) (cnt_0 iv2_0 (Int32.not_le.mp c_1) ex_3) hIσ1 frσ1 hd0 hP hD hS (lv_sub hl [0, 1, 2, 3] rfl)
set_option maxHeartbeats 8000000 in
set_option maxRecDepth 100000 in
theorem n_X12_copies_26_28 (l : Launch) (dC : Nat → ClassId) (dI : Nat → Nat → Nat) (ad : Nat → Nat) (cA : Nat → ClassId) (adK adV : Nat → Nat) (sz : Nat) (σ : gs) (hI : InvM σ)  : MetD lw_cs l yX12_copies wsX12_copies ({ frames := 0, cells := 0, slots := 0, locals := 0 }) (va_Pc [.ref (ad 0), .ref (ad 26), .ref (ad 28)] (gPre adK adV (dC, dI) (wM ad cA σ) (tM cA) sz)) (va_Qv (fun (τ : gs) => InvM τ ∧ mFr [68] [] σ τ ∧ (True)) (fun τ t => gPost (dC, dI) (va_A (wM ad cA σ) sz) (wM ad cA τ) t) (va_A (wM ad cA σ) sz)) 0 0 (va_A (wM ad cA σ) sz) := by
  refine MetD.ofW (cc := cX12_copies) (maxL := 4) (ret := none) (by decide) rfl ?_
  intro p e s m args below meth c s₁ B hml hv hd0
  obtain ⟨rfl, hsz, hP, hK, hD0, hT⟩ := hv
  have hx := B.exec
  have hb := B.bytes
  have hr := B.returns
  have hts0 := atoms_spec (ws := wsX12_copies) B.pre
  have hK0 := hK
  have hown0 : s.vm.findClass RX12 = some m.cls := findClass_of_methodNamed B.named
  have hlocks := B.notSynchronized
  subst hsz
  have hD := hD0.self (sz := s.heap.size)
  generalize hAe : va_A (wM ad cA σ) s.heap.size = A at hD hT ⊢
  have hA : ∀ q : Nat, s.heap.size ≤ q → A q := fun q h => by rw [← hAe]; exact Or.inr h
  have hS : va_S A s.heap s.heap [] := va_S.rf
  have hl := lv_entry ([.ref (ad 0), .ref (ad 26), .ref (ad 28)]) (n := 4) (Nat.le_of_ble_eq_true rfl)
  rw [lg_entry_eq]
  generalize (lg_sl ([.ref (ad 0), .ref (ad 26), .ref (ad 28)]) ++ List.replicate (4 - (lg_sl ([.ref (ad 0), .ref (ad 26), .ref (ad 28)])).length) Slot.unset).toArray = ls at hl ⊢
  have hl : lv_has ls 4 [(0, .ref (ad 0)), (1, .ref (ad 26)), (2, .ref (ad 28))] := hl
  have hts := dr_words hts0 (s.drawn)
  have hK := gKd hK0 (s.drawn)
  have hown : (s.setDrawn (s.drawn)).vm.findClass RX12 = some m.cls := hown0
  refine lv_iconst (v := 0) hx hb dX12_copies_0 (by decide) ?_
  refine lv_istore_n (lv' := [(3, .int 0), (0, .ref (ad 0)), (1, .ref (ad 26)), (2, .ref (ad 28))]) hx hb dX12_copies_1 rfl hl (by decide) rfl (fun ls hl => ?_)
  refine (fun (h : ∀ (n : Nat) (i3 : Int32) (σ2x : gs) (d2 : Drawn) (H : Heap) (locs : List Loc) (ls : Array Slot), ((328 : Int32).toInt - i3.toInt).toNat < n → 0 ≤ i3 → InvM σ2x → mFr [68] [] σ σ2x → s.drawn.sameBut d2 lw_cs → va_P (dC, dI) vwCl (wM ad cA σ2x) H → va_D A (wM ad cA σ2x) → va_S A s.heap H locs → lv_has ls 4 [(3, .int i3), (0, .ref (ad 0)), (1, .ref (ad 26)), (2, .ref (ad 28))] → W p l e _ (s.setDrawn d2) m _ below meth c H locs _ _ _ (F0 m 2 ls [])) => h _ 0 σ _ _ _ _ (Nat.lt_succ_self _) (by decide) hI (mFr.rfl (L := [68]) (F := []) (σ := σ)) hd0 hP hD hS (lv_sub hl [0, 1, 2, 3] rfl)) ?_
  intro n2
  induction n2 with
  | zero => intro i3 σ2x d2 H locs ls hm; exact absurd hm (Nat.not_lt_zero _)
  | succ n2 ih2 =>
    intro i3 σ2x d2 H locs ls hm2 iv2_0 hIσ2x frσ2x hd0 hP hD hS hl
    have hts := dr_words hts0 (d2)
    have hK := gKd hK0 (d2)
    have hown : (s.setDrawn (d2)).vm.findClass RX12 = some m.cls := hown0
    refine lv_iload_n hx hb dX12_copies_2 rfl (lv_at hl 0 rfl) ?_
    refine lv_aload_n hx hb dX12_copies_3 rfl (lv_at hl 2 rfl) ?_
    refine va_alen (v := 328) hx hb hK hP 26 26 (mat_66 rfl) (mty_66 rfl) rfl dX12_copies_4 ?_
    refine lv_icmp_ge (tgt := 20) hx hb dX12_copies_5 (by decide) (fun c_1 => ?_) (fun c_1 => ?_)
    · refine W.endD hd0 ?_
      exact W.vret hx hb hr (fun t ht hW => ⟨⟨σ2x, rfl, ⟨hIσ2x, frσ2x, trivial⟩, ⟨by rw [ht]; exact hP, hD⟩⟩, hS.F ht⟩) hS.2.2 dX12_copies_20
    · refine lv_aload_n hx hb dX12_copies_8 rfl (lv_at hl 3 rfl) ?_
      refine lv_iload_n hx hb dX12_copies_9 rfl (lv_at hl 0 rfl) ?_
      refine lv_aload_n hx hb dX12_copies_10 rfl (lv_at hl 2 rfl) ?_
      refine lv_iload_n hx hb dX12_copies_11 rfl (lv_at hl 0 rfl) ?_
      refine va_iald hx hb hK hP 26 26 (mat_66 rfl) (mty_66 rfl) (gin (N := 328) (by decide) iv2_0 (Int32.not_le.mp c_1)) dX12_copies_12 ?_
      refine lv_topi (fun x_2 ex_2 => ?_)
      have ex_2 : x_2 = ((σ 26).1 i3.toNatClampNeg) := by rw [ex_2, frσ2x.1 26 (by decide) (by decide)]
      refine va_iast hx hb hK hP hD hS 28 28 (mat_68 rfl) (mty_68 rfl) (gin (N := 328) (by decide) iv2_0 (Int32.not_le.mp c_1)) dX12_copies_13 (fun H locs hP hD hS => ?_)
      obtain ⟨σ1, eσ1, hP, hD⟩ := gPut (mse_68 rfl) hP hD
      have hIσ1 : InvM σ1 := by rw [eσ1]; exact minv_I hIσ2x (mok_68 rfl _ _)
      have frσ1 : mFr [68] [] σ σ1 := by rw [eσ1]; exact mFr.aI frσ2x (by decide) (by decide)
      obtain ⟨x_3, ex_3⟩ : ∃ zz : Int32, zz = i3 + 1 := ⟨_, rfl⟩
      refine lv_iinc (v := x_3) (lv' := [(3, .int x_3), (0, .ref (ad 0)), (1, .ref (ad 26)), (2, .ref (ad 28))]) hx hb dX12_copies_14 hl (k := 0) rfl (by rw [ex_3]; rfl) (by decide) rfl (fun ls hl => ?_)
      refine lv_goto (tgt := 2) hx hb dX12_copies_17 (by decide) ?_
      exact ih2 x_3 σ1 _ _ _ _ (cnt_m iv2_0 (Int32.not_le.mp c_1) hm2 ex_3) (cnt_0 iv2_0 (Int32.not_le.mp c_1) ex_3) hIσ1 frσ1 hd0 hP hD hS (lv_sub hl [0, 1, 2, 3] rfl)
set_option maxHeartbeats 8000000 in
set_option maxRecDepth 100000 in
theorem n_X12_copies_27_25 (l : Launch) (dC : Nat → ClassId) (dI : Nat → Nat → Nat) (ad : Nat → Nat) (cA : Nat → ClassId) (adK adV : Nat → Nat) (sz : Nat) (σ : gs) (hI : InvM σ)  : MetD lw_cs l yX12_copies wsX12_copies ({ frames := 0, cells := 0, slots := 0, locals := 0 }) (va_Pc [.ref (ad 0), .ref (ad 27), .ref (ad 25)] (gPre adK adV (dC, dI) (wM ad cA σ) (tM cA) sz)) (va_Qv (fun (τ : gs) => InvM τ ∧ mFr [65] [] σ τ ∧ (True)) (fun τ t => gPost (dC, dI) (va_A (wM ad cA σ) sz) (wM ad cA τ) t) (va_A (wM ad cA σ) sz)) 0 0 (va_A (wM ad cA σ) sz) := by
  refine MetD.ofW (cc := cX12_copies) (maxL := 4) (ret := none) (by decide) rfl ?_
  intro p e s m args below meth c s₁ B hml hv hd0
  obtain ⟨rfl, hsz, hP, hK, hD0, hT⟩ := hv
  have hx := B.exec
  have hb := B.bytes
  have hr := B.returns
  have hts0 := atoms_spec (ws := wsX12_copies) B.pre
  have hK0 := hK
  have hown0 : s.vm.findClass RX12 = some m.cls := findClass_of_methodNamed B.named
  have hlocks := B.notSynchronized
  subst hsz
  have hD := hD0.self (sz := s.heap.size)
  generalize hAe : va_A (wM ad cA σ) s.heap.size = A at hD hT ⊢
  have hA : ∀ q : Nat, s.heap.size ≤ q → A q := fun q h => by rw [← hAe]; exact Or.inr h
  have hS : va_S A s.heap s.heap [] := va_S.rf
  have hl := lv_entry ([.ref (ad 0), .ref (ad 27), .ref (ad 25)]) (n := 4) (Nat.le_of_ble_eq_true rfl)
  rw [lg_entry_eq]
  generalize (lg_sl ([.ref (ad 0), .ref (ad 27), .ref (ad 25)]) ++ List.replicate (4 - (lg_sl ([.ref (ad 0), .ref (ad 27), .ref (ad 25)])).length) Slot.unset).toArray = ls at hl ⊢
  have hl : lv_has ls 4 [(0, .ref (ad 0)), (1, .ref (ad 27)), (2, .ref (ad 25))] := hl
  have hts := dr_words hts0 (s.drawn)
  have hK := gKd hK0 (s.drawn)
  have hown : (s.setDrawn (s.drawn)).vm.findClass RX12 = some m.cls := hown0
  refine lv_iconst (v := 0) hx hb dX12_copies_0 (by decide) ?_
  refine lv_istore_n (lv' := [(3, .int 0), (0, .ref (ad 0)), (1, .ref (ad 27)), (2, .ref (ad 25))]) hx hb dX12_copies_1 rfl hl (by decide) rfl (fun ls hl => ?_)
  refine (fun (h : ∀ (n : Nat) (i3 : Int32) (σ2x : gs) (d2 : Drawn) (H : Heap) (locs : List Loc) (ls : Array Slot), ((4 : Int32).toInt - i3.toInt).toNat < n → 0 ≤ i3 → InvM σ2x → mFr [65] [] σ σ2x → s.drawn.sameBut d2 lw_cs → va_P (dC, dI) vwCl (wM ad cA σ2x) H → va_D A (wM ad cA σ2x) → va_S A s.heap H locs → lv_has ls 4 [(3, .int i3), (0, .ref (ad 0)), (1, .ref (ad 27)), (2, .ref (ad 25))] → W p l e _ (s.setDrawn d2) m _ below meth c H locs _ _ _ (F0 m 2 ls [])) => h _ 0 σ _ _ _ _ (Nat.lt_succ_self _) (by decide) hI (mFr.rfl (L := [65]) (F := []) (σ := σ)) hd0 hP hD hS (lv_sub hl [0, 1, 2, 3] rfl)) ?_
  intro n2
  induction n2 with
  | zero => intro i3 σ2x d2 H locs ls hm; exact absurd hm (Nat.not_lt_zero _)
  | succ n2 ih2 =>
    intro i3 σ2x d2 H locs ls hm2 iv2_0 hIσ2x frσ2x hd0 hP hD hS hl
    have hts := dr_words hts0 (d2)
    have hK := gKd hK0 (d2)
    have hown : (s.setDrawn (d2)).vm.findClass RX12 = some m.cls := hown0
    refine lv_iload_n hx hb dX12_copies_2 rfl (lv_at hl 0 rfl) ?_
    refine lv_aload_n hx hb dX12_copies_3 rfl (lv_at hl 2 rfl) ?_
    refine va_alen (v := 4) hx hb hK hP 27 27 (mat_67 rfl) (mty_67 rfl) rfl dX12_copies_4 ?_
    refine lv_icmp_ge (tgt := 20) hx hb dX12_copies_5 (by decide) (fun c_1 => ?_) (fun c_1 => ?_)
    · refine W.endD hd0 ?_
      exact W.vret hx hb hr (fun t ht hW => ⟨⟨σ2x, rfl, ⟨hIσ2x, frσ2x, trivial⟩, ⟨by rw [ht]; exact hP, hD⟩⟩, hS.F ht⟩) hS.2.2 dX12_copies_20
    · refine lv_aload_n hx hb dX12_copies_8 rfl (lv_at hl 3 rfl) ?_
      refine lv_iload_n hx hb dX12_copies_9 rfl (lv_at hl 0 rfl) ?_
      refine lv_aload_n hx hb dX12_copies_10 rfl (lv_at hl 2 rfl) ?_
      refine lv_iload_n hx hb dX12_copies_11 rfl (lv_at hl 0 rfl) ?_
      refine va_iald hx hb hK hP 27 27 (mat_67 rfl) (mty_67 rfl) (gin (N := 4) (by decide) iv2_0 (Int32.not_le.mp c_1)) dX12_copies_12 ?_
      refine lv_topi (fun x_2 ex_2 => ?_)
      have ex_2 : x_2 = ((σ 27).1 i3.toNatClampNeg) := by rw [ex_2, frσ2x.1 27 (by decide) (by decide)]
      refine va_iast hx hb hK hP hD hS 25 25 (mat_65 rfl) (mty_65 rfl) (gin (N := 4) (by decide) iv2_0 (Int32.not_le.mp c_1)) dX12_copies_13 (fun H locs hP hD hS => ?_)
      obtain ⟨σ1, eσ1, hP, hD⟩ := gPut (mse_65 rfl) hP hD
      have hIσ1 : InvM σ1 := by rw [eσ1]; exact minv_I hIσ2x (mok_65 rfl _ _)
      have frσ1 : mFr [65] [] σ σ1 := by rw [eσ1]; exact mFr.aI frσ2x (by decide) (by decide)
      obtain ⟨x_3, ex_3⟩ : ∃ zz : Int32, zz = i3 + 1 := ⟨_, rfl⟩
      refine lv_iinc (v := x_3) (lv' := [(3, .int x_3), (0, .ref (ad 0)), (1, .ref (ad 27)), (2, .ref (ad 25))]) hx hb dX12_copies_14 hl (k := 0) rfl (by rw [ex_3]; rfl) (by decide) rfl (fun ls hl => ?_)
      refine lv_goto (tgt := 2) hx hb dX12_copies_17 (by decide) ?_
      exact ih2 x_3 σ1 _ _ _ _ (cnt_m iv2_0 (Int32.not_le.mp c_1) hm2 ex_3) (cnt_0 iv2_0 (Int32.not_le.mp c_1) ex_3) hIσ1 frσ1 hd0 hP hD hS (lv_sub hl [0, 1, 2, 3] rfl)
set_option maxHeartbeats 8000000 in
set_option maxRecDepth 100000 in
theorem n_X12_copies_28_26 (l : Launch) (dC : Nat → ClassId) (dI : Nat → Nat → Nat) (ad : Nat → Nat) (cA : Nat → ClassId) (adK adV : Nat → Nat) (sz : Nat) (σ : gs) (hI : InvM σ)  : MetD lw_cs l yX12_copies wsX12_copies ({ frames := 0, cells := 0, slots := 0, locals := 0 }) (va_Pc [.ref (ad 0), .ref (ad 28), .ref (ad 26)] (gPre adK adV (dC, dI) (wM ad cA σ) (tM cA) sz)) (va_Qv (fun (τ : gs) => InvM τ ∧ mFr [66] [] σ τ ∧ (True)) (fun τ t => gPost (dC, dI) (va_A (wM ad cA σ) sz) (wM ad cA τ) t) (va_A (wM ad cA σ) sz)) 0 0 (va_A (wM ad cA σ) sz) := by
  refine MetD.ofW (cc := cX12_copies) (maxL := 4) (ret := none) (by decide) rfl ?_
  intro p e s m args below meth c s₁ B hml hv hd0
  obtain ⟨rfl, hsz, hP, hK, hD0, hT⟩ := hv
  have hx := B.exec
  have hb := B.bytes
  have hr := B.returns
  have hts0 := atoms_spec (ws := wsX12_copies) B.pre
  have hK0 := hK
  have hown0 : s.vm.findClass RX12 = some m.cls := findClass_of_methodNamed B.named
  have hlocks := B.notSynchronized
  subst hsz
  have hD := hD0.self (sz := s.heap.size)
  generalize hAe : va_A (wM ad cA σ) s.heap.size = A at hD hT ⊢
  have hA : ∀ q : Nat, s.heap.size ≤ q → A q := fun q h => by rw [← hAe]; exact Or.inr h
  have hS : va_S A s.heap s.heap [] := va_S.rf
  have hl := lv_entry ([.ref (ad 0), .ref (ad 28), .ref (ad 26)]) (n := 4) (Nat.le_of_ble_eq_true rfl)
  rw [lg_entry_eq]
  generalize (lg_sl ([.ref (ad 0), .ref (ad 28), .ref (ad 26)]) ++ List.replicate (4 - (lg_sl ([.ref (ad 0), .ref (ad 28), .ref (ad 26)])).length) Slot.unset).toArray = ls at hl ⊢
  have hl : lv_has ls 4 [(0, .ref (ad 0)), (1, .ref (ad 28)), (2, .ref (ad 26))] := hl
  have hts := dr_words hts0 (s.drawn)
  have hK := gKd hK0 (s.drawn)
  have hown : (s.setDrawn (s.drawn)).vm.findClass RX12 = some m.cls := hown0
  refine lv_iconst (v := 0) hx hb dX12_copies_0 (by decide) ?_
  refine lv_istore_n (lv' := [(3, .int 0), (0, .ref (ad 0)), (1, .ref (ad 28)), (2, .ref (ad 26))]) hx hb dX12_copies_1 rfl hl (by decide) rfl (fun ls hl => ?_)
  refine (fun (h : ∀ (n : Nat) (i3 : Int32) (σ2x : gs) (d2 : Drawn) (H : Heap) (locs : List Loc) (ls : Array Slot), ((328 : Int32).toInt - i3.toInt).toNat < n → 0 ≤ i3 → InvM σ2x → mFr [66] [] σ σ2x → s.drawn.sameBut d2 lw_cs → va_P (dC, dI) vwCl (wM ad cA σ2x) H → va_D A (wM ad cA σ2x) → va_S A s.heap H locs → lv_has ls 4 [(3, .int i3), (0, .ref (ad 0)), (1, .ref (ad 28)), (2, .ref (ad 26))] → W p l e _ (s.setDrawn d2) m _ below meth c H locs _ _ _ (F0 m 2 ls [])) => h _ 0 σ _ _ _ _ (Nat.lt_succ_self _) (by decide) hI (mFr.rfl (L := [66]) (F := []) (σ := σ)) hd0 hP hD hS (lv_sub hl [0, 1, 2, 3] rfl)) ?_
  intro n2
  induction n2 with
  | zero => intro i3 σ2x d2 H locs ls hm; exact absurd hm (Nat.not_lt_zero _)
  | succ n2 ih2 =>
    intro i3 σ2x d2 H locs ls hm2 iv2_0 hIσ2x frσ2x hd0 hP hD hS hl
    have hts := dr_words hts0 (d2)
    have hK := gKd hK0 (d2)
    have hown : (s.setDrawn (d2)).vm.findClass RX12 = some m.cls := hown0
    refine lv_iload_n hx hb dX12_copies_2 rfl (lv_at hl 0 rfl) ?_
    refine lv_aload_n hx hb dX12_copies_3 rfl (lv_at hl 2 rfl) ?_
    refine va_alen (v := 328) hx hb hK hP 28 28 (mat_68 rfl) (mty_68 rfl) rfl dX12_copies_4 ?_
    refine lv_icmp_ge (tgt := 20) hx hb dX12_copies_5 (by decide) (fun c_1 => ?_) (fun c_1 => ?_)
    · refine W.endD hd0 ?_
      exact W.vret hx hb hr (fun t ht hW => ⟨⟨σ2x, rfl, ⟨hIσ2x, frσ2x, trivial⟩, ⟨by rw [ht]; exact hP, hD⟩⟩, hS.F ht⟩) hS.2.2 dX12_copies_20
    · refine lv_aload_n hx hb dX12_copies_8 rfl (lv_at hl 3 rfl) ?_
      refine lv_iload_n hx hb dX12_copies_9 rfl (lv_at hl 0 rfl) ?_
      refine lv_aload_n hx hb dX12_copies_10 rfl (lv_at hl 2 rfl) ?_
      refine lv_iload_n hx hb dX12_copies_11 rfl (lv_at hl 0 rfl) ?_
      refine va_iald hx hb hK hP 28 28 (mat_68 rfl) (mty_68 rfl) (gin (N := 328) (by decide) iv2_0 (Int32.not_le.mp c_1)) dX12_copies_12 ?_
      refine lv_topi (fun x_2 ex_2 => ?_)
      have ex_2 : x_2 = ((σ 28).1 i3.toNatClampNeg) := by rw [ex_2, frσ2x.1 28 (by decide) (by decide)]
      refine va_iast hx hb hK hP hD hS 26 26 (mat_66 rfl) (mty_66 rfl) (gin (N := 328) (by decide) iv2_0 (Int32.not_le.mp c_1)) dX12_copies_13 (fun H locs hP hD hS => ?_)
      obtain ⟨σ1, eσ1, hP, hD⟩ := gPut (mse_66 rfl) hP hD
      have hIσ1 : InvM σ1 := by rw [eσ1]; exact minv_I hIσ2x (mok_66 rfl _ _)
      have frσ1 : mFr [66] [] σ σ1 := by rw [eσ1]; exact mFr.aI frσ2x (by decide) (by decide)
      obtain ⟨x_3, ex_3⟩ : ∃ zz : Int32, zz = i3 + 1 := ⟨_, rfl⟩
      refine lv_iinc (v := x_3) (lv' := [(3, .int x_3), (0, .ref (ad 0)), (1, .ref (ad 28)), (2, .ref (ad 26))]) hx hb dX12_copies_14 hl (k := 0) rfl (by rw [ex_3]; rfl) (by decide) rfl (fun ls hl => ?_)
      refine lv_goto (tgt := 2) hx hb dX12_copies_17 (by decide) ?_
      exact ih2 x_3 σ1 _ _ _ _ (cnt_m iv2_0 (Int32.not_le.mp c_1) hm2 ex_3) (cnt_0 iv2_0 (Int32.not_le.mp c_1) ex_3) hIσ1 frσ1 hd0 hP hD hS (lv_sub hl [0, 1, 2, 3] rfl)
set_option maxHeartbeats 8000000 in
set_option maxRecDepth 100000 in
theorem n_X12_keep (l : Launch) (dC : Nat → ClassId) (dI : Nat → Nat → Nat) (ad : Nat → Nat) (cA : Nat → ClassId) (adK adV : Nat → Nat) (sz : Nat) (σ : gs) (hI : InvM σ)  : MetD lw_cs l yX12_keep wsX12_keep ({ frames := 2, cells := 0, slots := 0, locals := 41 }) (va_Pc [.ref (ad 0)] (gPre adK adV (dC, dI) (wM ad cA σ) (tM cA) sz)) (va_Qi (fun (r : Int32) (τ : gs) => InvM τ ∧ mFr [67, 68] [0, 1, 2, 65, 68] σ τ ∧ (r = 0 ∨ r = 1)) (fun τ t => gPost (dC, dI) (va_A (wM ad cA σ) sz) (wM ad cA τ) t) (va_A (wM ad cA σ) sz)) 0 0 (va_A (wM ad cA σ) sz) := by
  refine MetD.ofW (cc := cX12_keep) (maxL := 1) (ret := (some .boolean)) (by decide) rfl ?_
  intro p e s m args below meth c s₁ B hml hv hd0
  obtain ⟨rfl, hsz, hP, hK, hD0, hT⟩ := hv
  have hx := B.exec
  have hb := B.bytes
  have hr := B.returns
  have hts0 := atoms_spec (ws := wsX12_keep) B.pre
  have hK0 := hK
  have hown0 : s.vm.findClass RX12 = some m.cls := findClass_of_methodNamed B.named
  have hlocks := B.notSynchronized
  have hinX12 : ∀ w ∈ u_ws RX12 TX12 69, w ∈ wsX12_keep := (fun _ h9 => List.mem_cons_of_mem _ (List.mem_append_right _ h9))
  subst hsz
  have hD := hD0.self (sz := s.heap.size)
  generalize hAe : va_A (wM ad cA σ) s.heap.size = A at hD hT ⊢
  have hA : ∀ q : Nat, s.heap.size ≤ q → A q := fun q h => by rw [← hAe]; exact Or.inr h
  have hS : va_S A s.heap s.heap [] := va_S.rf
  have hl := lv_entry ([.ref (ad 0)]) (n := 1) (Nat.le_of_ble_eq_true rfl)
  rw [lg_entry_eq]
  generalize (lg_sl ([.ref (ad 0)]) ++ List.replicate (1 - (lg_sl ([.ref (ad 0)])).length) Slot.unset).toArray = ls at hl ⊢
  have hl : lv_has ls 1 [(0, .ref (ad 0))] := hl
  have hts := dr_words hts0 (s.drawn)
  have hK := gKd hK0 (s.drawn)
  have hown : (s.setDrawn (s.drawn)).vm.findClass RX12 = some m.cls := hown0
  refine lv_aload_n hx hb dX12_keep_0 rfl (lv_at hl 0 rfl) ?_
  refine lv_iconst (v := 0) hx hb dX12_keep_1 (by decide) ?_
  refine va_put (D := (dC, dI)) (ci := 11) (v := .int 0) (C := RX12) (T := TX12) (N := 69) hx hb hts hinX12 tyX12 tyX12_ok nmX12 hown hK hP hD hS 0 (mat_11 rfl) rfl 0 (by decide) (hts (.fieldLink RX12 107 "BondCalendarsModel" "thrown" "I") (by decide +kernel)) (fun _ h9 => h9) rfl (ty := .int) (by decide +kernel) rfl rfl (Nat.le_of_ble_eq_true rfl) dX12_keep_2 (fun H locs hP hD hS => ?_)
  obtain ⟨σ1, eσ1, hP, hD⟩ := gPut (mse_11_0 rfl) hP hD
  have hIσ1 : InvM σ1 := by rw [eσ1]; exact minv_I hI (mok_11_0 rfl _)
  have frσ1 : mFr [67, 68] [0, 1, 2, 65, 68] σ σ1 := by rw [eσ1]; exact mFr.oI (mFr.rfl (L := [67, 68]) (F := [0, 1, 2, 65, 68]) (σ := σ)) (by decide)
  refine lv_aload_n hx hb dX12_keep_5 rfl (lv_at hl 0 rfl) ?_
  have bd_1 := mrd_11_28 (c := 0) hI rfl
  refine va_get (D := (dC, dI)) (ci := 11) (v := .int ((σ 0).1 28)) (C := RX12) (T := TX12) (N := 69) hx hb hts hinX12 hown hK hP 0 (mat_11 rfl) rfl 28 (by decide) (hts (.fieldLink RX12 361 "BondCalendarsModel" "isThere" "Z") (by decide +kernel)) (fun _ h9 => h9) (congrArg (fun z => some (Value.int z)) (show (σ1 0).1 28 = ((σ 0).1 28) from by rw [eσ1, gI_oth _ _ _ (by decide)])) dX12_keep_6 ?_
  refine lv_if_ne (tgt := 17) hx hb dX12_keep_9 (by decide) (fun c_2 => ?_) (fun c_2 => ?_)
  · refine lv_aload_n hx hb dX12_keep_17 rfl (lv_at hl 0 rfl) ?_
    refine lv_aload_n hx hb dX12_keep_18 rfl (lv_at hl 0 rfl) ?_
    refine va_get (D := (dC, dI)) (ci := 11) (v := .ref (ad 25)) (C := RX12) (T := TX12) (N := 69) hx hb hts hinX12 hown hK hP 0 (mat_11 rfl) rfl 58 (by decide) (hts (.fieldLink RX12 89 "BondCalendarsModel" "held" "[I") (by decide +kernel)) (fun _ h9 => h9) rfl dX12_keep_19 ?_
    refine lv_aload_n hx hb dX12_keep_22 rfl (lv_at hl 0 rfl) ?_
    refine va_get (D := (dC, dI)) (ci := 11) (v := .ref (ad 27)) (C := RX12) (T := TX12) (N := 69) hx hb hts hinX12 hown hK hP 0 (mat_11 rfl) rfl 60 (by decide) (hts (.fieldLink RX12 95 "BondCalendarsModel" "heldKept" "[I") (by decide +kernel)) (fun _ h9 => h9) rfl dX12_keep_23 ?_
    have hF := gFree hD hS hA
    refine va_callvD hd0 (va_runV_D (As := [.ref (ad 25), .ref (ad 27)]) (rest := []) ⟨hx, hb, hml, hown, hts⟩ (n_X12_copies_25_27 l dC dI ad cA adK adV H.size σ1 hIσ1 ) (cwV 2 hts gX12_keep_X12_copies rfl rfl rfl (by decide +kernel) ⟨Nat.le_of_ble_eq_true rfl, Nat.le_of_ble_eq_true rfl⟩) ⟨gBlind, va_recv hK hP (ci := 11) (q0 := 0) rfl (mat_11 rfl), gStart (As := [.ref (ad 0), .ref (ad 25), .ref (ad 27)]) hP hD hK0 hT hS hF (s.drawn)⟩ rfl rfl hl.1 rfl (lv_room (Nat.le_of_ble_eq_true rfl)) dX12_keep_26 ⟨Nat.le_of_ble_eq_true rfl, Nat.le_of_ble_eq_true rfl⟩) hS (fun q _ h => hF q h) hF (fun σ2 t H locs ht hvm hw hB hz1 hk1 hS d_4 hd0 => ?_)
    have hts := dr_words hts0 (d_4)
    have hK := gKd hK0 (d_4)
    have hown : (s.setDrawn (d_4)).vm.findClass RX12 = some m.cls := hown0
    obtain ⟨hP, hD⟩ := gBack hF ht hB
    obtain ⟨hIσ2, fcσ2, hp_5⟩ := hw
    refine lv_aload_n hx hb dX12_keep_29 rfl (lv_at hl 0 rfl) ?_
    refine lv_aload_n hx hb dX12_keep_30 rfl (lv_at hl 0 rfl) ?_
    refine va_get (D := (dC, dI)) (ci := 11) (v := .ref (ad 26)) (C := RX12) (T := TX12) (N := 69) hx hb hts hinX12 hown hK hP 0 (mat_11 rfl) rfl 59 (by decide) (hts (.fieldLink RX12 92 "BondCalendarsModel" "entitled" "[I") (by decide +kernel)) (fun _ h9 => h9) rfl dX12_keep_31 ?_
    refine lv_aload_n hx hb dX12_keep_34 rfl (lv_at hl 0 rfl) ?_
    refine va_get (D := (dC, dI)) (ci := 11) (v := .ref (ad 28)) (C := RX12) (T := TX12) (N := 69) hx hb hts hinX12 hown hK hP 0 (mat_11 rfl) rfl 61 (by decide) (hts (.fieldLink RX12 98 "BondCalendarsModel" "entitledKept" "[I") (by decide +kernel)) (fun _ h9 => h9) rfl dX12_keep_35 ?_
    have hF := gFree hD hS hA
    refine va_callvD hd0 (va_runV_D (As := [.ref (ad 26), .ref (ad 28)]) (rest := []) ⟨hx, hb, hml, hown, hts⟩ (n_X12_copies_26_28 l dC dI ad cA adK adV H.size σ2 hIσ2 ) (cwV 2 hts gX12_keep_X12_copies rfl rfl rfl (by decide +kernel) ⟨Nat.le_of_ble_eq_true rfl, Nat.le_of_ble_eq_true rfl⟩) ⟨gBlind, va_recv hK hP (ci := 11) (q0 := 0) rfl (mat_11 rfl), gStart (As := [.ref (ad 0), .ref (ad 26), .ref (ad 28)]) hP hD hK0 hT hS hF (d_4)⟩ rfl rfl hl.1 rfl (lv_room (Nat.le_of_ble_eq_true rfl)) dX12_keep_38 ⟨Nat.le_of_ble_eq_true rfl, Nat.le_of_ble_eq_true rfl⟩) hS (fun q _ h => hF q h) hF (fun σ3 t H locs ht hvm hw hB hz1 hk1 hS d_7 hd0 => ?_)
    have hts := dr_words hts0 (d_7)
    have hK := gKd hK0 (d_7)
    have hown : (s.setDrawn (d_7)).vm.findClass RX12 = some m.cls := hown0
    obtain ⟨hP, hD⟩ := gBack hF ht hB
    obtain ⟨hIσ3, fcσ3, hp_8⟩ := hw
    refine lv_aload_n hx hb dX12_keep_41 rfl (lv_at hl 0 rfl) ?_
    refine lv_aload_n hx hb dX12_keep_42 rfl (lv_at hl 0 rfl) ?_
    refine va_get (D := (dC, dI)) (ci := 11) (v := .int ((σ 0).1 64)) (C := RX12) (T := TX12) (N := 69) hx hb hts hinX12 hown hK hP 0 (mat_11 rfl) rfl 64 (by decide) (hts (.fieldLink RX12 377 "BondCalendarsModel" "now" "I") (by decide +kernel)) (fun _ h9 => h9) (congrArg (fun z => some (Value.int z)) (show (σ3 0).1 64 = ((σ 0).1 64) from by rw [fcσ3.2 64 (by decide), fcσ2.2 64 (by decide), eσ1, gI_oth _ _ _ (by decide)])) dX12_keep_43 ?_
    refine va_put (D := (dC, dI)) (ci := 11) (v := .int ((σ 0).1 64)) (C := RX12) (T := TX12) (N := 69) hx hb hts hinX12 tyX12 tyX12_ok nmX12 hown hK hP hD hS 0 (mat_11 rfl) rfl 65 (by decide) (hts (.fieldLink RX12 591 "BondCalendarsModel" "nowKept" "I") (by decide +kernel)) (fun _ h9 => h9) rfl (ty := .int) (by decide +kernel) rfl rfl (Nat.le_of_ble_eq_true rfl) dX12_keep_46 (fun H locs hP hD hS => ?_)
    obtain ⟨σ4, eσ4, hP, hD⟩ := gPut (mse_11_65 rfl) hP hD
    have hIσ4 : InvM σ4 := by rw [eσ4]; exact minv_I hIσ3 (mok_11_65 rfl _)
    have frσ4 : mFr [67, 68] [0, 1, 2, 65, 68] σ σ4 := by rw [eσ4]; exact mFr.oI (mFr.tr (mFr.tr frσ1 fcσ2 (by decide) (by decide)) fcσ3 (by decide) (by decide)) (by decide)
    refine lv_aload_n hx hb dX12_keep_49 rfl (lv_at hl 0 rfl) ?_
    refine lv_aload_n hx hb dX12_keep_50 rfl (lv_at hl 0 rfl) ?_
    refine va_get (D := (dC, dI)) (ci := 11) (v := .long ((σ4 0).2.1 66)) (C := RX12) (T := TX12) (N := 69) hx hb hts hinX12 hown hK hP 0 (mat_11 rfl) rfl 66 (by decide) (hts (.fieldLink RX12 380 "BondCalendarsModel" "cash" "J") (by decide +kernel)) (fun _ h9 => h9) rfl dX12_keep_51 ?_
    refine va_put (D := (dC, dI)) (ci := 11) (v := .long ((σ4 0).2.1 66)) (C := RX12) (T := TX12) (N := 69) hx hb hts hinX12 tyX12 tyX12_ok nmX12 hown hK hP hD hS 0 (mat_11 rfl) rfl 67 (by decide) (hts (.fieldLink RX12 594 "BondCalendarsModel" "cashKept" "J") (by decide +kernel)) (fun _ h9 => h9) rfl (ty := .long) (by decide +kernel) rfl rfl (Nat.le_of_ble_eq_true rfl) dX12_keep_54 (fun H locs hP hD hS => ?_)
    obtain ⟨σ5, eσ5, hP, hD⟩ := gPut (mse_11_67 rfl) hP hD
    have hIσ5 : InvM σ5 := by rw [eσ5]; exact minv_L hIσ4
    have frσ5 : mFr [67, 68] [0, 1, 2, 65, 68] σ σ5 := by rw [eσ5]; exact mFr.oL frσ4
    refine lv_aload_n hx hb dX12_keep_57 rfl (lv_at hl 0 rfl) ?_
    refine lv_iconst (v := 1) hx hb dX12_keep_58 (by decide) ?_
    refine va_put (D := (dC, dI)) (ci := 11) (v := .int 1) (C := RX12) (T := TX12) (N := 69) hx hb hts hinX12 tyX12 tyX12_ok nmX12 hown hK hP hD hS 0 (mat_11 rfl) rfl 68 (by decide) (hts (.fieldLink RX12 382 "BondCalendarsModel" "isKept" "Z") (by decide +kernel)) (fun _ h9 => h9) rfl (ty := .boolean) (by decide +kernel) (by decide +kernel) (by decide +kernel) (Nat.le_of_ble_eq_true rfl) dX12_keep_59 (fun H locs hP hD hS => ?_)
    obtain ⟨σ6, eσ6, hP, hD⟩ := gPut (mse_11_68 rfl) hP hD
    have hIσ6 : InvM σ6 := by rw [eσ6]; exact minv_I hIσ5 (mok_11_68 rfl _ ⟨(show (0 : Int32) ≤ 1 by decide), (show (1 : Int32) ≤ 1 by decide)⟩)
    have frσ6 : mFr [67, 68] [0, 1, 2, 65, 68] σ σ6 := by rw [eσ6]; exact mFr.oI frσ5 (by decide)
    refine lv_aload_n hx hb dX12_keep_62 rfl (lv_at hl 0 rfl) ?_
    refine lv_iconst (v := 0) hx hb dX12_keep_63 (by decide) ?_
    have hF := gFree hD hS hA
    refine va_calliD hd0 (va_runV_D (As := [.int 0]) (rest := []) ⟨hx, hb, hml, hown, hts⟩ (n_X12_good l dC dI ad cA adK adV H.size σ6 hIσ6 0) (cwV 1 hts gX12_keep_X12_good rfl rfl rfl (by decide +kernel) ⟨Nat.le_of_ble_eq_true rfl, Nat.le_of_ble_eq_true rfl⟩) ⟨gBlind, va_recv hK hP (ci := 11) (q0 := 0) rfl (mat_11 rfl), gStart (As := [.ref (ad 0), .int 0]) hP hD hK0 hT hS hF (d_7)⟩ rfl rfl hl.1 rfl (lv_room (Nat.le_of_ble_eq_true rfl)) dX12_keep_64 ⟨Nat.le_of_ble_eq_true rfl, Nat.le_of_ble_eq_true rfl⟩) hS (fun q _ h => hF q h) hF (fun r_9 σ7 t H locs ht hvm hw hB hz1 hk1 hS d_10 hd0 => ?_)
    have hts := dr_words hts0 (d_10)
    have hK := gKd hK0 (d_10)
    have hown : (s.setDrawn (d_10)).vm.findClass RX12 = some m.cls := hown0
    obtain ⟨hP, hD⟩ := gBack hF ht hB
    obtain ⟨hIσ7, fcσ7, hp_11⟩ := hw
    refine lv_pop hx hb dX12_keep_67 rfl ?_
    refine lv_iconst (v := 1) hx hb dX12_keep_68 (by decide) ?_
    refine W.endD hd0 ?_
    exact W.zret (v := 1) hx hb hr (by decide) (fun t ht hW => ⟨⟨1, σ7, rfl, ⟨hIσ7, (mFr.tr frσ6 fcσ7 (by decide) (by decide)), Or.inr rfl⟩, ⟨by rw [ht]; exact hP, hD⟩⟩, hS.F ht⟩) hS.2.2 dX12_keep_69
  · refine lv_aload_n hx hb dX12_keep_12 rfl (lv_at hl 0 rfl) ?_
    have hF := gFree hD hS hA
    refine va_calliD hd0 (va_runV_D (As := []) (rest := []) ⟨hx, hb, hml, hown, hts⟩ (n_X12_denied l dC dI ad cA adK adV H.size σ1 hIσ1 ) (cwV 0 hts gX12_keep_X12_denied rfl rfl rfl (by decide +kernel) ⟨Nat.le_of_ble_eq_true rfl, Nat.le_of_ble_eq_true rfl⟩) ⟨gBlind, va_recv hK hP (ci := 11) (q0 := 0) rfl (mat_11 rfl), gStart (As := [.ref (ad 0)]) hP hD hK0 hT hS hF (s.drawn)⟩ rfl rfl hl.1 rfl (lv_room (Nat.le_of_ble_eq_true rfl)) dX12_keep_13 ⟨Nat.le_of_ble_eq_true rfl, Nat.le_of_ble_eq_true rfl⟩) hS (fun q _ h => hF q h) hF (fun r_12 σ8 t H locs ht hvm hw hB hz1 hk1 hS d_13 hd0 => ?_)
    have hts := dr_words hts0 (d_13)
    have hK := gKd hK0 (d_13)
    have hown : (s.setDrawn (d_13)).vm.findClass RX12 = some m.cls := hown0
    obtain ⟨hP, hD⟩ := gBack hF ht hB
    obtain ⟨hIσ8, fcσ8, hp_14⟩ := hw
    refine W.endD hd0 ?_
    exact W.zret (v := r_12) hx hb hr (by rcases hp_14 with h9 | h9 <;> rw [h9] <;> decide +kernel) (fun t ht hW => ⟨⟨r_12, σ8, rfl, ⟨hIσ8, (mFr.tr frσ1 fcσ8 (by decide) (by decide)), hp_14⟩, ⟨by rw [ht]; exact hP, hD⟩⟩, hS.F ht⟩) hS.2.2 dX12_keep_16
set_option maxHeartbeats 8000000 in
set_option maxRecDepth 100000 in
theorem n_X12_back (l : Launch) (dC : Nat → ClassId) (dI : Nat → Nat → Nat) (ad : Nat → Nat) (cA : Nat → ClassId) (adK adV : Nat → Nat) (sz : Nat) (σ : gs) (hI : InvM σ)  : MetD lw_cs l yX12_back wsX12_back ({ frames := 2, cells := 0, slots := 0, locals := 41 }) (va_Pc [.ref (ad 0)] (gPre adK adV (dC, dI) (wM ad cA σ) (tM cA) sz)) (va_Qi (fun (r : Int32) (τ : gs) => InvM τ ∧ mFr [65, 66] [0, 1, 2, 64] σ τ ∧ (r = 0 ∨ r = 1)) (fun τ t => gPost (dC, dI) (va_A (wM ad cA σ) sz) (wM ad cA τ) t) (va_A (wM ad cA σ) sz)) 0 0 (va_A (wM ad cA σ) sz) := by
  refine MetD.ofW (cc := cX12_back) (maxL := 1) (ret := (some .boolean)) (by decide) rfl ?_
  intro p e s m args below meth c s₁ B hml hv hd0
  obtain ⟨rfl, hsz, hP, hK, hD0, hT⟩ := hv
  have hx := B.exec
  have hb := B.bytes
  have hr := B.returns
  have hts0 := atoms_spec (ws := wsX12_back) B.pre
  have hK0 := hK
  have hown0 : s.vm.findClass RX12 = some m.cls := findClass_of_methodNamed B.named
  have hlocks := B.notSynchronized
  have hinX12 : ∀ w ∈ u_ws RX12 TX12 69, w ∈ wsX12_back := (fun _ h9 => List.mem_cons_of_mem _ (List.mem_append_right _ h9))
  subst hsz
  have hD := hD0.self (sz := s.heap.size)
  generalize hAe : va_A (wM ad cA σ) s.heap.size = A at hD hT ⊢
  have hA : ∀ q : Nat, s.heap.size ≤ q → A q := fun q h => by rw [← hAe]; exact Or.inr h
  have hS : va_S A s.heap s.heap [] := va_S.rf
  have hl := lv_entry ([.ref (ad 0)]) (n := 1) (Nat.le_of_ble_eq_true rfl)
  rw [lg_entry_eq]
  generalize (lg_sl ([.ref (ad 0)]) ++ List.replicate (1 - (lg_sl ([.ref (ad 0)])).length) Slot.unset).toArray = ls at hl ⊢
  have hl : lv_has ls 1 [(0, .ref (ad 0))] := hl
  have hts := dr_words hts0 (s.drawn)
  have hK := gKd hK0 (s.drawn)
  have hown : (s.setDrawn (s.drawn)).vm.findClass RX12 = some m.cls := hown0
  refine lv_aload_n hx hb dX12_back_0 rfl (lv_at hl 0 rfl) ?_
  refine lv_iconst (v := 0) hx hb dX12_back_1 (by decide) ?_
  refine va_put (D := (dC, dI)) (ci := 11) (v := .int 0) (C := RX12) (T := TX12) (N := 69) hx hb hts hinX12 tyX12 tyX12_ok nmX12 hown hK hP hD hS 0 (mat_11 rfl) rfl 0 (by decide) (hts (.fieldLink RX12 107 "BondCalendarsModel" "thrown" "I") (by decide +kernel)) (fun _ h9 => h9) rfl (ty := .int) (by decide +kernel) rfl rfl (Nat.le_of_ble_eq_true rfl) dX12_back_2 (fun H locs hP hD hS => ?_)
  obtain ⟨σ1, eσ1, hP, hD⟩ := gPut (mse_11_0 rfl) hP hD
  have hIσ1 : InvM σ1 := by rw [eσ1]; exact minv_I hI (mok_11_0 rfl _)
  have frσ1 : mFr [65, 66] [0, 1, 2, 64] σ σ1 := by rw [eσ1]; exact mFr.oI (mFr.rfl (L := [65, 66]) (F := [0, 1, 2, 64]) (σ := σ)) (by decide)
  refine lv_aload_n hx hb dX12_back_5 rfl (lv_at hl 0 rfl) ?_
  have bd_1 := mrd_11_68 (c := 0) hI rfl
  refine va_get (D := (dC, dI)) (ci := 11) (v := .int ((σ 0).1 68)) (C := RX12) (T := TX12) (N := 69) hx hb hts hinX12 hown hK hP 0 (mat_11 rfl) rfl 68 (by decide) (hts (.fieldLink RX12 382 "BondCalendarsModel" "isKept" "Z") (by decide +kernel)) (fun _ h9 => h9) (congrArg (fun z => some (Value.int z)) (show (σ1 0).1 68 = ((σ 0).1 68) from by rw [eσ1, gI_oth _ _ _ (by decide)])) dX12_back_6 ?_
  refine lv_if_ne (tgt := 17) hx hb dX12_back_9 (by decide) (fun c_2 => ?_) (fun c_2 => ?_)
  · refine lv_aload_n hx hb dX12_back_17 rfl (lv_at hl 0 rfl) ?_
    refine lv_aload_n hx hb dX12_back_18 rfl (lv_at hl 0 rfl) ?_
    refine va_get (D := (dC, dI)) (ci := 11) (v := .ref (ad 27)) (C := RX12) (T := TX12) (N := 69) hx hb hts hinX12 hown hK hP 0 (mat_11 rfl) rfl 60 (by decide) (hts (.fieldLink RX12 95 "BondCalendarsModel" "heldKept" "[I") (by decide +kernel)) (fun _ h9 => h9) rfl dX12_back_19 ?_
    refine lv_aload_n hx hb dX12_back_22 rfl (lv_at hl 0 rfl) ?_
    refine va_get (D := (dC, dI)) (ci := 11) (v := .ref (ad 25)) (C := RX12) (T := TX12) (N := 69) hx hb hts hinX12 hown hK hP 0 (mat_11 rfl) rfl 58 (by decide) (hts (.fieldLink RX12 89 "BondCalendarsModel" "held" "[I") (by decide +kernel)) (fun _ h9 => h9) rfl dX12_back_23 ?_
    have hF := gFree hD hS hA
    refine va_callvD hd0 (va_runV_D (As := [.ref (ad 27), .ref (ad 25)]) (rest := []) ⟨hx, hb, hml, hown, hts⟩ (n_X12_copies_27_25 l dC dI ad cA adK adV H.size σ1 hIσ1 ) (cwV 2 hts gX12_back_X12_copies rfl rfl rfl (by decide +kernel) ⟨Nat.le_of_ble_eq_true rfl, Nat.le_of_ble_eq_true rfl⟩) ⟨gBlind, va_recv hK hP (ci := 11) (q0 := 0) rfl (mat_11 rfl), gStart (As := [.ref (ad 0), .ref (ad 27), .ref (ad 25)]) hP hD hK0 hT hS hF (s.drawn)⟩ rfl rfl hl.1 rfl (lv_room (Nat.le_of_ble_eq_true rfl)) dX12_back_26 ⟨Nat.le_of_ble_eq_true rfl, Nat.le_of_ble_eq_true rfl⟩) hS (fun q _ h => hF q h) hF (fun σ2 t H locs ht hvm hw hB hz1 hk1 hS d_4 hd0 => ?_)
    have hts := dr_words hts0 (d_4)
    have hK := gKd hK0 (d_4)
    have hown : (s.setDrawn (d_4)).vm.findClass RX12 = some m.cls := hown0
    obtain ⟨hP, hD⟩ := gBack hF ht hB
    obtain ⟨hIσ2, fcσ2, hp_5⟩ := hw
    refine lv_aload_n hx hb dX12_back_29 rfl (lv_at hl 0 rfl) ?_
    refine lv_aload_n hx hb dX12_back_30 rfl (lv_at hl 0 rfl) ?_
    refine va_get (D := (dC, dI)) (ci := 11) (v := .ref (ad 28)) (C := RX12) (T := TX12) (N := 69) hx hb hts hinX12 hown hK hP 0 (mat_11 rfl) rfl 61 (by decide) (hts (.fieldLink RX12 98 "BondCalendarsModel" "entitledKept" "[I") (by decide +kernel)) (fun _ h9 => h9) rfl dX12_back_31 ?_
    refine lv_aload_n hx hb dX12_back_34 rfl (lv_at hl 0 rfl) ?_
    refine va_get (D := (dC, dI)) (ci := 11) (v := .ref (ad 26)) (C := RX12) (T := TX12) (N := 69) hx hb hts hinX12 hown hK hP 0 (mat_11 rfl) rfl 59 (by decide) (hts (.fieldLink RX12 92 "BondCalendarsModel" "entitled" "[I") (by decide +kernel)) (fun _ h9 => h9) rfl dX12_back_35 ?_
    have hF := gFree hD hS hA
    refine va_callvD hd0 (va_runV_D (As := [.ref (ad 28), .ref (ad 26)]) (rest := []) ⟨hx, hb, hml, hown, hts⟩ (n_X12_copies_28_26 l dC dI ad cA adK adV H.size σ2 hIσ2 ) (cwV 2 hts gX12_back_X12_copies rfl rfl rfl (by decide +kernel) ⟨Nat.le_of_ble_eq_true rfl, Nat.le_of_ble_eq_true rfl⟩) ⟨gBlind, va_recv hK hP (ci := 11) (q0 := 0) rfl (mat_11 rfl), gStart (As := [.ref (ad 0), .ref (ad 28), .ref (ad 26)]) hP hD hK0 hT hS hF (d_4)⟩ rfl rfl hl.1 rfl (lv_room (Nat.le_of_ble_eq_true rfl)) dX12_back_38 ⟨Nat.le_of_ble_eq_true rfl, Nat.le_of_ble_eq_true rfl⟩) hS (fun q _ h => hF q h) hF (fun σ3 t H locs ht hvm hw hB hz1 hk1 hS d_7 hd0 => ?_)
    have hts := dr_words hts0 (d_7)
    have hK := gKd hK0 (d_7)
    have hown : (s.setDrawn (d_7)).vm.findClass RX12 = some m.cls := hown0
    obtain ⟨hP, hD⟩ := gBack hF ht hB
    obtain ⟨hIσ3, fcσ3, hp_8⟩ := hw
    refine lv_aload_n hx hb dX12_back_41 rfl (lv_at hl 0 rfl) ?_
    refine lv_aload_n hx hb dX12_back_42 rfl (lv_at hl 0 rfl) ?_
    refine va_get (D := (dC, dI)) (ci := 11) (v := .int ((σ 0).1 65)) (C := RX12) (T := TX12) (N := 69) hx hb hts hinX12 hown hK hP 0 (mat_11 rfl) rfl 65 (by decide) (hts (.fieldLink RX12 591 "BondCalendarsModel" "nowKept" "I") (by decide +kernel)) (fun _ h9 => h9) (congrArg (fun z => some (Value.int z)) (show (σ3 0).1 65 = ((σ 0).1 65) from by rw [fcσ3.2 65 (by decide), fcσ2.2 65 (by decide), eσ1, gI_oth _ _ _ (by decide)])) dX12_back_43 ?_
    refine va_put (D := (dC, dI)) (ci := 11) (v := .int ((σ 0).1 65)) (C := RX12) (T := TX12) (N := 69) hx hb hts hinX12 tyX12 tyX12_ok nmX12 hown hK hP hD hS 0 (mat_11 rfl) rfl 64 (by decide) (hts (.fieldLink RX12 377 "BondCalendarsModel" "now" "I") (by decide +kernel)) (fun _ h9 => h9) rfl (ty := .int) (by decide +kernel) rfl rfl (Nat.le_of_ble_eq_true rfl) dX12_back_46 (fun H locs hP hD hS => ?_)
    obtain ⟨σ4, eσ4, hP, hD⟩ := gPut (mse_11_64 rfl) hP hD
    have hIσ4 : InvM σ4 := by rw [eσ4]; exact minv_I hIσ3 (mok_11_64 rfl _)
    have frσ4 : mFr [65, 66] [0, 1, 2, 64] σ σ4 := by rw [eσ4]; exact mFr.oI (mFr.tr (mFr.tr frσ1 fcσ2 (by decide) (by decide)) fcσ3 (by decide) (by decide)) (by decide)
    refine lv_aload_n hx hb dX12_back_49 rfl (lv_at hl 0 rfl) ?_
    refine lv_aload_n hx hb dX12_back_50 rfl (lv_at hl 0 rfl) ?_
    refine va_get (D := (dC, dI)) (ci := 11) (v := .long ((σ4 0).2.1 67)) (C := RX12) (T := TX12) (N := 69) hx hb hts hinX12 hown hK hP 0 (mat_11 rfl) rfl 67 (by decide) (hts (.fieldLink RX12 594 "BondCalendarsModel" "cashKept" "J") (by decide +kernel)) (fun _ h9 => h9) rfl dX12_back_51 ?_
    refine va_put (D := (dC, dI)) (ci := 11) (v := .long ((σ4 0).2.1 67)) (C := RX12) (T := TX12) (N := 69) hx hb hts hinX12 tyX12 tyX12_ok nmX12 hown hK hP hD hS 0 (mat_11 rfl) rfl 66 (by decide) (hts (.fieldLink RX12 380 "BondCalendarsModel" "cash" "J") (by decide +kernel)) (fun _ h9 => h9) rfl (ty := .long) (by decide +kernel) rfl rfl (Nat.le_of_ble_eq_true rfl) dX12_back_54 (fun H locs hP hD hS => ?_)
    obtain ⟨σ5, eσ5, hP, hD⟩ := gPut (mse_11_66 rfl) hP hD
    have hIσ5 : InvM σ5 := by rw [eσ5]; exact minv_L hIσ4
    have frσ5 : mFr [65, 66] [0, 1, 2, 64] σ σ5 := by rw [eσ5]; exact mFr.oL frσ4
    refine lv_aload_n hx hb dX12_back_57 rfl (lv_at hl 0 rfl) ?_
    refine lv_iconst (v := 0) hx hb dX12_back_58 (by decide) ?_
    have hF := gFree hD hS hA
    refine va_calliD hd0 (va_runV_D (As := [.int 0]) (rest := []) ⟨hx, hb, hml, hown, hts⟩ (n_X12_good l dC dI ad cA adK adV H.size σ5 hIσ5 0) (cwV 1 hts gX12_back_X12_good rfl rfl rfl (by decide +kernel) ⟨Nat.le_of_ble_eq_true rfl, Nat.le_of_ble_eq_true rfl⟩) ⟨gBlind, va_recv hK hP (ci := 11) (q0 := 0) rfl (mat_11 rfl), gStart (As := [.ref (ad 0), .int 0]) hP hD hK0 hT hS hF (d_7)⟩ rfl rfl hl.1 rfl (lv_room (Nat.le_of_ble_eq_true rfl)) dX12_back_59 ⟨Nat.le_of_ble_eq_true rfl, Nat.le_of_ble_eq_true rfl⟩) hS (fun q _ h => hF q h) hF (fun r_9 σ6 t H locs ht hvm hw hB hz1 hk1 hS d_10 hd0 => ?_)
    have hts := dr_words hts0 (d_10)
    have hK := gKd hK0 (d_10)
    have hown : (s.setDrawn (d_10)).vm.findClass RX12 = some m.cls := hown0
    obtain ⟨hP, hD⟩ := gBack hF ht hB
    obtain ⟨hIσ6, fcσ6, hp_11⟩ := hw
    refine lv_pop hx hb dX12_back_62 rfl ?_
    refine lv_iconst (v := 1) hx hb dX12_back_63 (by decide) ?_
    refine W.endD hd0 ?_
    exact W.zret (v := 1) hx hb hr (by decide) (fun t ht hW => ⟨⟨1, σ6, rfl, ⟨hIσ6, (mFr.tr frσ5 fcσ6 (by decide) (by decide)), Or.inr rfl⟩, ⟨by rw [ht]; exact hP, hD⟩⟩, hS.F ht⟩) hS.2.2 dX12_back_64
  · refine lv_aload_n hx hb dX12_back_12 rfl (lv_at hl 0 rfl) ?_
    have hF := gFree hD hS hA
    refine va_calliD hd0 (va_runV_D (As := []) (rest := []) ⟨hx, hb, hml, hown, hts⟩ (n_X12_denied l dC dI ad cA adK adV H.size σ1 hIσ1 ) (cwV 0 hts gX12_back_X12_denied rfl rfl rfl (by decide +kernel) ⟨Nat.le_of_ble_eq_true rfl, Nat.le_of_ble_eq_true rfl⟩) ⟨gBlind, va_recv hK hP (ci := 11) (q0 := 0) rfl (mat_11 rfl), gStart (As := [.ref (ad 0)]) hP hD hK0 hT hS hF (s.drawn)⟩ rfl rfl hl.1 rfl (lv_room (Nat.le_of_ble_eq_true rfl)) dX12_back_13 ⟨Nat.le_of_ble_eq_true rfl, Nat.le_of_ble_eq_true rfl⟩) hS (fun q _ h => hF q h) hF (fun r_12 σ7 t H locs ht hvm hw hB hz1 hk1 hS d_13 hd0 => ?_)
    have hts := dr_words hts0 (d_13)
    have hK := gKd hK0 (d_13)
    have hown : (s.setDrawn (d_13)).vm.findClass RX12 = some m.cls := hown0
    obtain ⟨hP, hD⟩ := gBack hF ht hB
    obtain ⟨hIσ7, fcσ7, hp_14⟩ := hw
    refine W.endD hd0 ?_
    exact W.zret (v := r_12) hx hb hr (by rcases hp_14 with h9 | h9 <;> rw [h9] <;> decide +kernel) (fun t ht hW => ⟨⟨r_12, σ7, rfl, ⟨hIσ7, (mFr.tr frσ1 fcσ7 (by decide) (by decide)), hp_14⟩, ⟨by rw [ht]; exact hP, hD⟩⟩, hS.F ht⟩) hS.2.2 dX12_back_16
