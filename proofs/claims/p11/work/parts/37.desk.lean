set_option maxHeartbeats 8000000 in
set_option maxRecDepth 100000 in
theorem n_X4_clear (l : Launch) (dC : Nat → ClassId) (dI : Nat → Nat → Nat) (ad : Nat → Nat) (cA : Nat → ClassId) (adK adV : Nat → Nat) (sz : Nat) (σ : gs) (hI : InvX σ) (o : Nat) (ho : kX o = 3) : MetD lw_cs l yX4_clear wsX4_clear ({ frames := 0, cells := 0, slots := 0, locals := 0 }) (va_Pc [.ref (ad o)] (gPre adK adV (dC, dI) (wX ad cA σ) (tX cA) sz)) (va_Qv (fun (τ : gs) => InvX τ ∧ gFr [3, 4] σ τ ∧ (True)) (fun τ t => gPost (dC, dI) (va_A (wX ad cA σ) sz) (wX ad cA τ) t) (va_A (wX ad cA σ) sz)) 0 0 (va_A (wX ad cA σ) sz) := by
  refine MetD.ofW (cc := cX4_clear) (maxL := 1) (ret := none) (by decide) rfl ?_
  intro p e s m args below meth c s₁ B hml hv hd0
  obtain ⟨rfl, hsz, hP, hK, hD0, hT⟩ := hv
  have hx := B.exec
  have hb := B.bytes
  have hr := B.returns
  have hts0 := atoms_spec (ws := wsX4_clear) B.pre
  have hK0 := hK
  have hown0 : s.vm.findClass RX4 = some m.cls := findClass_of_methodNamed B.named
  have hlocks := B.notSynchronized
  have hinX4 : ∀ w ∈ u_ws RX4 TX4 12, w ∈ wsX4_clear := (fun _ h9 => List.mem_cons_of_mem _ (List.mem_append_left _ (List.mem_append_right _ h9)))
  have hinX5 : ∀ w ∈ u_ws RX5 TX5 2, w ∈ wsX4_clear := (fun _ h9 => List.mem_cons_of_mem _ (List.mem_append_right _ h9))
  subst hsz
  have hD := hD0.self (sz := s.heap.size)
  generalize hAe : va_A (wX ad cA σ) s.heap.size = A at hD hT ⊢
  have hA : ∀ q : Nat, s.heap.size ≤ q → A q := fun q h => by rw [← hAe]; exact Or.inr h
  have hS : va_S A s.heap s.heap [] := va_S.rf
  have hl := lv_entry ([.ref (ad o)]) (n := 1) (Nat.le_of_ble_eq_true rfl)
  rw [lg_entry_eq]
  generalize (lg_sl ([.ref (ad o)]) ++ List.replicate (1 - (lg_sl ([.ref (ad o)])).length) Slot.unset).toArray = ls at hl ⊢
  have hl : lv_has ls 1 [(0, .ref (ad o))] := hl
  have hts := dr_words hts0 (s.drawn)
  have hK := gKd hK0 (s.drawn)
  have hown : (s.setDrawn (s.drawn)).vm.findClass RX4 = some m.cls := hown0
  refine lv_aload_n hx hb dX4_clear_0 rfl (lv_at hl 0 rfl) ?_
  refine va_get (D := (dC, dI)) (ci := 3) (v := .ref (ad (o + 1))) (C := RX4) (T := TX4) (N := 12) hx hb hts hinX4 hown hK hP o (at_3 ho) rfl 2 (by decide) (hts (.fieldLink RX4 21 "BondCalendars$Desk" "holidays" "LBondCalendars$Holidays;") (by decide +kernel)) (fun _ h9 => h9) rfl dX4_clear_1 ?_
  refine lv_iconst (v := 0) hx hb dX4_clear_4 (by decide) ?_
  refine va_put (D := (dC, dI)) (ci := 4) (v := .int 0) (C := RX5) (T := TX5) (N := 2) hx hb hts hinX5 tyX5 tyX5_ok nmX5 hown hK hP hD hS ((o + 1)) (at_4 (kk_3_1 ho)) rfl 1 (by decide) (hts (.fieldLink RX4 65 "BondCalendars$Holidays" "count" "I") (by decide +kernel)) (fun _ h9 => h9) rfl (ty := .int) (by decide +kernel) rfl rfl (Nat.le_of_ble_eq_true rfl) dX4_clear_5 (fun H locs hP hD hS => ?_)
  obtain ⟨σ1, eσ1, hP, hD⟩ := gPut (se_4_1 (kk_3_1 ho)) hP hD
  have hIσ1 : InvX σ1 := by rw [eσ1]; exact inv_I hI (ok_4_1 (kk_3_1 ho) _ ⟨(show (0 : Int32) ≤ 0 by decide), (show (0 : Int32) ≤ 10 by decide)⟩)
  have frσ1 : gFr [3, 4] σ σ1 := by rw [eσ1]; exact gFr.pI (gFr.rfl (L := [3, 4]) (σ := σ)) (kk_3_1 ho) (by decide)
  refine lv_aload_n hx hb dX4_clear_8 rfl (lv_at hl 0 rfl) ?_
  refine lv_iconst (v := 0) hx hb dX4_clear_9 (by decide) ?_
  refine va_put (D := (dC, dI)) (ci := 3) (v := .int 0) (C := RX4) (T := TX4) (N := 12) hx hb hts hinX4 tyX4 tyX4_ok nmX4 hown hK hP hD hS o (at_3 ho) rfl 4 (by decide) (hts (.fieldLink RX4 31 "BondCalendars$Desk" "bondCount" "I") (by decide +kernel)) (fun _ h9 => h9) rfl (ty := .int) (by decide +kernel) rfl rfl (Nat.le_of_ble_eq_true rfl) dX4_clear_10 (fun H locs hP hD hS => ?_)
  obtain ⟨σ2, eσ2, hP, hD⟩ := gPut (se_3_4 ho) hP hD
  have hIσ2 : InvX σ2 := by rw [eσ2]; exact inv_I hIσ1 (ok_3_4 ho _)
  have frσ2 : gFr [3, 4] σ σ2 := by rw [eσ2]; exact gFr.pI frσ1 ho (by decide)
  refine lv_aload_n hx hb dX4_clear_13 rfl (lv_at hl 0 rfl) ?_
  refine lv_iconst (v := 0) hx hb dX4_clear_14 (by decide) ?_
  refine va_put (D := (dC, dI)) (ci := 3) (v := .int 0) (C := RX4) (T := TX4) (N := 12) hx hb hts hinX4 tyX4 tyX4_ok nmX4 hown hK hP hD hS o (at_3 ho) rfl 9 (by decide) (hts (.fieldLink RX4 50 "BondCalendars$Desk" "quoteCount" "I") (by decide +kernel)) (fun _ h9 => h9) rfl (ty := .int) (by decide +kernel) rfl rfl (Nat.le_of_ble_eq_true rfl) dX4_clear_15 (fun H locs hP hD hS => ?_)
  obtain ⟨σ3, eσ3, hP, hD⟩ := gPut (se_3_9 ho) hP hD
  have hIσ3 : InvX σ3 := by rw [eσ3]; exact inv_I hIσ2 (ok_3_9 ho _)
  have frσ3 : gFr [3, 4] σ σ3 := by rw [eσ3]; exact gFr.pI frσ2 ho (by decide)
  refine lv_aload_n hx hb dX4_clear_18 rfl (lv_at hl 0 rfl) ?_
  refine lv_iconst (v := (-1)) hx hb dX4_clear_19 (by decide) ?_
  refine va_put (D := (dC, dI)) (ci := 3) (v := .int (-1)) (C := RX4) (T := TX4) (N := 12) hx hb hts hinX4 tyX4 tyX4_ok nmX4 hown hK hP hD hS o (at_3 ho) rfl 10 (by decide) (hts (.fieldLink RX4 53 "BondCalendars$Desk" "flatPoints" "I") (by decide +kernel)) (fun _ h9 => h9) rfl (ty := .int) (by decide +kernel) rfl rfl (Nat.le_of_ble_eq_true rfl) dX4_clear_20 (fun H locs hP hD hS => ?_)
  obtain ⟨σ4, eσ4, hP, hD⟩ := gPut (se_3_10 ho) hP hD
  have hIσ4 : InvX σ4 := by rw [eσ4]; exact inv_I hIσ3 (ok_3_10 ho _)
  have frσ4 : gFr [3, 4] σ σ4 := by rw [eσ4]; exact gFr.pI frσ3 ho (by decide)
  refine W.endD hd0 ?_
  exact W.vret hx hb hr (fun t ht hW => ⟨⟨σ4, rfl, ⟨hIσ4, frσ4, trivial⟩, ⟨by rw [ht]; exact hP, hD⟩⟩, hS.F ht⟩) hS.2.2 dX4_clear_23
set_option maxHeartbeats 8000000 in
set_option maxRecDepth 100000 in
theorem n_X4_hasQuote (l : Launch) (dC : Nat → ClassId) (dI : Nat → Nat → Nat) (ad : Nat → Nat) (cA : Nat → ClassId) (adK adV : Nat → Nat) (sz : Nat) (σ : gs) (hI : InvX σ) (o : Nat) (ho : kX o = 3) (p0 : Int32) : MetD lw_cs l yX4_hasQuote wsX4_hasQuote ({ frames := 0, cells := 0, slots := 0, locals := 0 }) (va_Pc [.ref (ad o), .int p0] (gPre adK adV (dC, dI) (wX ad cA σ) (tX cA) sz)) (va_Qi (fun (r : Int32) (τ : gs) => InvX τ ∧ σ = τ ∧ ((r = 0 ∨ r = 1) ∧ (r ≠ 0 → 0 ≤ p0 ∧ p0 < 6))) (fun τ t => gPost (dC, dI) (va_A (wX ad cA σ) sz) (wX ad cA τ) t) (va_A (wX ad cA σ) sz)) 0 0 (va_A (wX ad cA σ) sz) := by
  refine MetD.ofW (cc := cX4_hasQuote) (maxL := 2) (ret := (some .boolean)) (by decide) rfl ?_
  intro p e s m args below meth c s₁ B hml hv hd0
  obtain ⟨rfl, hsz, hP, hK, hD0, hT⟩ := hv
  have hx := B.exec
  have hb := B.bytes
  have hr := B.returns
  have hts0 := atoms_spec (ws := wsX4_hasQuote) B.pre
  have hK0 := hK
  have hown0 : s.vm.findClass RX4 = some m.cls := findClass_of_methodNamed B.named
  have hlocks := B.notSynchronized
  have hinX4 : ∀ w ∈ u_ws RX4 TX4 12, w ∈ wsX4_hasQuote := (fun _ h9 => List.mem_cons_of_mem _ (List.mem_append_right _ h9))
  subst hsz
  have hD := hD0.self (sz := s.heap.size)
  generalize hAe : va_A (wX ad cA σ) s.heap.size = A at hD hT ⊢
  have hA : ∀ q : Nat, s.heap.size ≤ q → A q := fun q h => by rw [← hAe]; exact Or.inr h
  have hS : va_S A s.heap s.heap [] := va_S.rf
  have hl := lv_entry ([.ref (ad o), .int p0]) (n := 2) (Nat.le_of_ble_eq_true rfl)
  rw [lg_entry_eq]
  generalize (lg_sl ([.ref (ad o), .int p0]) ++ List.replicate (2 - (lg_sl ([.ref (ad o), .int p0])).length) Slot.unset).toArray = ls at hl ⊢
  have hl : lv_has ls 2 [(0, .ref (ad o)), (1, .int p0)] := hl
  have hts := dr_words hts0 (s.drawn)
  have hK := gKd hK0 (s.drawn)
  have hown : (s.setDrawn (s.drawn)).vm.findClass RX4 = some m.cls := hown0
  refine lv_iload_n hx hb dX4_hasQuote_0 rfl (lv_at hl 1 rfl) ?_
  refine lv_if_lt (tgt := 22) hx hb dX4_hasQuote_1 (by decide) (fun c_1 => ?_) (fun c_1 => ?_)
  · refine lv_iconst (v := 0) hx hb dX4_hasQuote_22 (by decide) ?_
    refine W.endD hd0 ?_
    exact W.zret (v := 0) hx hb hr (by decide) (fun t ht hW => ⟨⟨0, σ, rfl, ⟨hI, rfl, ⟨Or.inl rfl, fun h => absurd rfl h⟩⟩, ⟨by rw [ht]; exact hP, hD⟩⟩, hS.F ht⟩) hS.2.2 dX4_hasQuote_23
  · refine lv_iload_n hx hb dX4_hasQuote_4 rfl (lv_at hl 1 rfl) ?_
    refine lv_aload_n hx hb dX4_hasQuote_5 rfl (lv_at hl 0 rfl) ?_
    refine va_get (D := (dC, dI)) (ci := 3) (v := .int ((σ o).1 9)) (C := RX4) (T := TX4) (N := 12) hx hb hts hinX4 hown hK hP o (at_3 ho) rfl 9 (by decide) (hts (.fieldLink RX4 50 "BondCalendars$Desk" "quoteCount" "I") (by decide +kernel)) (fun _ h9 => h9) rfl dX4_hasQuote_6 ?_
    refine lv_icmp_ge (tgt := 22) hx hb dX4_hasQuote_9 (by decide) (fun c_2 => ?_) (fun c_2 => ?_)
    · refine lv_iconst (v := 0) hx hb dX4_hasQuote_22 (by decide) ?_
      refine W.endD hd0 ?_
      exact W.zret (v := 0) hx hb hr (by decide) (fun t ht hW => ⟨⟨0, σ, rfl, ⟨hI, rfl, ⟨Or.inl rfl, fun h => absurd rfl h⟩⟩, ⟨by rw [ht]; exact hP, hD⟩⟩, hS.F ht⟩) hS.2.2 dX4_hasQuote_23
    · refine lv_iload_n hx hb dX4_hasQuote_12 rfl (lv_at hl 1 rfl) ?_
      refine lv_bipush (v := 6) hx hb dX4_hasQuote_13 (by decide) ?_
      refine lv_icmp_ge (tgt := 22) hx hb dX4_hasQuote_15 (by decide) (fun c_3 => ?_) (fun c_3 => ?_)
      · refine lv_iconst (v := 0) hx hb dX4_hasQuote_22 (by decide) ?_
        refine W.endD hd0 ?_
        exact W.zret (v := 0) hx hb hr (by decide) (fun t ht hW => ⟨⟨0, σ, rfl, ⟨hI, rfl, ⟨Or.inl rfl, fun h => absurd rfl h⟩⟩, ⟨by rw [ht]; exact hP, hD⟩⟩, hS.F ht⟩) hS.2.2 dX4_hasQuote_23
      · refine lv_iconst (v := 1) hx hb dX4_hasQuote_18 (by decide) ?_
        refine lv_goto (tgt := 23) hx hb dX4_hasQuote_19 (by decide) ?_
        refine W.endD hd0 ?_
        exact W.zret (v := 1) hx hb hr (by decide) (fun t ht hW => ⟨⟨1, σ, rfl, ⟨hI, rfl, ⟨Or.inr rfl, fun _ => ⟨(Int32.not_lt.mp c_1), (Int32.not_le.mp c_3)⟩⟩⟩, ⟨by rw [ht]; exact hP, hD⟩⟩, hS.F ht⟩) hS.2.2 dX4_hasQuote_23
set_option maxHeartbeats 8000000 in
set_option maxRecDepth 100000 in
theorem n_X4_layOut (l : Launch) (dC : Nat → ClassId) (dI : Nat → Nat → Nat) (ad : Nat → Nat) (cA : Nat → ClassId) (adK adV : Nat → Nat) (sz : Nat) (σ : gs) (hI : InvX σ) (o : Nat) (ho : kX o = 3) : MetD lw_cs l yX4_layOut wsX4_layOut ({ frames := 6, cells := 0, slots := 0, locals := 154 }) (va_Pc [.ref (ad o)] (gPre adK adV (dC, dI) (wX ad cA σ) (tX cA) sz)) (va_Qv (fun (τ : gs) => InvX τ ∧ gFr [0, 5, 7, 24, 28] σ τ ∧ (True)) (fun τ t => gPost (dC, dI) (va_A (wX ad cA σ) sz) (wX ad cA τ) t) (va_A (wX ad cA σ) sz)) 0 0 (va_A (wX ad cA σ) sz) := by
  refine MetD.ofW (cc := cX4_layOut) (maxL := 3) (ret := none) (by decide) rfl ?_
  intro p e s m args below meth c s₁ B hml hv hd0
  obtain ⟨rfl, hsz, hP, hK, hD0, hT⟩ := hv
  have hx := B.exec
  have hb := B.bytes
  have hr := B.returns
  have hts0 := atoms_spec (ws := wsX4_layOut) B.pre
  have hK0 := hK
  have hown0 : s.vm.findClass RX4 = some m.cls := findClass_of_methodNamed B.named
  have hlocks := B.notSynchronized
  have hinX4 : ∀ w ∈ u_ws RX4 TX4 12, w ∈ wsX4_layOut := (fun _ h9 => List.mem_cons_of_mem _ (List.mem_append_left _ (List.mem_append_left _ (List.mem_append_left _ (List.mem_append_left _ (List.mem_append_right _ h9))))))
  subst hsz
  have hD := hD0.self (sz := s.heap.size)
  generalize hAe : va_A (wX ad cA σ) s.heap.size = A at hD hT ⊢
  have hA : ∀ q : Nat, s.heap.size ≤ q → A q := fun q h => by rw [← hAe]; exact Or.inr h
  have hS : va_S A s.heap s.heap [] := va_S.rf
  have hl := lv_entry ([.ref (ad o)]) (n := 3) (Nat.le_of_ble_eq_true rfl)
  rw [lg_entry_eq]
  generalize (lg_sl ([.ref (ad o)]) ++ List.replicate (3 - (lg_sl ([.ref (ad o)])).length) Slot.unset).toArray = ls at hl ⊢
  have hl : lv_has ls 3 [(0, .ref (ad o))] := hl
  have hts := dr_words hts0 (s.drawn)
  have hK := gKd hK0 (s.drawn)
  have hown : (s.setDrawn (s.drawn)).vm.findClass RX4 = some m.cls := hown0
  refine lv_iconst (v := 0) hx hb dX4_layOut_0 (by decide) ?_
  refine lv_istore_n (lv' := [(1, .int 0), (0, .ref (ad o))]) hx hb dX4_layOut_1 rfl hl (by decide) rfl (fun ls hl => ?_)
  refine (fun (h : ∀ (n : Nat) (i1 : Int32) (σ2x : gs) (d2 : Drawn) (H : Heap) (locs : List Loc) (ls : Array Slot), ((4 : Int32).toInt - i1.toInt).toNat < n → 0 ≤ i1 → InvX σ2x → gFr [0, 5, 7, 24, 28] σ σ2x → s.drawn.sameBut d2 lw_cs → va_P (dC, dI) vwCl (wX ad cA σ2x) H → va_D A (wX ad cA σ2x) → va_S A s.heap H locs → lv_has ls 3 [(1, .int i1), (0, .ref (ad o))] → W p l e _ (s.setDrawn d2) m _ below meth c H locs _ _ _ (F0 m 2 ls [])) => h _ 0 σ _ _ _ _ (Nat.lt_succ_self _) (by decide) hI (gFr.rfl (L := [0, 5, 7, 24, 28]) (σ := σ)) hd0 hP hD hS (lv_sub hl [0, 1] rfl)) ?_
  intro n2
  induction n2 with
  | zero => intro i1 σ2x d2 H locs ls hm; exact absurd hm (Nat.not_lt_zero _)
  | succ n2 ih2 =>
    intro i1 σ2x d2 H locs ls hm2 iv2_0 hIσ2x frσ2x hd0 hP hD hS hl
    have hts := dr_words hts0 (d2)
    have hK := gKd hK0 (d2)
    have hown : (s.setDrawn (d2)).vm.findClass RX4 = some m.cls := hown0
    refine lv_iload_n hx hb dX4_layOut_2 rfl (lv_at hl 0 rfl) ?_
    refine lv_aload_n hx hb dX4_layOut_3 rfl (lv_at hl 1 rfl) ?_
    refine va_get (D := (dC, dI)) (ci := 3) (v := .int ((σ o).1 4)) (C := RX4) (T := TX4) (N := 12) hx hb hts hinX4 hown hK hP o (at_3 ho) rfl 4 (by decide) (hts (.fieldLink RX4 31 "BondCalendars$Desk" "bondCount" "I") (by decide +kernel)) (fun _ h9 => h9) (congrArg (fun z => some (Value.int z)) (show (σ2x o).1 4 = ((σ o).1 4) from by rw [frσ2x o (by rw [ho]; decide)])) dX4_layOut_4 ?_
    refine lv_icmp_ge (tgt := 42) hx hb dX4_layOut_7 (by decide) (fun c_1 => ?_) (fun c_1 => ?_)
    · refine lv_iconst (v := 0) hx hb dX4_layOut_42 (by decide) ?_
      refine lv_istore_n (lv' := [(1, .int 0), (0, .ref (ad o))]) hx hb dX4_layOut_43 rfl hl (by decide) rfl (fun ls hl => ?_)
      refine (fun (h : ∀ (n : Nat) (k1 : Int32) (σ44x : gs) (d44 : Drawn) (H : Heap) (locs : List Loc) (ls : Array Slot), ((6 : Int32).toInt - k1.toInt).toNat < n → 0 ≤ k1 → InvX σ44x → gFr [0, 5, 7, 24, 28] σ σ44x → s.drawn.sameBut d44 lw_cs → va_P (dC, dI) vwCl (wX ad cA σ44x) H → va_D A (wX ad cA σ44x) → va_S A s.heap H locs → lv_has ls 3 [(1, .int k1), (0, .ref (ad o))] → W p l e _ (s.setDrawn d44) m _ below meth c H locs _ _ _ (F0 m 44 ls [])) => h _ 0 σ2x _ _ _ _ (Nat.lt_succ_self _) (by decide) hIσ2x frσ2x hd0 hP hD hS (lv_sub hl [0, 1] rfl)) ?_
      intro n44
      induction n44 with
      | zero => intro k1 σ44x d44 H locs ls hm; exact absurd hm (Nat.not_lt_zero _)
      | succ n44 ih44 =>
        intro k1 σ44x d44 H locs ls hm44 iv44_0 hIσ44x frσ44x hd0 hP hD hS hl
        have hts := dr_words hts0 (d44)
        have hK := gKd hK0 (d44)
        have hown : (s.setDrawn (d44)).vm.findClass RX4 = some m.cls := hown0
        refine lv_iload_n hx hb dX4_layOut_44 rfl (lv_at hl 0 rfl) ?_
        refine lv_aload_n hx hb dX4_layOut_45 rfl (lv_at hl 1 rfl) ?_
        refine va_get (D := (dC, dI)) (ci := 3) (v := .int ((σ o).1 9)) (C := RX4) (T := TX4) (N := 12) hx hb hts hinX4 hown hK hP o (at_3 ho) rfl 9 (by decide) (hts (.fieldLink RX4 50 "BondCalendars$Desk" "quoteCount" "I") (by decide +kernel)) (fun _ h9 => h9) (congrArg (fun z => some (Value.int z)) (show (σ44x o).1 9 = ((σ o).1 9) from by rw [frσ44x o (by rw [ho]; decide)])) dX4_layOut_46 ?_
        refine lv_icmp_ge (tgt := 108) hx hb dX4_layOut_49 (by decide) (fun c_2 => ?_) (fun c_2 => ?_)
        · refine W.endD hd0 ?_
          exact W.vret hx hb hr (fun t ht hW => ⟨⟨σ44x, rfl, ⟨hIσ44x, frσ44x, trivial⟩, ⟨by rw [ht]; exact hP, hD⟩⟩, hS.F ht⟩) hS.2.2 dX4_layOut_108
        · refine lv_iload_n hx hb dX4_layOut_52 rfl (lv_at hl 0 rfl) ?_
          refine lv_aload_n hx hb dX4_layOut_53 rfl (lv_at hl 1 rfl) ?_
          refine va_get (D := (dC, dI)) (ci := 3) (v := .ref (ad (o + 32))) (C := RX4) (T := TX4) (N := 12) hx hb hts hinX4 hown hK hP o (at_3 ho) rfl 5 (by decide) (hts (.fieldLink RX4 36 "BondCalendars$Desk" "quoted" "[LBondCalendars$Settle;") (by decide +kernel)) (fun _ h9 => h9) rfl dX4_layOut_54 ?_
          refine va_alen (v := 6) hx hb hK hP ((o + 32)) ((o + 32)) (at_29 (kk_3_32 ho)) (ty_29 (kk_3_32 ho)) rfl dX4_layOut_57 ?_
          refine lv_icmp_ge (tgt := 108) hx hb dX4_layOut_58 (by decide) (fun c_3 => ?_) (fun c_3 => ?_)
          · refine W.endD hd0 ?_
            exact W.vret hx hb hr (fun t ht hW => ⟨⟨σ44x, rfl, ⟨hIσ44x, frσ44x, trivial⟩, ⟨by rw [ht]; exact hP, hD⟩⟩, hS.F ht⟩) hS.2.2 dX4_layOut_108
          · refine lv_aload_n hx hb dX4_layOut_61 rfl (lv_at hl 1 rfl) ?_
            refine va_get (D := (dC, dI)) (ci := 3) (v := .ref (ad (o + 57))) (C := RX4) (T := TX4) (N := 12) hx hb hts hinX4 hown hK hP o (at_3 ho) rfl 6 (by decide) (hts (.fieldLink RX4 40 "BondCalendars$Desk" "quotedBonds" "[I") (by decide +kernel)) (fun _ h9 => h9) rfl dX4_layOut_62 ?_
            refine lv_iload_n hx hb dX4_layOut_65 rfl (lv_at hl 0 rfl) ?_
            refine va_iald hx hb hK hP ((o + 57)) ((o + 57)) (at_30 (kk_3_57 ho)) (ty_30 (kk_3_57 ho)) (gin (N := 6) (by decide) iv44_0 (Int32.not_le.mp c_3)) dX4_layOut_66 ?_
            refine lv_topi (fun x_4 _ => ?_)
            refine lv_istore_n (lv' := [(2, .int x_4), (1, .int k1), (0, .ref (ad o))]) hx hb dX4_layOut_67 rfl hl (by decide) rfl (fun ls hl => ?_)
            refine lv_iload_n hx hb dX4_layOut_68 rfl (lv_at hl 0 rfl) ?_
            refine lv_if_lt (tgt := 102) hx hb dX4_layOut_69 (by decide) (fun c_5 => ?_) (fun c_5 => ?_)
            · obtain ⟨x_6, ex_6⟩ : ∃ zz : Int32, zz = k1 + 1 := ⟨_, rfl⟩
              refine lv_iinc (v := x_6) (lv' := [(1, .int x_6), (2, .int x_4), (0, .ref (ad o))]) hx hb dX4_layOut_102 hl (k := 1) rfl (by rw [ex_6]; rfl) (by decide) rfl (fun ls hl => ?_)
              refine lv_goto (tgt := 44) hx hb dX4_layOut_105 (by decide) ?_
              exact ih44 x_6 σ44x _ _ _ _ (cnt_m iv44_0 (Int32.not_le.mp c_3) hm44 ex_6) (cnt_0 iv44_0 (Int32.not_le.mp c_3) ex_6) hIσ44x frσ44x hd0 hP hD hS (lv_sub hl [0, 2] rfl)
            · refine lv_iload_n hx hb dX4_layOut_72 rfl (lv_at hl 0 rfl) ?_
              refine lv_aload_n hx hb dX4_layOut_73 rfl (lv_at hl 2 rfl) ?_
              refine va_get (D := (dC, dI)) (ci := 3) (v := .ref (ad (o + 3))) (C := RX4) (T := TX4) (N := 12) hx hb hts hinX4 hown hK hP o (at_3 ho) rfl 3 (by decide) (hts (.fieldLink RX4 27 "BondCalendars$Desk" "bonds" "[LBondCalendars$Bond;") (by decide +kernel)) (fun _ h9 => h9) rfl dX4_layOut_74 ?_
              refine va_alen (v := 4) hx hb hK hP ((o + 3)) ((o + 3)) (at_26 (kk_3_3 ho)) (ty_26 (kk_3_3 ho)) rfl dX4_layOut_77 ?_
              refine lv_icmp_ge (tgt := 102) hx hb dX4_layOut_78 (by decide) (fun c_7 => ?_) (fun c_7 => ?_)
              · obtain ⟨x_8, ex_8⟩ : ∃ zz : Int32, zz = k1 + 1 := ⟨_, rfl⟩
                refine lv_iinc (v := x_8) (lv' := [(1, .int x_8), (2, .int x_4), (0, .ref (ad o))]) hx hb dX4_layOut_102 hl (k := 1) rfl (by rw [ex_8]; rfl) (by decide) rfl (fun ls hl => ?_)
                refine lv_goto (tgt := 44) hx hb dX4_layOut_105 (by decide) ?_
                exact ih44 x_8 σ44x _ _ _ _ (cnt_m iv44_0 (Int32.not_le.mp c_3) hm44 ex_8) (cnt_0 iv44_0 (Int32.not_le.mp c_3) ex_8) hIσ44x frσ44x hd0 hP hD hS (lv_sub hl [0, 2] rfl)
              · refine lv_aload_n hx hb dX4_layOut_81 rfl (lv_at hl 2 rfl) ?_
                refine va_get (D := (dC, dI)) (ci := 3) (v := .ref (ad (o + 32))) (C := RX4) (T := TX4) (N := 12) hx hb hts hinX4 hown hK hP o (at_3 ho) rfl 5 (by decide) (hts (.fieldLink RX4 36 "BondCalendars$Desk" "quoted" "[LBondCalendars$Settle;") (by decide +kernel)) (fun _ h9 => h9) rfl dX4_layOut_82 ?_
                refine lv_iload_n hx hb dX4_layOut_85 rfl (lv_at hl 1 rfl) ?_
                have hi_9 : vp_in k1 6 := (gin (N := 6) (by decide) iv44_0 (Int32.not_le.mp c_3))
                refine va_aldq hx hb hK hP ((o + 32)) ((o + 32)) (at_29 (kk_3_32 ho)) (ty_29 (kk_3_32 ho)) hi_9 dX4_layOut_86 ?_
                refine (fun h => (va_rd_29 (ad := ad) (c := (o + 32)) hi_9) ▸ h) ?_
                obtain ⟨c_10, hc_11, ecc_10⟩ : ∃ z, kX z = 7 ∧ (o + 32) + 1 + 4 * k1.toNatClampNeg = z := ⟨_, kr_29 (kk_3_32 ho) (Nat.not_le.mp fun q => hi_9 (Or.inr q)), rfl⟩
                rw [ecc_10]
                refine lv_aload_n hx hb dX4_layOut_87 rfl (lv_at hl 2 rfl) ?_
                refine va_get (D := (dC, dI)) (ci := 3) (v := .ref (ad (o + 3))) (C := RX4) (T := TX4) (N := 12) hx hb hts hinX4 hown hK hP o (at_3 ho) rfl 3 (by decide) (hts (.fieldLink RX4 27 "BondCalendars$Desk" "bonds" "[LBondCalendars$Bond;") (by decide +kernel)) (fun _ h9 => h9) rfl dX4_layOut_88 ?_
                refine lv_iload_n hx hb dX4_layOut_91 rfl (lv_at hl 0 rfl) ?_
                have hi_12 : vp_in x_4 4 := (gin (N := 4) (by decide) (Int32.not_lt.mp c_5) (Int32.not_le.mp c_7))
                refine va_aldq hx hb hK hP ((o + 3)) ((o + 3)) (at_26 (kk_3_3 ho)) (ty_26 (kk_3_3 ho)) hi_12 dX4_layOut_92 ?_
                refine (fun h => (va_rd_26 (ad := ad) (c := (o + 3)) hi_12) ▸ h) ?_
                obtain ⟨c_13, hc_14, ecc_13⟩ : ∃ z, kX z = 0 ∧ (o + 3) + 1 + 7 * x_4.toNatClampNeg = z := ⟨_, kr_26 (kk_3_3 ho) (Nat.not_le.mp fun q => hi_12 (Or.inr q)), rfl⟩
                rw [ecc_13]
                refine lv_aload_n hx hb dX4_layOut_93 rfl (lv_at hl 2 rfl) ?_
                refine va_get (D := (dC, dI)) (ci := 3) (v := .ref (ad (o + 58))) (C := RX4) (T := TX4) (N := 12) hx hb hts hinX4 hown hK hP o (at_3 ho) rfl 7 (by decide) (hts (.fieldLink RX4 44 "BondCalendars$Desk" "quotedDays" "[I") (by decide +kernel)) (fun _ h9 => h9) rfl dX4_layOut_94 ?_
                refine lv_iload_n hx hb dX4_layOut_97 rfl (lv_at hl 1 rfl) ?_
                refine va_iald hx hb hK hP ((o + 58)) ((o + 58)) (at_30 (kk_3_58 ho)) (ty_30 (kk_3_58 ho)) (gin (N := 6) (by decide) iv44_0 (Int32.not_le.mp c_3)) dX4_layOut_98 ?_
                refine lv_topi (fun x_15 _ => ?_)
                have hF := gFree hD hS hA
                refine va_callvD hd0 (va_runV_D (As := [.ref (ad c_13), .int x_15]) (rest := []) ⟨hx, hb, hml, hown, hts⟩ (n_X8_open l dC dI ad cA adK adV H.size σ44x hIσ44x c_10 hc_11 c_13 hc_14 x_15) (cwV 2 hts gX4_layOut_X8_open rfl rfl rfl (by decide +kernel) ⟨Nat.le_of_ble_eq_true rfl, Nat.le_of_ble_eq_true rfl⟩) ⟨gBlind, va_recv hK hP (ci := 7) (q0 := c_10) rfl (at_7 hc_11), gStart (As := [.ref (ad c_10), .ref (ad c_13), .int x_15]) hP hD hK0 hT hS hF (d44)⟩ rfl rfl hl.1 rfl (lv_room (Nat.le_of_ble_eq_true rfl)) dX4_layOut_99 ⟨Nat.le_of_ble_eq_true rfl, Nat.le_of_ble_eq_true rfl⟩) hS (fun q _ h => hF q h) hF (fun σ1 t H locs ht hvm hw hB hz1 hk1 hS d_17 hd0 => ?_)
                have hts := dr_words hts0 (d_17)
                have hK := gKd hK0 (d_17)
                have hown : (s.setDrawn (d_17)).vm.findClass RX4 = some m.cls := hown0
                obtain ⟨hP, hD⟩ := gBack hF ht hB
                obtain ⟨hIσ1, fcσ1, hp_18⟩ := hw
                obtain ⟨x_19, ex_19⟩ : ∃ zz : Int32, zz = k1 + 1 := ⟨_, rfl⟩
                refine lv_iinc (v := x_19) (lv' := [(1, .int x_19), (2, .int x_4), (0, .ref (ad o))]) hx hb dX4_layOut_102 hl (k := 1) rfl (by rw [ex_19]; rfl) (by decide) rfl (fun ls hl => ?_)
                refine lv_goto (tgt := 44) hx hb dX4_layOut_105 (by decide) ?_
                exact ih44 x_19 σ1 _ _ _ _ (cnt_m iv44_0 (Int32.not_le.mp c_3) hm44 ex_19) (cnt_0 iv44_0 (Int32.not_le.mp c_3) ex_19) hIσ1 (gFr.tr frσ44x fcσ1 (by decide)) hd0 hP hD hS (lv_sub hl [0, 2] rfl)
    · refine lv_iload_n hx hb dX4_layOut_10 rfl (lv_at hl 0 rfl) ?_
      refine lv_aload_n hx hb dX4_layOut_11 rfl (lv_at hl 1 rfl) ?_
      refine va_get (D := (dC, dI)) (ci := 3) (v := .ref (ad (o + 3))) (C := RX4) (T := TX4) (N := 12) hx hb hts hinX4 hown hK hP o (at_3 ho) rfl 3 (by decide) (hts (.fieldLink RX4 27 "BondCalendars$Desk" "bonds" "[LBondCalendars$Bond;") (by decide +kernel)) (fun _ h9 => h9) rfl dX4_layOut_12 ?_
      refine va_alen (v := 4) hx hb hK hP ((o + 3)) ((o + 3)) (at_26 (kk_3_3 ho)) (ty_26 (kk_3_3 ho)) rfl dX4_layOut_15 ?_
      refine lv_icmp_ge (tgt := 42) hx hb dX4_layOut_16 (by decide) (fun c_20 => ?_) (fun c_20 => ?_)
      · refine lv_iconst (v := 0) hx hb dX4_layOut_42 (by decide) ?_
        refine lv_istore_n (lv' := [(1, .int 0), (0, .ref (ad o))]) hx hb dX4_layOut_43 rfl hl (by decide) rfl (fun ls hl => ?_)
        refine (fun (h : ∀ (n : Nat) (k1 : Int32) (σ44x : gs) (d44 : Drawn) (H : Heap) (locs : List Loc) (ls : Array Slot), ((6 : Int32).toInt - k1.toInt).toNat < n → 0 ≤ k1 → InvX σ44x → gFr [0, 5, 7, 24, 28] σ σ44x → s.drawn.sameBut d44 lw_cs → va_P (dC, dI) vwCl (wX ad cA σ44x) H → va_D A (wX ad cA σ44x) → va_S A s.heap H locs → lv_has ls 3 [(1, .int k1), (0, .ref (ad o))] → W p l e _ (s.setDrawn d44) m _ below meth c H locs _ _ _ (F0 m 44 ls [])) => h _ 0 σ2x _ _ _ _ (Nat.lt_succ_self _) (by decide) hIσ2x frσ2x hd0 hP hD hS (lv_sub hl [0, 1] rfl)) ?_
        intro n44
        induction n44 with
        | zero => intro k1 σ44x d44 H locs ls hm; exact absurd hm (Nat.not_lt_zero _)
        | succ n44 ih44 =>
          intro k1 σ44x d44 H locs ls hm44 iv44_0 hIσ44x frσ44x hd0 hP hD hS hl
          have hts := dr_words hts0 (d44)
          have hK := gKd hK0 (d44)
          have hown : (s.setDrawn (d44)).vm.findClass RX4 = some m.cls := hown0
          refine lv_iload_n hx hb dX4_layOut_44 rfl (lv_at hl 0 rfl) ?_
          refine lv_aload_n hx hb dX4_layOut_45 rfl (lv_at hl 1 rfl) ?_
          refine va_get (D := (dC, dI)) (ci := 3) (v := .int ((σ o).1 9)) (C := RX4) (T := TX4) (N := 12) hx hb hts hinX4 hown hK hP o (at_3 ho) rfl 9 (by decide) (hts (.fieldLink RX4 50 "BondCalendars$Desk" "quoteCount" "I") (by decide +kernel)) (fun _ h9 => h9) (congrArg (fun z => some (Value.int z)) (show (σ44x o).1 9 = ((σ o).1 9) from by rw [frσ44x o (by rw [ho]; decide)])) dX4_layOut_46 ?_
          refine lv_icmp_ge (tgt := 108) hx hb dX4_layOut_49 (by decide) (fun c_21 => ?_) (fun c_21 => ?_)
          · refine W.endD hd0 ?_
            exact W.vret hx hb hr (fun t ht hW => ⟨⟨σ44x, rfl, ⟨hIσ44x, frσ44x, trivial⟩, ⟨by rw [ht]; exact hP, hD⟩⟩, hS.F ht⟩) hS.2.2 dX4_layOut_108
          · refine lv_iload_n hx hb dX4_layOut_52 rfl (lv_at hl 0 rfl) ?_
            refine lv_aload_n hx hb dX4_layOut_53 rfl (lv_at hl 1 rfl) ?_
            refine va_get (D := (dC, dI)) (ci := 3) (v := .ref (ad (o + 32))) (C := RX4) (T := TX4) (N := 12) hx hb hts hinX4 hown hK hP o (at_3 ho) rfl 5 (by decide) (hts (.fieldLink RX4 36 "BondCalendars$Desk" "quoted" "[LBondCalendars$Settle;") (by decide +kernel)) (fun _ h9 => h9) rfl dX4_layOut_54 ?_
            refine va_alen (v := 6) hx hb hK hP ((o + 32)) ((o + 32)) (at_29 (kk_3_32 ho)) (ty_29 (kk_3_32 ho)) rfl dX4_layOut_57 ?_
            refine lv_icmp_ge (tgt := 108) hx hb dX4_layOut_58 (by decide) (fun c_22 => ?_) (fun c_22 => ?_)
            · refine W.endD hd0 ?_
              exact W.vret hx hb hr (fun t ht hW => ⟨⟨σ44x, rfl, ⟨hIσ44x, frσ44x, trivial⟩, ⟨by rw [ht]; exact hP, hD⟩⟩, hS.F ht⟩) hS.2.2 dX4_layOut_108
            · refine lv_aload_n hx hb dX4_layOut_61 rfl (lv_at hl 1 rfl) ?_
              refine va_get (D := (dC, dI)) (ci := 3) (v := .ref (ad (o + 57))) (C := RX4) (T := TX4) (N := 12) hx hb hts hinX4 hown hK hP o (at_3 ho) rfl 6 (by decide) (hts (.fieldLink RX4 40 "BondCalendars$Desk" "quotedBonds" "[I") (by decide +kernel)) (fun _ h9 => h9) rfl dX4_layOut_62 ?_
              refine lv_iload_n hx hb dX4_layOut_65 rfl (lv_at hl 0 rfl) ?_
              refine va_iald hx hb hK hP ((o + 57)) ((o + 57)) (at_30 (kk_3_57 ho)) (ty_30 (kk_3_57 ho)) (gin (N := 6) (by decide) iv44_0 (Int32.not_le.mp c_22)) dX4_layOut_66 ?_
              refine lv_topi (fun x_23 _ => ?_)
              refine lv_istore_n (lv' := [(2, .int x_23), (1, .int k1), (0, .ref (ad o))]) hx hb dX4_layOut_67 rfl hl (by decide) rfl (fun ls hl => ?_)
              refine lv_iload_n hx hb dX4_layOut_68 rfl (lv_at hl 0 rfl) ?_
              refine lv_if_lt (tgt := 102) hx hb dX4_layOut_69 (by decide) (fun c_24 => ?_) (fun c_24 => ?_)
              · obtain ⟨x_25, ex_25⟩ : ∃ zz : Int32, zz = k1 + 1 := ⟨_, rfl⟩
                refine lv_iinc (v := x_25) (lv' := [(1, .int x_25), (2, .int x_23), (0, .ref (ad o))]) hx hb dX4_layOut_102 hl (k := 1) rfl (by rw [ex_25]; rfl) (by decide) rfl (fun ls hl => ?_)
                refine lv_goto (tgt := 44) hx hb dX4_layOut_105 (by decide) ?_
                exact ih44 x_25 σ44x _ _ _ _ (cnt_m iv44_0 (Int32.not_le.mp c_22) hm44 ex_25) (cnt_0 iv44_0 (Int32.not_le.mp c_22) ex_25) hIσ44x frσ44x hd0 hP hD hS (lv_sub hl [0, 2] rfl)
              · refine lv_iload_n hx hb dX4_layOut_72 rfl (lv_at hl 0 rfl) ?_
                refine lv_aload_n hx hb dX4_layOut_73 rfl (lv_at hl 2 rfl) ?_
                refine va_get (D := (dC, dI)) (ci := 3) (v := .ref (ad (o + 3))) (C := RX4) (T := TX4) (N := 12) hx hb hts hinX4 hown hK hP o (at_3 ho) rfl 3 (by decide) (hts (.fieldLink RX4 27 "BondCalendars$Desk" "bonds" "[LBondCalendars$Bond;") (by decide +kernel)) (fun _ h9 => h9) rfl dX4_layOut_74 ?_
                refine va_alen (v := 4) hx hb hK hP ((o + 3)) ((o + 3)) (at_26 (kk_3_3 ho)) (ty_26 (kk_3_3 ho)) rfl dX4_layOut_77 ?_
                refine lv_icmp_ge (tgt := 102) hx hb dX4_layOut_78 (by decide) (fun c_26 => ?_) (fun c_26 => ?_)
                · obtain ⟨x_27, ex_27⟩ : ∃ zz : Int32, zz = k1 + 1 := ⟨_, rfl⟩
                  refine lv_iinc (v := x_27) (lv' := [(1, .int x_27), (2, .int x_23), (0, .ref (ad o))]) hx hb dX4_layOut_102 hl (k := 1) rfl (by rw [ex_27]; rfl) (by decide) rfl (fun ls hl => ?_)
                  refine lv_goto (tgt := 44) hx hb dX4_layOut_105 (by decide) ?_
                  exact ih44 x_27 σ44x _ _ _ _ (cnt_m iv44_0 (Int32.not_le.mp c_22) hm44 ex_27) (cnt_0 iv44_0 (Int32.not_le.mp c_22) ex_27) hIσ44x frσ44x hd0 hP hD hS (lv_sub hl [0, 2] rfl)
                · refine lv_aload_n hx hb dX4_layOut_81 rfl (lv_at hl 2 rfl) ?_
                  refine va_get (D := (dC, dI)) (ci := 3) (v := .ref (ad (o + 32))) (C := RX4) (T := TX4) (N := 12) hx hb hts hinX4 hown hK hP o (at_3 ho) rfl 5 (by decide) (hts (.fieldLink RX4 36 "BondCalendars$Desk" "quoted" "[LBondCalendars$Settle;") (by decide +kernel)) (fun _ h9 => h9) rfl dX4_layOut_82 ?_
                  refine lv_iload_n hx hb dX4_layOut_85 rfl (lv_at hl 1 rfl) ?_
                  have hi_28 : vp_in k1 6 := (gin (N := 6) (by decide) iv44_0 (Int32.not_le.mp c_22))
                  refine va_aldq hx hb hK hP ((o + 32)) ((o + 32)) (at_29 (kk_3_32 ho)) (ty_29 (kk_3_32 ho)) hi_28 dX4_layOut_86 ?_
                  refine (fun h => (va_rd_29 (ad := ad) (c := (o + 32)) hi_28) ▸ h) ?_
                  obtain ⟨c_29, hc_30, ecc_29⟩ : ∃ z, kX z = 7 ∧ (o + 32) + 1 + 4 * k1.toNatClampNeg = z := ⟨_, kr_29 (kk_3_32 ho) (Nat.not_le.mp fun q => hi_28 (Or.inr q)), rfl⟩
                  rw [ecc_29]
                  refine lv_aload_n hx hb dX4_layOut_87 rfl (lv_at hl 2 rfl) ?_
                  refine va_get (D := (dC, dI)) (ci := 3) (v := .ref (ad (o + 3))) (C := RX4) (T := TX4) (N := 12) hx hb hts hinX4 hown hK hP o (at_3 ho) rfl 3 (by decide) (hts (.fieldLink RX4 27 "BondCalendars$Desk" "bonds" "[LBondCalendars$Bond;") (by decide +kernel)) (fun _ h9 => h9) rfl dX4_layOut_88 ?_
                  refine lv_iload_n hx hb dX4_layOut_91 rfl (lv_at hl 0 rfl) ?_
                  have hi_31 : vp_in x_23 4 := (gin (N := 4) (by decide) (Int32.not_lt.mp c_24) (Int32.not_le.mp c_26))
                  refine va_aldq hx hb hK hP ((o + 3)) ((o + 3)) (at_26 (kk_3_3 ho)) (ty_26 (kk_3_3 ho)) hi_31 dX4_layOut_92 ?_
                  refine (fun h => (va_rd_26 (ad := ad) (c := (o + 3)) hi_31) ▸ h) ?_
                  obtain ⟨c_32, hc_33, ecc_32⟩ : ∃ z, kX z = 0 ∧ (o + 3) + 1 + 7 * x_23.toNatClampNeg = z := ⟨_, kr_26 (kk_3_3 ho) (Nat.not_le.mp fun q => hi_31 (Or.inr q)), rfl⟩
                  rw [ecc_32]
                  refine lv_aload_n hx hb dX4_layOut_93 rfl (lv_at hl 2 rfl) ?_
                  refine va_get (D := (dC, dI)) (ci := 3) (v := .ref (ad (o + 58))) (C := RX4) (T := TX4) (N := 12) hx hb hts hinX4 hown hK hP o (at_3 ho) rfl 7 (by decide) (hts (.fieldLink RX4 44 "BondCalendars$Desk" "quotedDays" "[I") (by decide +kernel)) (fun _ h9 => h9) rfl dX4_layOut_94 ?_
                  refine lv_iload_n hx hb dX4_layOut_97 rfl (lv_at hl 1 rfl) ?_
                  refine va_iald hx hb hK hP ((o + 58)) ((o + 58)) (at_30 (kk_3_58 ho)) (ty_30 (kk_3_58 ho)) (gin (N := 6) (by decide) iv44_0 (Int32.not_le.mp c_22)) dX4_layOut_98 ?_
                  refine lv_topi (fun x_34 _ => ?_)
                  have hF := gFree hD hS hA
                  refine va_callvD hd0 (va_runV_D (As := [.ref (ad c_32), .int x_34]) (rest := []) ⟨hx, hb, hml, hown, hts⟩ (n_X8_open l dC dI ad cA adK adV H.size σ44x hIσ44x c_29 hc_30 c_32 hc_33 x_34) (cwV 2 hts gX4_layOut_X8_open rfl rfl rfl (by decide +kernel) ⟨Nat.le_of_ble_eq_true rfl, Nat.le_of_ble_eq_true rfl⟩) ⟨gBlind, va_recv hK hP (ci := 7) (q0 := c_29) rfl (at_7 hc_30), gStart (As := [.ref (ad c_29), .ref (ad c_32), .int x_34]) hP hD hK0 hT hS hF (d44)⟩ rfl rfl hl.1 rfl (lv_room (Nat.le_of_ble_eq_true rfl)) dX4_layOut_99 ⟨Nat.le_of_ble_eq_true rfl, Nat.le_of_ble_eq_true rfl⟩) hS (fun q _ h => hF q h) hF (fun σ2 t H locs ht hvm hw hB hz1 hk1 hS d_36 hd0 => ?_)
                  have hts := dr_words hts0 (d_36)
                  have hK := gKd hK0 (d_36)
                  have hown : (s.setDrawn (d_36)).vm.findClass RX4 = some m.cls := hown0
                  obtain ⟨hP, hD⟩ := gBack hF ht hB
                  obtain ⟨hIσ2, fcσ2, hp_37⟩ := hw
                  obtain ⟨x_38, ex_38⟩ : ∃ zz : Int32, zz = k1 + 1 := ⟨_, rfl⟩
                  refine lv_iinc (v := x_38) (lv' := [(1, .int x_38), (2, .int x_23), (0, .ref (ad o))]) hx hb dX4_layOut_102 hl (k := 1) rfl (by rw [ex_38]; rfl) (by decide) rfl (fun ls hl => ?_)
                  refine lv_goto (tgt := 44) hx hb dX4_layOut_105 (by decide) ?_
                  exact ih44 x_38 σ2 _ _ _ _ (cnt_m iv44_0 (Int32.not_le.mp c_22) hm44 ex_38) (cnt_0 iv44_0 (Int32.not_le.mp c_22) ex_38) hIσ2 (gFr.tr frσ44x fcσ2 (by decide)) hd0 hP hD hS (lv_sub hl [0, 2] rfl)
      · refine lv_aload_n hx hb dX4_layOut_19 rfl (lv_at hl 1 rfl) ?_
        refine va_get (D := (dC, dI)) (ci := 3) (v := .ref (ad (o + 3))) (C := RX4) (T := TX4) (N := 12) hx hb hts hinX4 hown hK hP o (at_3 ho) rfl 3 (by decide) (hts (.fieldLink RX4 27 "BondCalendars$Desk" "bonds" "[LBondCalendars$Bond;") (by decide +kernel)) (fun _ h9 => h9) rfl dX4_layOut_20 ?_
        refine lv_iload_n hx hb dX4_layOut_23 rfl (lv_at hl 0 rfl) ?_
        have hi_39 : vp_in i1 4 := (gin (N := 4) (by decide) iv2_0 (Int32.not_le.mp c_20))
        refine va_aldq hx hb hK hP ((o + 3)) ((o + 3)) (at_26 (kk_3_3 ho)) (ty_26 (kk_3_3 ho)) hi_39 dX4_layOut_24 ?_
        refine (fun h => (va_rd_26 (ad := ad) (c := (o + 3)) hi_39) ▸ h) ?_
        obtain ⟨c_40, hc_41, ecc_40⟩ : ∃ z, kX z = 0 ∧ (o + 3) + 1 + 7 * i1.toNatClampNeg = z := ⟨_, kr_26 (kk_3_3 ho) (Nat.not_le.mp fun q => hi_39 (Or.inr q)), rfl⟩
        rw [ecc_40]
        refine lv_aload_n hx hb dX4_layOut_25 rfl (lv_at hl 1 rfl) ?_
        refine va_get (D := (dC, dI)) (ci := 3) (v := .ref (ad (o + 1))) (C := RX4) (T := TX4) (N := 12) hx hb hts hinX4 hown hK hP o (at_3 ho) rfl 2 (by decide) (hts (.fieldLink RX4 21 "BondCalendars$Desk" "holidays" "LBondCalendars$Holidays;") (by decide +kernel)) (fun _ h9 => h9) rfl dX4_layOut_26 ?_
        refine lv_aload_n hx hb dX4_layOut_29 rfl (lv_at hl 1 rfl) ?_
        refine va_get (D := (dC, dI)) (ci := 3) (v := .ref (ad (o + 60))) (C := RX4) (T := TX4) (N := 12) hx hb hts hinX4 hown hK hP o (at_3 ho) rfl 11 (by decide) (hts (.fieldLink RX4 59 "BondCalendars$Desk" "scratch" "LBondCalendars$Ratio;") (by decide +kernel)) (fun _ h9 => h9) rfl dX4_layOut_30 ?_
        have hF := gFree hD hS hA
        refine va_callvD hd0 (va_runV_D (As := [.ref (ad (o + 1)), .ref (ad (o + 60))]) (rest := []) ⟨hx, hb, hml, hown, hts⟩ (n_X0_layPeriods l dC dI ad cA adK adV H.size σ2x hIσ2x c_40 hc_41 ((o + 1)) (kk_3_1 ho) ((o + 60)) (kk_3_60 ho)) (cwV 2 hts gX4_layOut_X0_layPeriods rfl rfl rfl (by decide +kernel) ⟨Nat.le_of_ble_eq_true rfl, Nat.le_of_ble_eq_true rfl⟩) ⟨gBlind, va_recv hK hP (ci := 0) (q0 := c_40) rfl (at_0 hc_41), gStart (As := [.ref (ad c_40), .ref (ad (o + 1)), .ref (ad (o + 60))]) hP hD hK0 hT hS hF (d2)⟩ rfl rfl hl.1 rfl (lv_room (Nat.le_of_ble_eq_true rfl)) dX4_layOut_33 ⟨Nat.le_of_ble_eq_true rfl, Nat.le_of_ble_eq_true rfl⟩) hS (fun q _ h => hF q h) hF (fun σ3 t H locs ht hvm hw hB hz1 hk1 hS d_43 hd0 => ?_)
        have hts := dr_words hts0 (d_43)
        have hK := gKd hK0 (d_43)
        have hown : (s.setDrawn (d_43)).vm.findClass RX4 = some m.cls := hown0
        obtain ⟨hP, hD⟩ := gBack hF ht hB
        obtain ⟨hIσ3, fcσ3, hp_44⟩ := hw
        obtain ⟨x_45, ex_45⟩ : ∃ zz : Int32, zz = i1 + 1 := ⟨_, rfl⟩
        refine lv_iinc (v := x_45) (lv' := [(1, .int x_45), (0, .ref (ad o))]) hx hb dX4_layOut_36 hl (k := 0) rfl (by rw [ex_45]; rfl) (by decide) rfl (fun ls hl => ?_)
        refine lv_goto (tgt := 2) hx hb dX4_layOut_39 (by decide) ?_
        exact ih2 x_45 σ3 _ _ _ _ (cnt_m iv2_0 (Int32.not_le.mp c_20) hm2 ex_45) (cnt_0 iv2_0 (Int32.not_le.mp c_20) ex_45) hIσ3 (gFr.tr frσ2x fcσ3 (by decide)) hd0 hP hD hS (lv_sub hl [0, 1] rfl)
set_option maxHeartbeats 8000000 in
set_option maxRecDepth 100000 in
theorem n_X4_distanceAt (l : Launch) (dC : Nat → ClassId) (dI : Nat → Nat → Nat) (ad : Nat → Nat) (cA : Nat → ClassId) (adK adV : Nat → Nat) (sz : Nat) (σ : gs) (hI : InvX σ) (o : Nat) (ho : kX o = 3) (p0 : UInt64) : MetD lw_cs l yX4_distanceAt wsX4_distanceAt ({ frames := 2, cells := 0, slots := 0, locals := 52 }) (va_Pc [.ref (ad o), .double p0] (gPre adK adV (dC, dI) (wX ad cA σ) (tX cA) sz)) (va_Qd (fun (r : UInt64) (τ : gs) => InvX τ ∧ σ = τ ∧ (True)) (fun τ t => gPost (dC, dI) (va_A (wX ad cA σ) sz) (wX ad cA τ) t) (va_A (wX ad cA σ) sz)) 0 0 (va_A (wX ad cA σ) sz) := by
  refine MetD.ofW (cc := cX4_distanceAt) (maxL := 10) (ret := (some .double)) (by decide) rfl ?_
  intro p e s m args below meth c s₁ B hml hv hd0
  obtain ⟨rfl, hsz, hP, hK, hD0, hT⟩ := hv
  have hx := B.exec
  have hb := B.bytes
  have hr := B.returns
  have hts0 := atoms_spec (ws := wsX4_distanceAt) B.pre
  have hK0 := hK
  have hown0 : s.vm.findClass RX4 = some m.cls := findClass_of_methodNamed B.named
  have hlocks := B.notSynchronized
  have hinX4 : ∀ w ∈ u_ws RX4 TX4 12, w ∈ wsX4_distanceAt := (fun _ h9 => List.mem_cons_of_mem _ (List.mem_append_left _ (List.mem_append_left _ (List.mem_append_right _ h9))))
  subst hsz
  have hD := hD0.self (sz := s.heap.size)
  generalize hAe : va_A (wX ad cA σ) s.heap.size = A at hD hT ⊢
  have hA : ∀ q : Nat, s.heap.size ≤ q → A q := fun q h => by rw [← hAe]; exact Or.inr h
  have hS : va_S A s.heap s.heap [] := va_S.rf
  have hl := lv_entry ([.ref (ad o), .double p0]) (n := 10) (Nat.le_of_ble_eq_true rfl)
  rw [lg_entry_eq]
  generalize (lg_sl ([.ref (ad o), .double p0]) ++ List.replicate (10 - (lg_sl ([.ref (ad o), .double p0])).length) Slot.unset).toArray = ls at hl ⊢
  have hl : lv_has ls 10 [(0, .ref (ad o)), (1, .double p0)] := hl
  have hts := dr_words hts0 (s.drawn)
  have hK := gKd hK0 (s.drawn)
  have hown : (s.setDrawn (s.drawn)).vm.findClass RX4 = some m.cls := hown0
  refine lv_dconst0 hx hb dX4_distanceAt_0 ?_
  refine lv_dstore_n (lv' := [(3, .double 0), (0, .ref (ad o)), (1, .double p0)]) hx hb dX4_distanceAt_1 rfl hl (by decide) rfl (fun ls hl => ?_)
  refine lv_iconst (v := 0) hx hb dX4_distanceAt_2 (by decide) ?_
  refine lv_istore (lv' := [(5, .int 0), (3, .double 0), (0, .ref (ad o)), (1, .double p0)]) hx hb dX4_distanceAt_3 hl (by decide) rfl (fun ls hl => ?_)
  refine (fun (h : ∀ (n : Nat) (i5 : Int32) (sm : UInt64) (d5 : Drawn) (H : Heap) (locs : List Loc) (ls : Array Slot), ((6 : Int32).toInt - i5.toInt).toNat < n → 0 ≤ i5 → s.drawn.sameBut d5 lw_cs → va_P (dC, dI) vwCl (wX ad cA σ) H → va_D A (wX ad cA σ) → va_S A s.heap H locs → lv_has ls 10 [(5, .int i5), (3, .double sm), (0, .ref (ad o)), (1, .double p0)] → W p l e _ (s.setDrawn d5) m _ below meth c H locs _ _ _ (F0 m 5 ls [])) => h _ 0 0 _ _ _ _ (Nat.lt_succ_self _) (by decide) hd0 hP hD hS (lv_sub hl [0, 1, 2, 3] rfl)) ?_
  intro n5
  induction n5 with
  | zero => intro i5 sm  d5 H locs ls hm; exact absurd hm (Nat.not_lt_zero _)
  | succ n5 ih5 =>
    intro i5 sm  d5 H locs ls hm5 iv5_0  hd0 hP hD hS hl
    have hts := dr_words hts0 (d5)
    have hK := gKd hK0 (d5)
    have hown : (s.setDrawn (d5)).vm.findClass RX4 = some m.cls := hown0
    refine lv_iload hx hb dX4_distanceAt_5 (lv_at hl 0 rfl) ?_
    refine lv_aload_n hx hb dX4_distanceAt_7 rfl (lv_at hl 2 rfl) ?_
    refine va_get (D := (dC, dI)) (ci := 3) (v := .int ((σ o).1 9)) (C := RX4) (T := TX4) (N := 12) hx hb hts hinX4 hown hK hP o (at_3 ho) rfl 9 (by decide) (hts (.fieldLink RX4 50 "BondCalendars$Desk" "quoteCount" "I") (by decide +kernel)) (fun _ h9 => h9) rfl dX4_distanceAt_8 ?_
    refine lv_icmp_ge (tgt := 81) hx hb dX4_distanceAt_11 (by decide) (fun c_1 => ?_) (fun c_1 => ?_)
    · refine lv_dload_n hx hb dX4_distanceAt_81 rfl (lv_at hl 1 rfl) ?_
      refine W.endD hd0 ?_
      exact W.dret (v := sm) hx hb hr (fun t ht hW => ⟨⟨sm, σ, rfl, ⟨hI, rfl, trivial⟩, ⟨by rw [ht]; exact hP, hD⟩⟩, hS.F ht⟩) hS.2.2 dX4_distanceAt_82
    · refine lv_iload hx hb dX4_distanceAt_14 (lv_at hl 0 rfl) ?_
      refine lv_aload_n hx hb dX4_distanceAt_16 rfl (lv_at hl 2 rfl) ?_
      refine va_get (D := (dC, dI)) (ci := 3) (v := .ref (ad (o + 32))) (C := RX4) (T := TX4) (N := 12) hx hb hts hinX4 hown hK hP o (at_3 ho) rfl 5 (by decide) (hts (.fieldLink RX4 36 "BondCalendars$Desk" "quoted" "[LBondCalendars$Settle;") (by decide +kernel)) (fun _ h9 => h9) rfl dX4_distanceAt_17 ?_
      refine va_alen (v := 6) hx hb hK hP ((o + 32)) ((o + 32)) (at_29 (kk_3_32 ho)) (ty_29 (kk_3_32 ho)) rfl dX4_distanceAt_20 ?_
      refine lv_icmp_ge (tgt := 81) hx hb dX4_distanceAt_21 (by decide) (fun c_2 => ?_) (fun c_2 => ?_)
      · refine lv_dload_n hx hb dX4_distanceAt_81 rfl (lv_at hl 1 rfl) ?_
        refine W.endD hd0 ?_
        exact W.dret (v := sm) hx hb hr (fun t ht hW => ⟨⟨sm, σ, rfl, ⟨hI, rfl, trivial⟩, ⟨by rw [ht]; exact hP, hD⟩⟩, hS.F ht⟩) hS.2.2 dX4_distanceAt_82
      · refine lv_aload_n hx hb dX4_distanceAt_24 rfl (lv_at hl 2 rfl) ?_
        refine va_get (D := (dC, dI)) (ci := 3) (v := .ref (ad (o + 59))) (C := RX4) (T := TX4) (N := 12) hx hb hts hinX4 hown hK hP o (at_3 ho) rfl 8 (by decide) (hts (.fieldLink RX4 47 "BondCalendars$Desk" "quotedPrices" "[I") (by decide +kernel)) (fun _ h9 => h9) rfl dX4_distanceAt_25 ?_
        refine lv_iload hx hb dX4_distanceAt_28 (lv_at hl 0 rfl) ?_
        refine va_iald hx hb hK hP ((o + 59)) ((o + 59)) (at_30 (kk_3_59 ho)) (ty_30 (kk_3_59 ho)) (gin (N := 6) (by decide) iv5_0 (Int32.not_le.mp c_2)) dX4_distanceAt_30 ?_
        refine lv_topi (fun x_3 _ => ?_)
        refine lv_i2d hx hb dX4_distanceAt_31 ?_
        refine lv_topd (fun y_4 _ => ?_)
        refine lv_ldc2d (v := 4636737291354636288) hx hb hown (hts (.constantDouble RX4 76 (4636737291354636288)) (by decide +kernel)) dX4_distanceAt_32 ?_
        refine lv_ddiv_any hd0 lw_bits hx hb dX4_distanceAt_35 (fun y_5 d_6 _ hd0 => ?_)
        have hts := dr_words hts0 (d_6)
        have hK := gKd hK0 (d_6)
        have hown : (s.setDrawn (d_6)).vm.findClass RX4 = some m.cls := hown0
        refine lv_dstore (lv' := [(6, .double y_5), (5, .int i5), (3, .double sm), (0, .ref (ad o)), (1, .double p0)]) hx hb dX4_distanceAt_36 hl (by decide) rfl (fun ls hl => ?_)
        refine lv_aload_n hx hb dX4_distanceAt_38 rfl (lv_at hl 3 rfl) ?_
        refine va_get (D := (dC, dI)) (ci := 3) (v := .ref (ad (o + 32))) (C := RX4) (T := TX4) (N := 12) hx hb hts hinX4 hown hK hP o (at_3 ho) rfl 5 (by decide) (hts (.fieldLink RX4 36 "BondCalendars$Desk" "quoted" "[LBondCalendars$Settle;") (by decide +kernel)) (fun _ h9 => h9) rfl dX4_distanceAt_39 ?_
        refine lv_iload hx hb dX4_distanceAt_42 (lv_at hl 1 rfl) ?_
        have hi_7 : vp_in i5 6 := (gin (N := 6) (by decide) iv5_0 (Int32.not_le.mp c_2))
        refine va_aldq hx hb hK hP ((o + 32)) ((o + 32)) (at_29 (kk_3_32 ho)) (ty_29 (kk_3_32 ho)) hi_7 dX4_distanceAt_44 ?_
        refine (fun h => (va_rd_29 (ad := ad) (c := (o + 32)) hi_7) ▸ h) ?_
        obtain ⟨c_8, hc_9, ecc_8⟩ : ∃ z, kX z = 7 ∧ (o + 32) + 1 + 4 * i5.toNatClampNeg = z := ⟨_, kr_29 (kk_3_32 ho) (Nat.not_le.mp fun q => hi_7 (Or.inr q)), rfl⟩
        rw [ecc_8]
        refine lv_dload_n hx hb dX4_distanceAt_45 rfl (lv_at hl 4 rfl) ?_
        have hF := gFree hD hS hA
        refine va_calldD hd0 (va_runV_D (As := [.double p0]) (rest := []) ⟨hx, hb, hml, hown, hts⟩ (n_X8_cleanAt l dC dI ad cA adK adV H.size σ hI c_8 hc_9 p0) (cwV 1 hts gX4_distanceAt_X8_cleanAt rfl rfl rfl (by decide +kernel) ⟨Nat.le_of_ble_eq_true rfl, Nat.le_of_ble_eq_true rfl⟩) ⟨gBlind, va_recv hK hP (ci := 7) (q0 := c_8) rfl (at_7 hc_9), gStart (As := [.ref (ad c_8), .double p0]) hP hD hK0 hT hS hF (d_6)⟩ rfl rfl hl.1 rfl (lv_room (Nat.le_of_ble_eq_true rfl)) dX4_distanceAt_46 ⟨Nat.le_of_ble_eq_true rfl, Nat.le_of_ble_eq_true rfl⟩) hS (fun q _ h => hF q h) hF (fun r_10 σ1 t H locs ht hvm hw hB hz1 hk1 hS d_11 hd0 => ?_)
        have hts := dr_words hts0 (d_11)
        have hK := gKd hK0 (d_11)
        have hown : (s.setDrawn (d_11)).vm.findClass RX4 = some m.cls := hown0
        obtain ⟨hP, hD⟩ := gBack hF ht hB
        obtain ⟨hIσ1, hro, hp_12⟩ := hw
        subst hro
        refine lv_dstore (lv' := [(8, .double r_10), (6, .double y_5), (5, .int i5), (3, .double sm), (0, .ref (ad o)), (1, .double p0)]) hx hb dX4_distanceAt_49 hl (by decide) rfl (fun ls hl => ?_)
        refine lv_dload_n hx hb dX4_distanceAt_51 rfl (lv_at hl 3 rfl) ?_
        refine lv_dload hx hb dX4_distanceAt_52 (lv_at hl 0 rfl) ?_
        refine lv_dload hx hb dX4_distanceAt_54 (lv_at hl 1 rfl) ?_
        refine lv_dcmp hx hb dX4_distanceAt_56 ?_
        refine lv_topi (fun x_13 _ => ?_)
        refine lv_if_lt (tgt := 68) hx hb dX4_distanceAt_57 (by decide) (fun c_14 => ?_) (fun c_14 => ?_)
        · refine lv_dload hx hb dX4_distanceAt_68 (lv_at hl 1 rfl) ?_
          refine lv_dload hx hb dX4_distanceAt_70 (lv_at hl 0 rfl) ?_
          refine lv_dsub_any hd0 lw_bits hx hb dX4_distanceAt_72 (fun y_15 d_16 _ hd0 => ?_)
          have hts := dr_words hts0 (d_16)
          have hK := gKd hK0 (d_16)
          have hown : (s.setDrawn (d_16)).vm.findClass RX4 = some m.cls := hown0
          refine lv_dadd_any hd0 lw_bits hx hb dX4_distanceAt_73 (fun y_17 d_18 _ hd0 => ?_)
          have hts := dr_words hts0 (d_18)
          have hK := gKd hK0 (d_18)
          have hown : (s.setDrawn (d_18)).vm.findClass RX4 = some m.cls := hown0
          refine lv_dstore_n (lv' := [(3, .double y_17), (8, .double r_10), (6, .double y_5), (5, .int i5), (0, .ref (ad o)), (1, .double p0)]) hx hb dX4_distanceAt_74 rfl hl (by decide) rfl (fun ls hl => ?_)
          obtain ⟨x_19, ex_19⟩ : ∃ zz : Int32, zz = i5 + 1 := ⟨_, rfl⟩
          refine lv_iinc (v := x_19) (lv' := [(5, .int x_19), (3, .double y_17), (8, .double r_10), (6, .double y_5), (0, .ref (ad o)), (1, .double p0)]) hx hb dX4_distanceAt_75 hl (k := 3) rfl (by rw [ex_19]; rfl) (by decide) rfl (fun ls hl => ?_)
          refine lv_goto (tgt := 5) hx hb dX4_distanceAt_78 (by decide) ?_
          exact ih5 x_19 y_17 _ _ _ _ (cnt_m iv5_0 (Int32.not_le.mp c_2) hm5 ex_19) (cnt_0 iv5_0 (Int32.not_le.mp c_2) ex_19) hd0 hP hD hS (lv_sub hl [0, 1, 4, 5] rfl)
        · refine lv_dload hx hb dX4_distanceAt_60 (lv_at hl 0 rfl) ?_
          refine lv_dload hx hb dX4_distanceAt_62 (lv_at hl 1 rfl) ?_
          refine lv_dsub_any hd0 lw_bits hx hb dX4_distanceAt_64 (fun y_20 d_21 _ hd0 => ?_)
          have hts := dr_words hts0 (d_21)
          have hK := gKd hK0 (d_21)
          have hown : (s.setDrawn (d_21)).vm.findClass RX4 = some m.cls := hown0
          refine lv_goto (tgt := 73) hx hb dX4_distanceAt_65 (by decide) ?_
          refine lv_dadd_any hd0 lw_bits hx hb dX4_distanceAt_73 (fun y_22 d_23 _ hd0 => ?_)
          have hts := dr_words hts0 (d_23)
          have hK := gKd hK0 (d_23)
          have hown : (s.setDrawn (d_23)).vm.findClass RX4 = some m.cls := hown0
          refine lv_dstore_n (lv' := [(3, .double y_22), (8, .double r_10), (6, .double y_5), (5, .int i5), (0, .ref (ad o)), (1, .double p0)]) hx hb dX4_distanceAt_74 rfl hl (by decide) rfl (fun ls hl => ?_)
          obtain ⟨x_24, ex_24⟩ : ∃ zz : Int32, zz = i5 + 1 := ⟨_, rfl⟩
          refine lv_iinc (v := x_24) (lv' := [(5, .int x_24), (3, .double y_22), (8, .double r_10), (6, .double y_5), (0, .ref (ad o)), (1, .double p0)]) hx hb dX4_distanceAt_75 hl (k := 3) rfl (by rw [ex_24]; rfl) (by decide) rfl (fun ls hl => ?_)
          refine lv_goto (tgt := 5) hx hb dX4_distanceAt_78 (by decide) ?_
          exact ih5 x_24 y_22 _ _ _ _ (cnt_m iv5_0 (Int32.not_le.mp c_2) hm5 ex_24) (cnt_0 iv5_0 (Int32.not_le.mp c_2) ex_24) hd0 hP hD hS (lv_sub hl [0, 1, 4, 5] rfl)
