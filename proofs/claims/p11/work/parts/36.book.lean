set_option maxHeartbeats 8000000 in
set_option maxRecDepth 100000 in
theorem n_X1_open (l : Launch) (dC : Nat → ClassId) (dI : Nat → Nat → Nat) (ad : Nat → Nat) (cA : Nat → ClassId) (adK adV : Nat → Nat) (sz : Nat) (σ : gs) (hI : InvX σ) (o : Nat) (ho : kX o = 1) (p0 : Int32) (p1 : Int32) : MetD lw_cs l yX1_open wsX1_open ({ frames := 0, cells := 0, slots := 0, locals := 0 }) (va_Pc [.ref (ad o), .int p0, .int p1] (gPre adK adV (dC, dI) (wX ad cA σ) (tX cA) sz)) (va_Qv (fun (τ : gs) => InvX τ ∧ gFr [1, 22, 24] σ τ ∧ (True)) (fun τ t => gPost (dC, dI) (va_A (wX ad cA σ) sz) (wX ad cA τ) t) (va_A (wX ad cA σ) sz)) 0 0 (va_A (wX ad cA σ) sz) := by
  refine MetD.ofW (cc := cX1_open) (maxL := 5) (ret := none) (by decide) rfl ?_
  intro p e s m args below meth c s₁ B hml hv hd0
  obtain ⟨rfl, hsz, hP, hK, hD0, hT⟩ := hv
  have hx := B.exec
  have hb := B.bytes
  have hr := B.returns
  have hts0 := atoms_spec (ws := wsX1_open) B.pre
  have hK0 := hK
  have hown0 : s.vm.findClass RX1 = some m.cls := findClass_of_methodNamed B.named
  have hlocks := B.notSynchronized
  have hinX1 : ∀ w ∈ u_ws RX1 TX1 4, w ∈ wsX1_open := (fun _ h9 => List.mem_cons_of_mem _ (List.mem_append_right _ h9))
  subst hsz
  have hD := hD0.self (sz := s.heap.size)
  generalize hAe : va_A (wX ad cA σ) s.heap.size = A at hD hT ⊢
  have hA : ∀ q : Nat, s.heap.size ≤ q → A q := fun q h => by rw [← hAe]; exact Or.inr h
  have hS : va_S A s.heap s.heap [] := va_S.rf
  have hl := lv_entry ([.ref (ad o), .int p0, .int p1]) (n := 5) (Nat.le_of_ble_eq_true rfl)
  rw [lg_entry_eq]
  generalize (lg_sl ([.ref (ad o), .int p0, .int p1]) ++ List.replicate (5 - (lg_sl ([.ref (ad o), .int p0, .int p1])).length) Slot.unset).toArray = ls at hl ⊢
  have hl : lv_has ls 5 [(0, .ref (ad o)), (1, .int p0), (2, .int p1)] := hl
  have hts := dr_words hts0 (s.drawn)
  have hK := gKd hK0 (s.drawn)
  have hown : (s.setDrawn (s.drawn)).vm.findClass RX1 = some m.cls := hown0
  refine lv_aload_n hx hb dX1_open_0 rfl (lv_at hl 0 rfl) ?_
  refine lv_iload_n hx hb dX1_open_1 rfl (lv_at hl 1 rfl) ?_
  refine va_put (D := (dC, dI)) (ci := 1) (v := .int p0) (C := RX1) (T := TX1) (N := 4) hx hb hts hinX1 tyX1 tyX1_ok nmX1 hown hK hP hD hS o (at_1 ho) rfl 3 (by decide) (hts (.fieldLink RX1 26 "BondCalendars$Book" "today" "I") (by decide +kernel)) (fun _ h9 => h9) rfl (ty := .int) (by decide +kernel) rfl rfl (Nat.le_of_ble_eq_true rfl) dX1_open_2 (fun H locs hP hD hS => ?_)
  obtain ⟨σ1, eσ1, hP, hD⟩ := gPut (se_1_3 ho) hP hD
  have hIσ1 : InvX σ1 := by rw [eσ1]; exact inv_I hI (ok_1_3 ho _)
  have frσ1 : gFr [1, 22, 24] σ σ1 := by rw [eσ1]; exact gFr.pI (gFr.rfl (L := [1, 22, 24]) (σ := σ)) ho (by decide)
  refine lv_aload_n hx hb dX1_open_5 rfl (lv_at hl 0 rfl) ?_
  refine lv_iload_n hx hb dX1_open_6 rfl (lv_at hl 2 rfl) ?_
  refine lv_i2l hx hb dX1_open_7 rfl ?_
  refine lv_topl (fun x_1 ex_1 => ?_)
  refine va_put (D := (dC, dI)) (ci := 1) (v := .long x_1) (C := RX1) (T := TX1) (N := 4) hx hb hts hinX1 tyX1 tyX1_ok nmX1 hown hK hP hD hS o (at_1 ho) rfl 2 (by decide) (hts (.fieldLink RX1 22 "BondCalendars$Book" "money" "J") (by decide +kernel)) (fun _ h9 => h9) rfl (ty := .long) (by decide +kernel) rfl rfl (Nat.le_of_ble_eq_true rfl) dX1_open_8 (fun H locs hP hD hS => ?_)
  obtain ⟨σ2, eσ2, hP, hD⟩ := gPut (se_1_2 ho) hP hD
  have hIσ2 : InvX σ2 := by rw [eσ2]; exact inv_L hIσ1
  have frσ2 : gFr [1, 22, 24] σ σ2 := by rw [eσ2]; exact gFr.pL frσ1 ho (by decide)
  refine lv_iconst (v := 0) hx hb dX1_open_11 (by decide) ?_
  refine lv_istore_n (lv' := [(3, .int 0), (0, .ref (ad o)), (1, .int p0), (2, .int p1)]) hx hb dX1_open_12 rfl hl (by decide) rfl (fun ls hl => ?_)
  refine (fun (h : ∀ (n : Nat) (i3 : Int32) (σ13x : gs) (d13 : Drawn) (H : Heap) (locs : List Loc) (ls : Array Slot), ((4 : Int32).toInt - i3.toInt).toNat < n → 0 ≤ i3 → InvX σ13x → gFr [1, 22, 24] σ σ13x → s.drawn.sameBut d13 lw_cs → va_P (dC, dI) vwCl (wX ad cA σ13x) H → va_D A (wX ad cA σ13x) → va_S A s.heap H locs → lv_has ls 5 [(3, .int i3), (0, .ref (ad o)), (1, .int p0), (2, .int p1)] → W p l e _ (s.setDrawn d13) m _ below meth c H locs _ _ _ (F0 m 13 ls [])) => h _ 0 σ2 _ _ _ _ (Nat.lt_succ_self _) (by decide) hIσ2 frσ2 hd0 hP hD hS (lv_sub hl [0, 1, 2, 3] rfl)) ?_
  intro n13
  induction n13 with
  | zero => intro i3 σ13x d13 H locs ls hm; exact absurd hm (Nat.not_lt_zero _)
  | succ n13 ih13 =>
    intro i3 σ13x d13 H locs ls hm13 iv13_0 hIσ13x frσ13x hd0 hP hD hS hl
    have hts := dr_words hts0 (d13)
    have hK := gKd hK0 (d13)
    have hown : (s.setDrawn (d13)).vm.findClass RX1 = some m.cls := hown0
    refine lv_iload_n hx hb dX1_open_13 rfl (lv_at hl 0 rfl) ?_
    refine lv_iconst (v := 4) hx hb dX1_open_14 (by decide) ?_
    refine lv_icmp_ge (tgt := 57) hx hb dX1_open_15 (by decide) (fun c_2 => ?_) (fun c_2 => ?_)
    · refine W.endD hd0 ?_
      exact W.vret hx hb hr (fun t ht hW => ⟨⟨σ13x, rfl, ⟨hIσ13x, frσ13x, trivial⟩, ⟨by rw [ht]; exact hP, hD⟩⟩, hS.F ht⟩) hS.2.2 dX1_open_57
    · refine lv_aload_n hx hb dX1_open_18 rfl (lv_at hl 1 rfl) ?_
      refine va_get (D := (dC, dI)) (ci := 1) (v := .ref (ad (o + 1))) (C := RX1) (T := TX1) (N := 4) hx hb hts hinX1 hown hK hP o (at_1 ho) rfl 0 (by decide) (hts (.fieldLink RX1 9 "BondCalendars$Book" "held" "[I") (by decide +kernel)) (fun _ h9 => h9) rfl dX1_open_19 ?_
      refine lv_iload_n hx hb dX1_open_22 rfl (lv_at hl 0 rfl) ?_
      refine lv_iconst (v := 0) hx hb dX1_open_23 (by decide) ?_
      refine va_iast hx hb hK hP hD hS ((o + 1)) ((o + 1)) (at_22 (kk_1_1 ho)) (ty_22 (kk_1_1 ho)) (gin (N := 4) (by decide) iv13_0 (Int32.not_le.mp c_2)) dX1_open_24 (fun H locs hP hD hS => ?_)
      obtain ⟨σ3, eσ3, hP, hD⟩ := gPut (se_22 (kk_1_1 ho)) hP hD
      have hIσ3 : InvX σ3 := by rw [eσ3]; exact inv_I hIσ13x (ok_22 (kk_1_1 ho) _ _)
      have frσ3 : gFr [1, 22, 24] σ σ3 := by rw [eσ3]; exact gFr.pI frσ13x (kk_1_1 ho) (by decide)
      refine lv_iconst (v := 0) hx hb dX1_open_25 (by decide) ?_
      refine lv_istore (lv' := [(4, .int 0), (3, .int i3), (0, .ref (ad o)), (1, .int p0), (2, .int p1)]) hx hb dX1_open_26 hl (by decide) rfl (fun ls hl => ?_)
      refine (fun (h : ∀ (n : Nat) (i4 : Int32) (σ28x : gs) (d28 : Drawn) (H : Heap) (locs : List Loc) (ls : Array Slot), ((81 : Int32).toInt - i4.toInt).toNat < n → 0 ≤ i4 → InvX σ28x → gFr [1, 22, 24] σ σ28x → s.drawn.sameBut d28 lw_cs → va_P (dC, dI) vwCl (wX ad cA σ28x) H → va_D A (wX ad cA σ28x) → va_S A s.heap H locs → lv_has ls 5 [(4, .int i4), (3, .int i3), (0, .ref (ad o)), (1, .int p0), (2, .int p1)] → W p l e _ (s.setDrawn d28) m _ below meth c H locs _ _ _ (F0 m 28 ls [])) => h _ 0 σ3 _ _ _ _ (Nat.lt_succ_self _) (by decide) hIσ3 frσ3 hd0 hP hD hS (lv_sub hl [0, 1, 2, 3, 4] rfl)) ?_
      intro n28
      induction n28 with
      | zero => intro i4 σ28x d28 H locs ls hm; exact absurd hm (Nat.not_lt_zero _)
      | succ n28 ih28 =>
        intro i4 σ28x d28 H locs ls hm28 iv28_0 hIσ28x frσ28x hd0 hP hD hS hl
        have hts := dr_words hts0 (d28)
        have hK := gKd hK0 (d28)
        have hown : (s.setDrawn (d28)).vm.findClass RX1 = some m.cls := hown0
        refine lv_iload hx hb dX1_open_28 (lv_at hl 0 rfl) ?_
        refine lv_bipush (v := 81) hx hb dX1_open_30 (by decide) ?_
        refine lv_icmp_ge (tgt := 51) hx hb dX1_open_32 (by decide) (fun c_3 => ?_) (fun c_3 => ?_)
        · obtain ⟨x_4, ex_4⟩ : ∃ zz : Int32, zz = i3 + 1 := ⟨_, rfl⟩
          refine lv_iinc (v := x_4) (lv' := [(3, .int x_4), (4, .int i4), (0, .ref (ad o)), (1, .int p0), (2, .int p1)]) hx hb dX1_open_51 hl (k := 1) rfl (by rw [ex_4]; rfl) (by decide) rfl (fun ls hl => ?_)
          refine lv_goto (tgt := 13) hx hb dX1_open_54 (by decide) ?_
          exact ih13 x_4 σ28x _ _ _ _ (cnt_m iv13_0 (Int32.not_le.mp c_2) hm13 ex_4) (cnt_0 iv13_0 (Int32.not_le.mp c_2) ex_4) hIσ28x frσ28x hd0 hP hD hS (lv_sub hl [0, 2, 3, 4] rfl)
        · refine lv_aload_n hx hb dX1_open_35 rfl (lv_at hl 2 rfl) ?_
          refine va_get (D := (dC, dI)) (ci := 1) (v := .ref (ad (o + 2))) (C := RX1) (T := TX1) (N := 4) hx hb hts hinX1 hown hK hP o (at_1 ho) rfl 1 (by decide) (hts (.fieldLink RX1 19 "BondCalendars$Book" "entitled" "[[I") (by decide +kernel)) (fun _ h9 => h9) rfl dX1_open_36 ?_
          refine lv_iload_n hx hb dX1_open_39 rfl (lv_at hl 1 rfl) ?_
          have hi_5 : vp_in i3 4 := (gin (N := 4) (by decide) iv13_0 (Int32.not_le.mp c_2))
          refine va_ald2 hx hb hK hP ((o + 2)) ((o + 2)) (at_23 (kk_1_2 ho)) (ty_23 (kk_1_2 ho)) hi_5 dX1_open_40 ?_
          refine (fun h => (va_rd_23 (ad := ad) (c := (o + 2)) hi_5) ▸ h) ?_
          obtain ⟨c_6, hc_7, ecc_6⟩ : ∃ z, kX z = 24 ∧ (o + 2) + 1 + i3.toNatClampNeg = z := ⟨_, kr_23 (kk_1_2 ho) (Nat.not_le.mp fun q => hi_5 (Or.inr q)), rfl⟩
          rw [ecc_6]
          refine lv_iload hx hb dX1_open_41 (lv_at hl 0 rfl) ?_
          refine lv_iconst (v := 0) hx hb dX1_open_43 (by decide) ?_
          refine va_iast hx hb hK hP hD hS c_6 c_6 (at_24 hc_7) (ty_24 hc_7) (gin (N := 81) (by decide) iv28_0 (Int32.not_le.mp c_3)) dX1_open_44 (fun H locs hP hD hS => ?_)
          obtain ⟨σ4, eσ4, hP, hD⟩ := gPut (se_24 hc_7) hP hD
          have hIσ4 : InvX σ4 := by rw [eσ4]; exact inv_I hIσ28x (ok_24 hc_7 _ _)
          have frσ4 : gFr [1, 22, 24] σ σ4 := by rw [eσ4]; exact gFr.pI frσ28x hc_7 (by decide)
          obtain ⟨x_8, ex_8⟩ : ∃ zz : Int32, zz = i4 + 1 := ⟨_, rfl⟩
          refine lv_iinc (v := x_8) (lv' := [(4, .int x_8), (3, .int i3), (0, .ref (ad o)), (1, .int p0), (2, .int p1)]) hx hb dX1_open_45 hl (k := 0) rfl (by rw [ex_8]; rfl) (by decide) rfl (fun ls hl => ?_)
          refine lv_goto (tgt := 28) hx hb dX1_open_48 (by decide) ?_
          exact ih28 x_8 σ4 _ _ _ _ (cnt_m iv28_0 (Int32.not_le.mp c_3) hm28 ex_8) (cnt_0 iv28_0 (Int32.not_le.mp c_3) ex_8) hIσ4 frσ4 hd0 hP hD hS (lv_sub hl [0, 1, 2, 3, 4] rfl)
set_option maxHeartbeats 8000000 in
set_option maxRecDepth 100000 in
theorem n_X1_copyFrom (l : Launch) (dC : Nat → ClassId) (dI : Nat → Nat → Nat) (ad : Nat → Nat) (cA : Nat → ClassId) (adK adV : Nat → Nat) (sz : Nat) (σ : gs) (hI : InvX σ) (o : Nat) (ho : kX o = 1) (a0 : Nat) (ha0 : kX a0 = 1) : MetD lw_cs l yX1_copyFrom wsX1_copyFrom ({ frames := 0, cells := 0, slots := 0, locals := 0 }) (va_Pc [.ref (ad o), .ref (ad a0)] (gPre adK adV (dC, dI) (wX ad cA σ) (tX cA) sz)) (va_Qv (fun (τ : gs) => InvX τ ∧ gFr [1, 22, 24] σ τ ∧ (True)) (fun τ t => gPost (dC, dI) (va_A (wX ad cA σ) sz) (wX ad cA τ) t) (va_A (wX ad cA σ) sz)) 0 0 (va_A (wX ad cA σ) sz) := by
  refine MetD.ofW (cc := cX1_copyFrom) (maxL := 4) (ret := none) (by decide) rfl ?_
  intro p e s m args below meth c s₁ B hml hv hd0
  obtain ⟨rfl, hsz, hP, hK, hD0, hT⟩ := hv
  have hx := B.exec
  have hb := B.bytes
  have hr := B.returns
  have hts0 := atoms_spec (ws := wsX1_copyFrom) B.pre
  have hK0 := hK
  have hown0 : s.vm.findClass RX1 = some m.cls := findClass_of_methodNamed B.named
  have hlocks := B.notSynchronized
  have hinX1 : ∀ w ∈ u_ws RX1 TX1 4, w ∈ wsX1_copyFrom := (fun _ h9 => List.mem_cons_of_mem _ (List.mem_append_right _ h9))
  subst hsz
  have hD := hD0.self (sz := s.heap.size)
  generalize hAe : va_A (wX ad cA σ) s.heap.size = A at hD hT ⊢
  have hA : ∀ q : Nat, s.heap.size ≤ q → A q := fun q h => by rw [← hAe]; exact Or.inr h
  have hS : va_S A s.heap s.heap [] := va_S.rf
  have hl := lv_entry ([.ref (ad o), .ref (ad a0)]) (n := 4) (Nat.le_of_ble_eq_true rfl)
  rw [lg_entry_eq]
  generalize (lg_sl ([.ref (ad o), .ref (ad a0)]) ++ List.replicate (4 - (lg_sl ([.ref (ad o), .ref (ad a0)])).length) Slot.unset).toArray = ls at hl ⊢
  have hl : lv_has ls 4 [(0, .ref (ad o)), (1, .ref (ad a0))] := hl
  have hts := dr_words hts0 (s.drawn)
  have hK := gKd hK0 (s.drawn)
  have hown : (s.setDrawn (s.drawn)).vm.findClass RX1 = some m.cls := hown0
  refine lv_aload_n hx hb dX1_copyFrom_0 rfl (lv_at hl 0 rfl) ?_
  refine lv_aload_n hx hb dX1_copyFrom_1 rfl (lv_at hl 1 rfl) ?_
  refine va_get (D := (dC, dI)) (ci := 1) (v := .int ((σ a0).1 3)) (C := RX1) (T := TX1) (N := 4) hx hb hts hinX1 hown hK hP a0 (at_1 ha0) rfl 3 (by decide) (hts (.fieldLink RX1 26 "BondCalendars$Book" "today" "I") (by decide +kernel)) (fun _ h9 => h9) rfl dX1_copyFrom_2 ?_
  refine va_put (D := (dC, dI)) (ci := 1) (v := .int ((σ a0).1 3)) (C := RX1) (T := TX1) (N := 4) hx hb hts hinX1 tyX1 tyX1_ok nmX1 hown hK hP hD hS o (at_1 ho) rfl 3 (by decide) (hts (.fieldLink RX1 26 "BondCalendars$Book" "today" "I") (by decide +kernel)) (fun _ h9 => h9) rfl (ty := .int) (by decide +kernel) rfl rfl (Nat.le_of_ble_eq_true rfl) dX1_copyFrom_5 (fun H locs hP hD hS => ?_)
  obtain ⟨σ1, eσ1, hP, hD⟩ := gPut (se_1_3 ho) hP hD
  have hIσ1 : InvX σ1 := by rw [eσ1]; exact inv_I hI (ok_1_3 ho _)
  have frσ1 : gFr [1, 22, 24] σ σ1 := by rw [eσ1]; exact gFr.pI (gFr.rfl (L := [1, 22, 24]) (σ := σ)) ho (by decide)
  refine lv_aload_n hx hb dX1_copyFrom_8 rfl (lv_at hl 0 rfl) ?_
  refine lv_aload_n hx hb dX1_copyFrom_9 rfl (lv_at hl 1 rfl) ?_
  refine va_get (D := (dC, dI)) (ci := 1) (v := .long ((σ1 a0).2.1 2)) (C := RX1) (T := TX1) (N := 4) hx hb hts hinX1 hown hK hP a0 (at_1 ha0) rfl 2 (by decide) (hts (.fieldLink RX1 22 "BondCalendars$Book" "money" "J") (by decide +kernel)) (fun _ h9 => h9) rfl dX1_copyFrom_10 ?_
  refine va_put (D := (dC, dI)) (ci := 1) (v := .long ((σ1 a0).2.1 2)) (C := RX1) (T := TX1) (N := 4) hx hb hts hinX1 tyX1 tyX1_ok nmX1 hown hK hP hD hS o (at_1 ho) rfl 2 (by decide) (hts (.fieldLink RX1 22 "BondCalendars$Book" "money" "J") (by decide +kernel)) (fun _ h9 => h9) rfl (ty := .long) (by decide +kernel) rfl rfl (Nat.le_of_ble_eq_true rfl) dX1_copyFrom_13 (fun H locs hP hD hS => ?_)
  obtain ⟨σ2, eσ2, hP, hD⟩ := gPut (se_1_2 ho) hP hD
  have hIσ2 : InvX σ2 := by rw [eσ2]; exact inv_L hIσ1
  have frσ2 : gFr [1, 22, 24] σ σ2 := by rw [eσ2]; exact gFr.pL frσ1 ho (by decide)
  refine lv_iconst (v := 0) hx hb dX1_copyFrom_16 (by decide) ?_
  refine lv_istore_n (lv' := [(2, .int 0), (0, .ref (ad o)), (1, .ref (ad a0))]) hx hb dX1_copyFrom_17 rfl hl (by decide) rfl (fun ls hl => ?_)
  refine (fun (h : ∀ (n : Nat) (i2 : Int32) (σ18x : gs) (d18 : Drawn) (H : Heap) (locs : List Loc) (ls : Array Slot), ((4 : Int32).toInt - i2.toInt).toNat < n → 0 ≤ i2 → InvX σ18x → gFr [1, 22, 24] σ σ18x → s.drawn.sameBut d18 lw_cs → va_P (dC, dI) vwCl (wX ad cA σ18x) H → va_D A (wX ad cA σ18x) → va_S A s.heap H locs → lv_has ls 4 [(2, .int i2), (0, .ref (ad o)), (1, .ref (ad a0))] → W p l e _ (s.setDrawn d18) m _ below meth c H locs _ _ _ (F0 m 18 ls [])) => h _ 0 σ2 _ _ _ _ (Nat.lt_succ_self _) (by decide) hIσ2 frσ2 hd0 hP hD hS (lv_sub hl [0, 1, 2] rfl)) ?_
  intro n18
  induction n18 with
  | zero => intro i2 σ18x d18 H locs ls hm; exact absurd hm (Nat.not_lt_zero _)
  | succ n18 ih18 =>
    intro i2 σ18x d18 H locs ls hm18 iv18_0 hIσ18x frσ18x hd0 hP hD hS hl
    have hts := dr_words hts0 (d18)
    have hK := gKd hK0 (d18)
    have hown : (s.setDrawn (d18)).vm.findClass RX1 = some m.cls := hown0
    refine lv_iload_n hx hb dX1_copyFrom_18 rfl (lv_at hl 0 rfl) ?_
    refine lv_iconst (v := 4) hx hb dX1_copyFrom_19 (by decide) ?_
    refine lv_icmp_ge (tgt := 71) hx hb dX1_copyFrom_20 (by decide) (fun c_1 => ?_) (fun c_1 => ?_)
    · refine W.endD hd0 ?_
      exact W.vret hx hb hr (fun t ht hW => ⟨⟨σ18x, rfl, ⟨hIσ18x, frσ18x, trivial⟩, ⟨by rw [ht]; exact hP, hD⟩⟩, hS.F ht⟩) hS.2.2 dX1_copyFrom_71
    · refine lv_aload_n hx hb dX1_copyFrom_23 rfl (lv_at hl 1 rfl) ?_
      refine va_get (D := (dC, dI)) (ci := 1) (v := .ref (ad (o + 1))) (C := RX1) (T := TX1) (N := 4) hx hb hts hinX1 hown hK hP o (at_1 ho) rfl 0 (by decide) (hts (.fieldLink RX1 9 "BondCalendars$Book" "held" "[I") (by decide +kernel)) (fun _ h9 => h9) rfl dX1_copyFrom_24 ?_
      refine lv_iload_n hx hb dX1_copyFrom_27 rfl (lv_at hl 0 rfl) ?_
      refine lv_aload_n hx hb dX1_copyFrom_28 rfl (lv_at hl 2 rfl) ?_
      refine va_get (D := (dC, dI)) (ci := 1) (v := .ref (ad (a0 + 1))) (C := RX1) (T := TX1) (N := 4) hx hb hts hinX1 hown hK hP a0 (at_1 ha0) rfl 0 (by decide) (hts (.fieldLink RX1 9 "BondCalendars$Book" "held" "[I") (by decide +kernel)) (fun _ h9 => h9) rfl dX1_copyFrom_29 ?_
      refine lv_iload_n hx hb dX1_copyFrom_32 rfl (lv_at hl 0 rfl) ?_
      refine va_iald hx hb hK hP ((a0 + 1)) ((a0 + 1)) (at_22 (kk_1_1 ha0)) (ty_22 (kk_1_1 ha0)) (gin (N := 4) (by decide) iv18_0 (Int32.not_le.mp c_1)) dX1_copyFrom_33 ?_
      refine lv_topi (fun x_2 _ => ?_)
      refine va_iast hx hb hK hP hD hS ((o + 1)) ((o + 1)) (at_22 (kk_1_1 ho)) (ty_22 (kk_1_1 ho)) (gin (N := 4) (by decide) iv18_0 (Int32.not_le.mp c_1)) dX1_copyFrom_34 (fun H locs hP hD hS => ?_)
      obtain ⟨σ3, eσ3, hP, hD⟩ := gPut (se_22 (kk_1_1 ho)) hP hD
      have hIσ3 : InvX σ3 := by rw [eσ3]; exact inv_I hIσ18x (ok_22 (kk_1_1 ho) _ _)
      have frσ3 : gFr [1, 22, 24] σ σ3 := by rw [eσ3]; exact gFr.pI frσ18x (kk_1_1 ho) (by decide)
      refine lv_iconst (v := 0) hx hb dX1_copyFrom_35 (by decide) ?_
      refine lv_istore_n (lv' := [(3, .int 0), (2, .int i2), (0, .ref (ad o)), (1, .ref (ad a0))]) hx hb dX1_copyFrom_36 rfl hl (by decide) rfl (fun ls hl => ?_)
      refine (fun (h : ∀ (n : Nat) (i3 : Int32) (σ37x : gs) (d37 : Drawn) (H : Heap) (locs : List Loc) (ls : Array Slot), ((81 : Int32).toInt - i3.toInt).toNat < n → 0 ≤ i3 → InvX σ37x → gFr [1, 22, 24] σ σ37x → s.drawn.sameBut d37 lw_cs → va_P (dC, dI) vwCl (wX ad cA σ37x) H → va_D A (wX ad cA σ37x) → va_S A s.heap H locs → lv_has ls 4 [(3, .int i3), (2, .int i2), (0, .ref (ad o)), (1, .ref (ad a0))] → W p l e _ (s.setDrawn d37) m _ below meth c H locs _ _ _ (F0 m 37 ls [])) => h _ 0 σ3 _ _ _ _ (Nat.lt_succ_self _) (by decide) hIσ3 frσ3 hd0 hP hD hS (lv_sub hl [0, 1, 2, 3] rfl)) ?_
      intro n37
      induction n37 with
      | zero => intro i3 σ37x d37 H locs ls hm; exact absurd hm (Nat.not_lt_zero _)
      | succ n37 ih37 =>
        intro i3 σ37x d37 H locs ls hm37 iv37_0 hIσ37x frσ37x hd0 hP hD hS hl
        have hts := dr_words hts0 (d37)
        have hK := gKd hK0 (d37)
        have hown : (s.setDrawn (d37)).vm.findClass RX1 = some m.cls := hown0
        refine lv_iload_n hx hb dX1_copyFrom_37 rfl (lv_at hl 0 rfl) ?_
        refine lv_bipush (v := 81) hx hb dX1_copyFrom_38 (by decide) ?_
        refine lv_icmp_ge (tgt := 65) hx hb dX1_copyFrom_40 (by decide) (fun c_3 => ?_) (fun c_3 => ?_)
        · obtain ⟨x_4, ex_4⟩ : ∃ zz : Int32, zz = i2 + 1 := ⟨_, rfl⟩
          refine lv_iinc (v := x_4) (lv' := [(2, .int x_4), (3, .int i3), (0, .ref (ad o)), (1, .ref (ad a0))]) hx hb dX1_copyFrom_65 hl (k := 1) rfl (by rw [ex_4]; rfl) (by decide) rfl (fun ls hl => ?_)
          refine lv_goto (tgt := 18) hx hb dX1_copyFrom_68 (by decide) ?_
          exact ih18 x_4 σ37x _ _ _ _ (cnt_m iv18_0 (Int32.not_le.mp c_1) hm18 ex_4) (cnt_0 iv18_0 (Int32.not_le.mp c_1) ex_4) hIσ37x frσ37x hd0 hP hD hS (lv_sub hl [0, 2, 3] rfl)
        · refine lv_aload_n hx hb dX1_copyFrom_43 rfl (lv_at hl 2 rfl) ?_
          refine va_get (D := (dC, dI)) (ci := 1) (v := .ref (ad (o + 2))) (C := RX1) (T := TX1) (N := 4) hx hb hts hinX1 hown hK hP o (at_1 ho) rfl 1 (by decide) (hts (.fieldLink RX1 19 "BondCalendars$Book" "entitled" "[[I") (by decide +kernel)) (fun _ h9 => h9) rfl dX1_copyFrom_44 ?_
          refine lv_iload_n hx hb dX1_copyFrom_47 rfl (lv_at hl 1 rfl) ?_
          have hi_5 : vp_in i2 4 := (gin (N := 4) (by decide) iv18_0 (Int32.not_le.mp c_1))
          refine va_ald2 hx hb hK hP ((o + 2)) ((o + 2)) (at_23 (kk_1_2 ho)) (ty_23 (kk_1_2 ho)) hi_5 dX1_copyFrom_48 ?_
          refine (fun h => (va_rd_23 (ad := ad) (c := (o + 2)) hi_5) ▸ h) ?_
          obtain ⟨c_6, hc_7, ecc_6⟩ : ∃ z, kX z = 24 ∧ (o + 2) + 1 + i2.toNatClampNeg = z := ⟨_, kr_23 (kk_1_2 ho) (Nat.not_le.mp fun q => hi_5 (Or.inr q)), rfl⟩
          rw [ecc_6]
          refine lv_iload_n hx hb dX1_copyFrom_49 rfl (lv_at hl 0 rfl) ?_
          refine lv_aload_n hx hb dX1_copyFrom_50 rfl (lv_at hl 3 rfl) ?_
          refine va_get (D := (dC, dI)) (ci := 1) (v := .ref (ad (a0 + 2))) (C := RX1) (T := TX1) (N := 4) hx hb hts hinX1 hown hK hP a0 (at_1 ha0) rfl 1 (by decide) (hts (.fieldLink RX1 19 "BondCalendars$Book" "entitled" "[[I") (by decide +kernel)) (fun _ h9 => h9) rfl dX1_copyFrom_51 ?_
          refine lv_iload_n hx hb dX1_copyFrom_54 rfl (lv_at hl 1 rfl) ?_
          have hi_8 : vp_in i2 4 := (gin (N := 4) (by decide) iv18_0 (Int32.not_le.mp c_1))
          refine va_ald2 hx hb hK hP ((a0 + 2)) ((a0 + 2)) (at_23 (kk_1_2 ha0)) (ty_23 (kk_1_2 ha0)) hi_8 dX1_copyFrom_55 ?_
          refine (fun h => (va_rd_23 (ad := ad) (c := (a0 + 2)) hi_8) ▸ h) ?_
          obtain ⟨c_9, hc_10, ecc_9⟩ : ∃ z, kX z = 24 ∧ (a0 + 2) + 1 + i2.toNatClampNeg = z := ⟨_, kr_23 (kk_1_2 ha0) (Nat.not_le.mp fun q => hi_8 (Or.inr q)), rfl⟩
          rw [ecc_9]
          refine lv_iload_n hx hb dX1_copyFrom_56 rfl (lv_at hl 0 rfl) ?_
          refine va_iald hx hb hK hP c_9 c_9 (at_24 hc_10) (ty_24 hc_10) (gin (N := 81) (by decide) iv37_0 (Int32.not_le.mp c_3)) dX1_copyFrom_57 ?_
          refine lv_topi (fun x_11 _ => ?_)
          refine va_iast hx hb hK hP hD hS c_6 c_6 (at_24 hc_7) (ty_24 hc_7) (gin (N := 81) (by decide) iv37_0 (Int32.not_le.mp c_3)) dX1_copyFrom_58 (fun H locs hP hD hS => ?_)
          obtain ⟨σ4, eσ4, hP, hD⟩ := gPut (se_24 hc_7) hP hD
          have hIσ4 : InvX σ4 := by rw [eσ4]; exact inv_I hIσ37x (ok_24 hc_7 _ _)
          have frσ4 : gFr [1, 22, 24] σ σ4 := by rw [eσ4]; exact gFr.pI frσ37x hc_7 (by decide)
          obtain ⟨x_12, ex_12⟩ : ∃ zz : Int32, zz = i3 + 1 := ⟨_, rfl⟩
          refine lv_iinc (v := x_12) (lv' := [(3, .int x_12), (2, .int i2), (0, .ref (ad o)), (1, .ref (ad a0))]) hx hb dX1_copyFrom_59 hl (k := 0) rfl (by rw [ex_12]; rfl) (by decide) rfl (fun ls hl => ?_)
          refine lv_goto (tgt := 37) hx hb dX1_copyFrom_62 (by decide) ?_
          exact ih37 x_12 σ4 _ _ _ _ (cnt_m iv37_0 (Int32.not_le.mp c_3) hm37 ex_12) (cnt_0 iv37_0 (Int32.not_le.mp c_3) ex_12) hIσ4 frσ4 hd0 hP hD hS (lv_sub hl [0, 1, 2, 3] rfl)
set_option maxHeartbeats 8000000 in
set_option maxRecDepth 100000 in
theorem n_X1_entitledTo (l : Launch) (dC : Nat → ClassId) (dI : Nat → Nat → Nat) (ad : Nat → Nat) (cA : Nat → ClassId) (adK adV : Nat → Nat) (sz : Nat) (σ : gs) (hI : InvX σ) (o : Nat) (ho : kX o = 1) (p0 : Int32) (p1 : Int32) : MetD lw_cs l yX1_entitledTo wsX1_entitledTo ({ frames := 0, cells := 0, slots := 0, locals := 0 }) (va_Pc [.ref (ad o), .int p0, .int p1] (gPre adK adV (dC, dI) (wX ad cA σ) (tX cA) sz)) (va_Qi (fun (r : Int32) (τ : gs) => InvX τ ∧ σ = τ ∧ (True)) (fun τ t => gPost (dC, dI) (va_A (wX ad cA σ) sz) (wX ad cA τ) t) (va_A (wX ad cA σ) sz)) 0 0 (va_A (wX ad cA σ) sz) := by
  refine MetD.ofW (cc := cX1_entitledTo) (maxL := 3) (ret := (some .int)) (by decide) rfl ?_
  intro p e s m args below meth c s₁ B hml hv hd0
  obtain ⟨rfl, hsz, hP, hK, hD0, hT⟩ := hv
  have hx := B.exec
  have hb := B.bytes
  have hr := B.returns
  have hts0 := atoms_spec (ws := wsX1_entitledTo) B.pre
  have hK0 := hK
  have hown0 : s.vm.findClass RX1 = some m.cls := findClass_of_methodNamed B.named
  have hlocks := B.notSynchronized
  have hinX1 : ∀ w ∈ u_ws RX1 TX1 4, w ∈ wsX1_entitledTo := (fun _ h9 => List.mem_cons_of_mem _ (List.mem_append_right _ h9))
  subst hsz
  have hD := hD0.self (sz := s.heap.size)
  generalize hAe : va_A (wX ad cA σ) s.heap.size = A at hD hT ⊢
  have hA : ∀ q : Nat, s.heap.size ≤ q → A q := fun q h => by rw [← hAe]; exact Or.inr h
  have hS : va_S A s.heap s.heap [] := va_S.rf
  have hl := lv_entry ([.ref (ad o), .int p0, .int p1]) (n := 3) (Nat.le_of_ble_eq_true rfl)
  rw [lg_entry_eq]
  generalize (lg_sl ([.ref (ad o), .int p0, .int p1]) ++ List.replicate (3 - (lg_sl ([.ref (ad o), .int p0, .int p1])).length) Slot.unset).toArray = ls at hl ⊢
  have hl : lv_has ls 3 [(0, .ref (ad o)), (1, .int p0), (2, .int p1)] := hl
  have hts := dr_words hts0 (s.drawn)
  have hK := gKd hK0 (s.drawn)
  have hown : (s.setDrawn (s.drawn)).vm.findClass RX1 = some m.cls := hown0
  refine lv_iload_n hx hb dX1_entitledTo_0 rfl (lv_at hl 1 rfl) ?_
  refine lv_if_lt (tgt := 19) hx hb dX1_entitledTo_1 (by decide) (fun c_1 => ?_) (fun c_1 => ?_)
  · refine lv_iconst (v := 0) hx hb dX1_entitledTo_19 (by decide) ?_
    refine W.endD hd0 ?_
    exact W.iret (v := 0) hx hb hr (fun t ht hW => ⟨⟨0, σ, rfl, ⟨hI, rfl, trivial⟩, ⟨by rw [ht]; exact hP, hD⟩⟩, hS.F ht⟩) hS.2.2 dX1_entitledTo_20
  · refine lv_iload_n hx hb dX1_entitledTo_4 rfl (lv_at hl 1 rfl) ?_
    refine lv_iconst (v := 4) hx hb dX1_entitledTo_5 (by decide) ?_
    refine lv_icmp_ge (tgt := 19) hx hb dX1_entitledTo_6 (by decide) (fun c_2 => ?_) (fun c_2 => ?_)
    · refine lv_iconst (v := 0) hx hb dX1_entitledTo_19 (by decide) ?_
      refine W.endD hd0 ?_
      exact W.iret (v := 0) hx hb hr (fun t ht hW => ⟨⟨0, σ, rfl, ⟨hI, rfl, trivial⟩, ⟨by rw [ht]; exact hP, hD⟩⟩, hS.F ht⟩) hS.2.2 dX1_entitledTo_20
    · refine lv_iload_n hx hb dX1_entitledTo_9 rfl (lv_at hl 2 rfl) ?_
      refine lv_if_lt (tgt := 19) hx hb dX1_entitledTo_10 (by decide) (fun c_3 => ?_) (fun c_3 => ?_)
      · refine lv_iconst (v := 0) hx hb dX1_entitledTo_19 (by decide) ?_
        refine W.endD hd0 ?_
        exact W.iret (v := 0) hx hb hr (fun t ht hW => ⟨⟨0, σ, rfl, ⟨hI, rfl, trivial⟩, ⟨by rw [ht]; exact hP, hD⟩⟩, hS.F ht⟩) hS.2.2 dX1_entitledTo_20
      · refine lv_iload_n hx hb dX1_entitledTo_13 rfl (lv_at hl 2 rfl) ?_
        refine lv_bipush (v := 81) hx hb dX1_entitledTo_14 (by decide) ?_
        refine lv_icmp_lt (tgt := 21) hx hb dX1_entitledTo_16 (by decide) (fun c_4 => ?_) (fun c_4 => ?_)
        · refine lv_aload_n hx hb dX1_entitledTo_21 rfl (lv_at hl 0 rfl) ?_
          refine va_get (D := (dC, dI)) (ci := 1) (v := .ref (ad (o + 2))) (C := RX1) (T := TX1) (N := 4) hx hb hts hinX1 hown hK hP o (at_1 ho) rfl 1 (by decide) (hts (.fieldLink RX1 19 "BondCalendars$Book" "entitled" "[[I") (by decide +kernel)) (fun _ h9 => h9) rfl dX1_entitledTo_22 ?_
          refine lv_iload_n hx hb dX1_entitledTo_25 rfl (lv_at hl 1 rfl) ?_
          have hi_5 : vp_in p0 4 := (gin (N := 4) (by decide) (Int32.not_lt.mp c_1) (Int32.not_le.mp c_2))
          refine va_ald2 hx hb hK hP ((o + 2)) ((o + 2)) (at_23 (kk_1_2 ho)) (ty_23 (kk_1_2 ho)) hi_5 dX1_entitledTo_26 ?_
          refine (fun h => (va_rd_23 (ad := ad) (c := (o + 2)) hi_5) ▸ h) ?_
          obtain ⟨c_6, hc_7, ecc_6⟩ : ∃ z, kX z = 24 ∧ (o + 2) + 1 + p0.toNatClampNeg = z := ⟨_, kr_23 (kk_1_2 ho) (Nat.not_le.mp fun q => hi_5 (Or.inr q)), rfl⟩
          rw [ecc_6]
          refine lv_iload_n hx hb dX1_entitledTo_27 rfl (lv_at hl 2 rfl) ?_
          refine va_iald hx hb hK hP c_6 c_6 (at_24 hc_7) (ty_24 hc_7) (gin (N := 81) (by decide) (Int32.not_lt.mp c_3) c_4) dX1_entitledTo_28 ?_
          refine lv_topi (fun x_8 _ => ?_)
          refine W.endD hd0 ?_
          exact W.iret (v := x_8) hx hb hr (fun t ht hW => ⟨⟨x_8, σ, rfl, ⟨hI, rfl, trivial⟩, ⟨by rw [ht]; exact hP, hD⟩⟩, hS.F ht⟩) hS.2.2 dX1_entitledTo_29
        · refine lv_iconst (v := 0) hx hb dX1_entitledTo_19 (by decide) ?_
          refine W.endD hd0 ?_
          exact W.iret (v := 0) hx hb hr (fun t ht hW => ⟨⟨0, σ, rfl, ⟨hI, rfl, trivial⟩, ⟨by rw [ht]; exact hP, hD⟩⟩, hS.F ht⟩) hS.2.2 dX1_entitledTo_20
set_option maxHeartbeats 8000000 in
set_option maxRecDepth 100000 in
theorem n_X1_passBond (l : Launch) (dC : Nat → ClassId) (dI : Nat → Nat → Nat) (ad : Nat → Nat) (cA : Nat → ClassId) (adK adV : Nat → Nat) (sz : Nat) (σ : gs) (hI : InvX σ) (o : Nat) (ho : kX o = 1) (p0 : Int32) (a1 : Nat) (ha1 : kX a1 = 0) (p2 : Int32) (a3 : Nat) (ha3 : kX a3 = 5) (hh0 : 0 ≤ p0) (hh1 : p0 < 4) : MetD lw_cs l yX1_passBond wsX1_passBond ({ frames := 5, cells := 0, slots := 0, locals := 131 }) (va_Pc [.ref (ad o), .int p0, .ref (ad a1), .int p2, .ref (ad a3)] (gPre adK adV (dC, dI) (wX ad cA σ) (tX cA) sz)) (va_Ql (fun (r : Int64) (τ : gs) => InvX τ ∧ gFr [5, 22, 24] σ τ ∧ (True)) (fun τ t => gPost (dC, dI) (va_A (wX ad cA σ) sz) (wX ad cA τ) t) (va_A (wX ad cA σ) sz)) 0 0 (va_A (wX ad cA σ) sz) := by
  refine MetD.ofW (cc := cX1_passBond) (maxL := 8) (ret := (some .long)) (by decide) rfl ?_
  intro p e s m args below meth c s₁ B hml hv hd0
  obtain ⟨rfl, hsz, hP, hK, hD0, hT⟩ := hv
  have hx := B.exec
  have hb := B.bytes
  have hr := B.returns
  have hts0 := atoms_spec (ws := wsX1_passBond) B.pre
  have hK0 := hK
  have hown0 : s.vm.findClass RX1 = some m.cls := findClass_of_methodNamed B.named
  have hlocks := B.notSynchronized
  have hinX0 : ∀ w ∈ u_ws RX0 TX0 16, w ∈ wsX1_passBond := (fun _ h9 => List.mem_cons_of_mem _ (List.mem_append_left _ (List.mem_append_left _ (List.mem_append_right _ h9))))
  have hinX1 : ∀ w ∈ u_ws RX1 TX1 4, w ∈ wsX1_passBond := (fun _ h9 => List.mem_cons_of_mem _ (List.mem_append_left _ (List.mem_append_right _ h9)))
  subst hsz
  have hD := hD0.self (sz := s.heap.size)
  generalize hAe : va_A (wX ad cA σ) s.heap.size = A at hD hT ⊢
  have hA : ∀ q : Nat, s.heap.size ≤ q → A q := fun q h => by rw [← hAe]; exact Or.inr h
  have hS : va_S A s.heap s.heap [] := va_S.rf
  have hl := lv_entry ([.ref (ad o), .int p0, .ref (ad a1), .int p2, .ref (ad a3)]) (n := 8) (Nat.le_of_ble_eq_true rfl)
  rw [lg_entry_eq]
  generalize (lg_sl ([.ref (ad o), .int p0, .ref (ad a1), .int p2, .ref (ad a3)]) ++ List.replicate (8 - (lg_sl ([.ref (ad o), .int p0, .ref (ad a1), .int p2, .ref (ad a3)])).length) Slot.unset).toArray = ls at hl ⊢
  have hl : lv_has ls 8 [(0, .ref (ad o)), (1, .int p0), (2, .ref (ad a1)), (3, .int p2), (4, .ref (ad a3))] := hl
  have hts := dr_words hts0 (s.drawn)
  have hK := gKd hK0 (s.drawn)
  have hown : (s.setDrawn (s.drawn)).vm.findClass RX1 = some m.cls := hown0
  refine lv_lconst (v := 0) hx hb dX1_passBond_0 (by decide) ?_
  refine lv_lstore (lv' := [(5, .long 0), (0, .ref (ad o)), (1, .int p0), (2, .ref (ad a1)), (3, .int p2), (4, .ref (ad a3))]) hx hb dX1_passBond_1 hl (by decide) rfl (fun ls hl => ?_)
  refine lv_iconst (v := 0) hx hb dX1_passBond_3 (by decide) ?_
  refine lv_istore (lv' := [(7, .int 0), (5, .long 0), (0, .ref (ad o)), (1, .int p0), (2, .ref (ad a1)), (3, .int p2), (4, .ref (ad a3))]) hx hb dX1_passBond_4 hl (by decide) rfl (fun ls hl => ?_)
  refine (fun (h : ∀ (n : Nat) (i7 : Int32) (cm : Int64) (σ6x : gs) (d6 : Drawn) (H : Heap) (locs : List Loc) (ls : Array Slot), ((81 : Int32).toInt - i7.toInt).toNat < n → 0 ≤ i7 → InvX σ6x → gFr [5, 22, 24] σ σ6x → s.drawn.sameBut d6 lw_cs → va_P (dC, dI) vwCl (wX ad cA σ6x) H → va_D A (wX ad cA σ6x) → va_S A s.heap H locs → lv_has ls 8 [(7, .int i7), (5, .long cm), (0, .ref (ad o)), (1, .int p0), (2, .ref (ad a1)), (3, .int p2), (4, .ref (ad a3))] → W p l e _ (s.setDrawn d6) m _ below meth c H locs _ _ _ (F0 m 6 ls [])) => h _ 0 0 σ _ _ _ _ (Nat.lt_succ_self _) (by decide) hI (gFr.rfl (L := [5, 22, 24]) (σ := σ)) hd0 hP hD hS (lv_sub hl [0, 1, 2, 3, 4, 5, 6] rfl)) ?_
  intro n6
  induction n6 with
  | zero => intro i7 cm σ6x d6 H locs ls hm; exact absurd hm (Nat.not_lt_zero _)
  | succ n6 ih6 =>
    intro i7 cm σ6x d6 H locs ls hm6 iv6_0 hIσ6x frσ6x hd0 hP hD hS hl
    have hts := dr_words hts0 (d6)
    have hK := gKd hK0 (d6)
    have hown : (s.setDrawn (d6)).vm.findClass RX1 = some m.cls := hown0
    refine lv_iload hx hb dX1_passBond_6 (lv_at hl 0 rfl) ?_
    refine lv_aload_n hx hb dX1_passBond_8 rfl (lv_at hl 4 rfl) ?_
    have bd_1 := rd_0_9 (c := a1) hI ha1
    refine va_get (D := (dC, dI)) (ci := 0) (v := .int ((σ a1).1 9)) (C := RX0) (T := TX0) (N := 16) hx hb hts hinX0 hown hK hP a1 (at_0 ha1) rfl 9 (by decide) (hts (.fieldLink RX1 41 "BondCalendars$Bond" "periods" "I") (by decide +kernel)) (fun _ h9 => h9) (congrArg (fun z => some (Value.int z)) (show (σ6x a1).1 9 = ((σ a1).1 9) from by rw [frσ6x a1 (by rw [ha1]; decide)])) dX1_passBond_9 ?_
    refine lv_icmp_ge (tgt := 162) hx hb dX1_passBond_12 (by decide) (fun c_2 => ?_) (fun c_2 => ?_)
    · refine lv_lload hx hb dX1_passBond_162 (lv_at hl 1 rfl) ?_
      refine W.endD hd0 ?_
      exact W.lret (v := cm) hx hb hr (fun t ht hW => ⟨⟨cm, σ6x, rfl, ⟨hIσ6x, frσ6x, trivial⟩, ⟨by rw [ht]; exact hP, hD⟩⟩, hS.F ht⟩) hS.2.2 dX1_passBond_164
    · refine lv_iload hx hb dX1_passBond_15 (lv_at hl 0 rfl) ?_
      refine lv_bipush (v := 81) hx hb dX1_passBond_17 (by decide) ?_
      refine lv_icmp_ge (tgt := 162) hx hb dX1_passBond_19 (by decide) (fun c_3 => ?_) (fun c_3 => ?_)
      · exact absurd c_3 (Int32.not_le.mpr (Int32.lt_of_lt_of_le (Int32.not_le.mp c_2) bd_1.2))
      · refine lv_aload_n hx hb dX1_passBond_22 rfl (lv_at hl 4 rfl) ?_
        refine va_get (D := (dC, dI)) (ci := 0) (v := .ref (ad (a1 + 3))) (C := RX0) (T := TX0) (N := 16) hx hb hts hinX0 hown hK hP a1 (at_0 ha1) rfl 12 (by decide) (hts (.fieldLink RX1 44 "BondCalendars$Bond" "exFrom" "[I") (by decide +kernel)) (fun _ h9 => h9) rfl dX1_passBond_23 ?_
        refine lv_iload hx hb dX1_passBond_26 (lv_at hl 0 rfl) ?_
        refine va_iald hx hb hK hP ((a1 + 3)) ((a1 + 3)) (at_24 (kk_0_3 ha1)) (ty_24 (kk_0_3 ha1)) (gin (N := 81) (by decide) iv6_0 (Int32.not_le.mp c_3)) dX1_passBond_28 ?_
        refine lv_topi (fun x_4 _ => ?_)
        refine lv_aload_n hx hb dX1_passBond_29 rfl (lv_at hl 2 rfl) ?_
        refine va_get (D := (dC, dI)) (ci := 1) (v := .int ((σ o).1 3)) (C := RX1) (T := TX1) (N := 4) hx hb hts hinX1 hown hK hP o (at_1 ho) rfl 3 (by decide) (hts (.fieldLink RX1 26 "BondCalendars$Book" "today" "I") (by decide +kernel)) (fun _ h9 => h9) (congrArg (fun z => some (Value.int z)) (show (σ6x o).1 3 = ((σ o).1 3) from by rw [frσ6x o (by rw [ho]; decide)])) dX1_passBond_30 ?_
        refine lv_icmp_le (tgt := 62) hx hb dX1_passBond_33 (by decide) (fun c_5 => ?_) (fun c_5 => ?_)
        · refine lv_aload_n hx hb dX1_passBond_62 rfl (lv_at hl 4 rfl) ?_
          refine va_get (D := (dC, dI)) (ci := 0) (v := .ref (ad (a1 + 4))) (C := RX0) (T := TX0) (N := 16) hx hb hts hinX0 hown hK hP a1 (at_0 ha1) rfl 13 (by decide) (hts (.fieldLink RX1 47 "BondCalendars$Bond" "payDays" "[I") (by decide +kernel)) (fun _ h9 => h9) rfl dX1_passBond_63 ?_
          refine lv_iload hx hb dX1_passBond_66 (lv_at hl 0 rfl) ?_
          refine va_iald hx hb hK hP ((a1 + 4)) ((a1 + 4)) (at_24 (kk_0_4 ha1)) (ty_24 (kk_0_4 ha1)) (gin (N := 81) (by decide) iv6_0 (Int32.not_le.mp c_3)) dX1_passBond_68 ?_
          refine lv_topi (fun x_6 _ => ?_)
          refine lv_aload_n hx hb dX1_passBond_69 rfl (lv_at hl 2 rfl) ?_
          refine va_get (D := (dC, dI)) (ci := 1) (v := .int ((σ o).1 3)) (C := RX1) (T := TX1) (N := 4) hx hb hts hinX1 hown hK hP o (at_1 ho) rfl 3 (by decide) (hts (.fieldLink RX1 26 "BondCalendars$Book" "today" "I") (by decide +kernel)) (fun _ h9 => h9) (congrArg (fun z => some (Value.int z)) (show (σ6x o).1 3 = ((σ o).1 3) from by rw [frσ6x o (by rw [ho]; decide)])) dX1_passBond_70 ?_
          refine lv_icmp_le (tgt := 156) hx hb dX1_passBond_73 (by decide) (fun c_7 => ?_) (fun c_7 => ?_)
          · obtain ⟨x_8, ex_8⟩ : ∃ zz : Int32, zz = i7 + 1 := ⟨_, rfl⟩
            refine lv_iinc (v := x_8) (lv' := [(7, .int x_8), (5, .long cm), (0, .ref (ad o)), (1, .int p0), (2, .ref (ad a1)), (3, .int p2), (4, .ref (ad a3))]) hx hb dX1_passBond_156 hl (k := 0) rfl (by rw [ex_8]; rfl) (by decide) rfl (fun ls hl => ?_)
            refine lv_goto (tgt := 6) hx hb dX1_passBond_159 (by decide) ?_
            exact ih6 x_8 cm σ6x _ _ _ _ (cnt_m iv6_0 (Int32.not_le.mp c_3) hm6 ex_8) (cnt_0 iv6_0 (Int32.not_le.mp c_3) ex_8) hIσ6x frσ6x hd0 hP hD hS (lv_sub hl [0, 1, 2, 3, 4, 5, 6] rfl)
          · refine lv_aload_n hx hb dX1_passBond_76 rfl (lv_at hl 4 rfl) ?_
            refine va_get (D := (dC, dI)) (ci := 0) (v := .ref (ad (a1 + 4))) (C := RX0) (T := TX0) (N := 16) hx hb hts hinX0 hown hK hP a1 (at_0 ha1) rfl 13 (by decide) (hts (.fieldLink RX1 47 "BondCalendars$Bond" "payDays" "[I") (by decide +kernel)) (fun _ h9 => h9) rfl dX1_passBond_77 ?_
            refine lv_iload hx hb dX1_passBond_80 (lv_at hl 0 rfl) ?_
            refine va_iald hx hb hK hP ((a1 + 4)) ((a1 + 4)) (at_24 (kk_0_4 ha1)) (ty_24 (kk_0_4 ha1)) (gin (N := 81) (by decide) iv6_0 (Int32.not_le.mp c_3)) dX1_passBond_82 ?_
            refine lv_topi (fun x_9 _ => ?_)
            refine lv_iload_n hx hb dX1_passBond_83 rfl (lv_at hl 5 rfl) ?_
            refine lv_icmp_le (tgt := 90) hx hb dX1_passBond_84 (by decide) (fun c_10 => ?_) (fun c_10 => ?_)
            · refine lv_aload_n hx hb dX1_passBond_90 rfl (lv_at hl 4 rfl) ?_
              refine lv_iload hx hb dX1_passBond_91 (lv_at hl 0 rfl) ?_
              refine lv_aload hx hb dX1_passBond_93 (lv_at hl 6 rfl) ?_
              have hF := gFree hD hS hA
              refine va_callvD hd0 (va_runV_D (As := [.int i7, .ref (ad a3)]) (rest := []) ⟨hx, hb, hml, hown, hts⟩ (n_X0_measureCoupon l dC dI ad cA adK adV H.size σ6x hIσ6x a1 ha1 i7 a3 ha3) (cwV 2 hts gX1_passBond_X0_measureCoupon rfl rfl rfl (by decide +kernel) ⟨Nat.le_of_ble_eq_true rfl, Nat.le_of_ble_eq_true rfl⟩) ⟨gBlind, va_recv hK hP (ci := 0) (q0 := a1) rfl (at_0 ha1), gStart (As := [.ref (ad a1), .int i7, .ref (ad a3)]) hP hD hK0 hT hS hF (d6)⟩ rfl rfl hl.1 rfl (lv_room (Nat.le_of_ble_eq_true rfl)) dX1_passBond_95 ⟨Nat.le_of_ble_eq_true rfl, Nat.le_of_ble_eq_true rfl⟩) hS (fun q _ h => hF q h) hF (fun σ1 t H locs ht hvm hw hB hz1 hk1 hS d_12 hd0 => ?_)
              have hts := dr_words hts0 (d_12)
              have hK := gKd hK0 (d_12)
              have hown : (s.setDrawn (d_12)).vm.findClass RX1 = some m.cls := hown0
              obtain ⟨hP, hD⟩ := gBack hF ht hB
              obtain ⟨hIσ1, fcσ1, hp_13⟩ := hw
              refine lv_lload hx hb dX1_passBond_98 (lv_at hl 1 rfl) ?_
              refine lv_aload hx hb dX1_passBond_100 (lv_at hl 6 rfl) ?_
              refine lv_aload_n hx hb dX1_passBond_102 rfl (lv_at hl 2 rfl) ?_
              refine va_get (D := (dC, dI)) (ci := 1) (v := .ref (ad (o + 2))) (C := RX1) (T := TX1) (N := 4) hx hb hts hinX1 hown hK hP o (at_1 ho) rfl 1 (by decide) (hts (.fieldLink RX1 19 "BondCalendars$Book" "entitled" "[[I") (by decide +kernel)) (fun _ h9 => h9) rfl dX1_passBond_103 ?_
              refine lv_iload_n hx hb dX1_passBond_106 rfl (lv_at hl 3 rfl) ?_
              have hi_14 : vp_in p0 4 := (gin (N := 4) (by decide) hh0 hh1)
              refine va_ald2 hx hb hK hP ((o + 2)) ((o + 2)) (at_23 (kk_1_2 ho)) (ty_23 (kk_1_2 ho)) hi_14 dX1_passBond_107 ?_
              refine (fun h => (va_rd_23 (ad := ad) (c := (o + 2)) hi_14) ▸ h) ?_
              obtain ⟨c_15, hc_16, ecc_15⟩ : ∃ z, kX z = 24 ∧ (o + 2) + 1 + p0.toNatClampNeg = z := ⟨_, kr_23 (kk_1_2 ho) (Nat.not_le.mp fun q => hi_14 (Or.inr q)), rfl⟩
              rw [ecc_15]
              refine lv_iload hx hb dX1_passBond_108 (lv_at hl 0 rfl) ?_
              refine va_iald hx hb hK hP c_15 c_15 (at_24 hc_16) (ty_24 hc_16) (gin (N := 81) (by decide) iv6_0 (Int32.not_le.mp c_3)) dX1_passBond_110 ?_
              refine lv_topi (fun x_17 _ => ?_)
              refine lv_i2l hx hb dX1_passBond_111 rfl ?_
              refine lv_ldc2 (v := 100) hx hb hown (hts (.constantLong RX1 54 (100)) (by decide +kernel)) dX1_passBond_112 ?_
              refine lv_lmul hx hb dX1_passBond_115 ?_
              refine lv_topl (fun x_18 ex_18 => ?_)
              have hF := gFree hD hS hA
              refine va_calllD hd0 (va_runV_D (As := [.long x_18]) (rest := [.long cm]) ⟨hx, hb, hml, hown, hts⟩ (n_X6_floorTimes l dC dI ad cA adK adV H.size σ1 hIσ1 a3 ha3 x_18) (cwV 1 hts gX1_passBond_X6_floorTimes rfl rfl rfl (by decide +kernel) ⟨Nat.le_of_ble_eq_true rfl, Nat.le_of_ble_eq_true rfl⟩) ⟨gBlind, va_recv hK hP (ci := 5) (q0 := a3) rfl (at_5 ha3), gStart (As := [.ref (ad a3), .long x_18]) hP hD hK0 hT hS hF (d_12)⟩ rfl rfl hl.1 rfl (lv_room (Nat.le_of_ble_eq_true rfl)) dX1_passBond_116 ⟨Nat.le_of_ble_eq_true rfl, Nat.le_of_ble_eq_true rfl⟩) hS (fun q _ h => hF q h) hF (fun r_19 σ2 t H locs ht hvm hw hB hz1 hk1 hS d_20 hd0 => ?_)
              have hts := dr_words hts0 (d_20)
              have hK := gKd hK0 (d_20)
              have hown : (s.setDrawn (d_20)).vm.findClass RX1 = some m.cls := hown0
              obtain ⟨hP, hD⟩ := gBack hF ht hB
              obtain ⟨hIσ2, hro, hp_21⟩ := hw
              subst hro
              refine lv_ladd hx hb dX1_passBond_119 ?_
              refine lv_topl (fun x_22 ex_22 => ?_)
              refine lv_lstore (lv' := [(5, .long x_22), (7, .int i7), (0, .ref (ad o)), (1, .int p0), (2, .ref (ad a1)), (3, .int p2), (4, .ref (ad a3))]) hx hb dX1_passBond_120 hl (by decide) rfl (fun ls hl => ?_)
              refine lv_iload hx hb dX1_passBond_122 (lv_at hl 1 rfl) ?_
              refine lv_aload_n hx hb dX1_passBond_124 rfl (lv_at hl 4 rfl) ?_
              refine va_get (D := (dC, dI)) (ci := 0) (v := .int ((σ a1).1 9)) (C := RX0) (T := TX0) (N := 16) hx hb hts hinX0 hown hK hP a1 (at_0 ha1) rfl 9 (by decide) (hts (.fieldLink RX1 41 "BondCalendars$Bond" "periods" "I") (by decide +kernel)) (fun _ h9 => h9) (congrArg (fun z => some (Value.int z)) (show (σ1 a1).1 9 = ((σ a1).1 9) from by rw [fcσ1 a1 (by rw [ha1]; decide), frσ6x a1 (by rw [ha1]; decide)])) dX1_passBond_125 ?_
              refine lv_iconst (v := 1) hx hb dX1_passBond_128 (by decide) ?_
              refine lv_isub hx hb dX1_passBond_129 ?_
              refine lv_topi (fun x_23 ex_23 => ?_)
              refine lv_icmp_ne (tgt := 156) hx hb dX1_passBond_130 (by decide) (fun c_24 => ?_) (fun c_24 => ?_)
              · obtain ⟨x_25, ex_25⟩ : ∃ zz : Int32, zz = i7 + 1 := ⟨_, rfl⟩
                refine lv_iinc (v := x_25) (lv' := [(7, .int x_25), (5, .long x_22), (0, .ref (ad o)), (1, .int p0), (2, .ref (ad a1)), (3, .int p2), (4, .ref (ad a3))]) hx hb dX1_passBond_156 hl (k := 1) rfl (by rw [ex_25]; rfl) (by decide) rfl (fun ls hl => ?_)
                refine lv_goto (tgt := 6) hx hb dX1_passBond_159 (by decide) ?_
                exact ih6 x_25 x_22 σ1 _ _ _ _ (cnt_m iv6_0 (Int32.not_le.mp c_3) hm6 ex_25) (cnt_0 iv6_0 (Int32.not_le.mp c_3) ex_25) hIσ1 (gFr.tr frσ6x fcσ1 (by decide)) hd0 hP hD hS (lv_sub hl [0, 1, 2, 3, 4, 5, 6] rfl)
              · refine lv_lload hx hb dX1_passBond_133 (lv_at hl 0 rfl) ?_
                refine lv_ldc2 (v := 10000) hx hb hown (hts (.constantLong RX1 62 (10000)) (by decide +kernel)) dX1_passBond_135 ?_
                refine lv_aload_n hx hb dX1_passBond_138 rfl (lv_at hl 2 rfl) ?_
                refine va_get (D := (dC, dI)) (ci := 1) (v := .ref (ad (o + 1))) (C := RX1) (T := TX1) (N := 4) hx hb hts hinX1 hown hK hP o (at_1 ho) rfl 0 (by decide) (hts (.fieldLink RX1 9 "BondCalendars$Book" "held" "[I") (by decide +kernel)) (fun _ h9 => h9) rfl dX1_passBond_139 ?_
                refine lv_iload_n hx hb dX1_passBond_142 rfl (lv_at hl 3 rfl) ?_
                refine va_iald hx hb hK hP ((o + 1)) ((o + 1)) (at_22 (kk_1_1 ho)) (ty_22 (kk_1_1 ho)) (gin (N := 4) (by decide) hh0 hh1) dX1_passBond_143 ?_
                refine lv_topi (fun x_26 _ => ?_)
                refine lv_i2l hx hb dX1_passBond_144 rfl ?_
                refine lv_lmul hx hb dX1_passBond_145 ?_
                refine lv_topl (fun x_27 ex_27 => ?_)
                refine lv_ladd hx hb dX1_passBond_146 ?_
                refine lv_topl (fun x_28 ex_28 => ?_)
                refine lv_lstore (lv' := [(5, .long x_28), (7, .int i7), (0, .ref (ad o)), (1, .int p0), (2, .ref (ad a1)), (3, .int p2), (4, .ref (ad a3))]) hx hb dX1_passBond_147 hl (by decide) rfl (fun ls hl => ?_)
                refine lv_aload_n hx hb dX1_passBond_149 rfl (lv_at hl 2 rfl) ?_
                refine va_get (D := (dC, dI)) (ci := 1) (v := .ref (ad (o + 1))) (C := RX1) (T := TX1) (N := 4) hx hb hts hinX1 hown hK hP o (at_1 ho) rfl 0 (by decide) (hts (.fieldLink RX1 9 "BondCalendars$Book" "held" "[I") (by decide +kernel)) (fun _ h9 => h9) rfl dX1_passBond_150 ?_
                refine lv_iload_n hx hb dX1_passBond_153 rfl (lv_at hl 3 rfl) ?_
                refine lv_iconst (v := 0) hx hb dX1_passBond_154 (by decide) ?_
                refine va_iast hx hb hK hP hD hS ((o + 1)) ((o + 1)) (at_22 (kk_1_1 ho)) (ty_22 (kk_1_1 ho)) (gin (N := 4) (by decide) hh0 hh1) dX1_passBond_155 (fun H locs hP hD hS => ?_)
                obtain ⟨σ3, eσ3, hP, hD⟩ := gPut (se_22 (kk_1_1 ho)) hP hD
                have hIσ3 : InvX σ3 := by rw [eσ3]; exact inv_I hIσ1 (ok_22 (kk_1_1 ho) _ _)
                have frσ3 : gFr [5, 22, 24] σ σ3 := by rw [eσ3]; exact gFr.pI (gFr.tr frσ6x fcσ1 (by decide)) (kk_1_1 ho) (by decide)
                obtain ⟨x_29, ex_29⟩ : ∃ zz : Int32, zz = i7 + 1 := ⟨_, rfl⟩
                refine lv_iinc (v := x_29) (lv' := [(7, .int x_29), (5, .long x_28), (0, .ref (ad o)), (1, .int p0), (2, .ref (ad a1)), (3, .int p2), (4, .ref (ad a3))]) hx hb dX1_passBond_156 hl (k := 1) rfl (by rw [ex_29]; rfl) (by decide) rfl (fun ls hl => ?_)
                refine lv_goto (tgt := 6) hx hb dX1_passBond_159 (by decide) ?_
                exact ih6 x_29 x_28 σ3 _ _ _ _ (cnt_m iv6_0 (Int32.not_le.mp c_3) hm6 ex_29) (cnt_0 iv6_0 (Int32.not_le.mp c_3) ex_29) hIσ3 frσ3 hd0 hP hD hS (lv_sub hl [0, 1, 2, 3, 4, 5, 6] rfl)
            · refine lv_goto (tgt := 156) hx hb dX1_passBond_87 (by decide) ?_
              obtain ⟨x_30, ex_30⟩ : ∃ zz : Int32, zz = i7 + 1 := ⟨_, rfl⟩
              refine lv_iinc (v := x_30) (lv' := [(7, .int x_30), (5, .long cm), (0, .ref (ad o)), (1, .int p0), (2, .ref (ad a1)), (3, .int p2), (4, .ref (ad a3))]) hx hb dX1_passBond_156 hl (k := 0) rfl (by rw [ex_30]; rfl) (by decide) rfl (fun ls hl => ?_)
              refine lv_goto (tgt := 6) hx hb dX1_passBond_159 (by decide) ?_
              exact ih6 x_30 cm σ6x _ _ _ _ (cnt_m iv6_0 (Int32.not_le.mp c_3) hm6 ex_30) (cnt_0 iv6_0 (Int32.not_le.mp c_3) ex_30) hIσ6x frσ6x hd0 hP hD hS (lv_sub hl [0, 1, 2, 3, 4, 5, 6] rfl)
        · refine lv_aload_n hx hb dX1_passBond_36 rfl (lv_at hl 4 rfl) ?_
          refine va_get (D := (dC, dI)) (ci := 0) (v := .ref (ad (a1 + 3))) (C := RX0) (T := TX0) (N := 16) hx hb hts hinX0 hown hK hP a1 (at_0 ha1) rfl 12 (by decide) (hts (.fieldLink RX1 44 "BondCalendars$Bond" "exFrom" "[I") (by decide +kernel)) (fun _ h9 => h9) rfl dX1_passBond_37 ?_
          refine lv_iload hx hb dX1_passBond_40 (lv_at hl 0 rfl) ?_
          refine va_iald hx hb hK hP ((a1 + 3)) ((a1 + 3)) (at_24 (kk_0_3 ha1)) (ty_24 (kk_0_3 ha1)) (gin (N := 81) (by decide) iv6_0 (Int32.not_le.mp c_3)) dX1_passBond_42 ?_
          refine lv_topi (fun x_31 _ => ?_)
          refine lv_iload_n hx hb dX1_passBond_43 rfl (lv_at hl 5 rfl) ?_
          refine lv_icmp_gt (tgt := 62) hx hb dX1_passBond_44 (by decide) (fun c_32 => ?_) (fun c_32 => ?_)
          · refine lv_aload_n hx hb dX1_passBond_62 rfl (lv_at hl 4 rfl) ?_
            refine va_get (D := (dC, dI)) (ci := 0) (v := .ref (ad (a1 + 4))) (C := RX0) (T := TX0) (N := 16) hx hb hts hinX0 hown hK hP a1 (at_0 ha1) rfl 13 (by decide) (hts (.fieldLink RX1 47 "BondCalendars$Bond" "payDays" "[I") (by decide +kernel)) (fun _ h9 => h9) rfl dX1_passBond_63 ?_
            refine lv_iload hx hb dX1_passBond_66 (lv_at hl 0 rfl) ?_
            refine va_iald hx hb hK hP ((a1 + 4)) ((a1 + 4)) (at_24 (kk_0_4 ha1)) (ty_24 (kk_0_4 ha1)) (gin (N := 81) (by decide) iv6_0 (Int32.not_le.mp c_3)) dX1_passBond_68 ?_
            refine lv_topi (fun x_33 _ => ?_)
            refine lv_aload_n hx hb dX1_passBond_69 rfl (lv_at hl 2 rfl) ?_
            refine va_get (D := (dC, dI)) (ci := 1) (v := .int ((σ o).1 3)) (C := RX1) (T := TX1) (N := 4) hx hb hts hinX1 hown hK hP o (at_1 ho) rfl 3 (by decide) (hts (.fieldLink RX1 26 "BondCalendars$Book" "today" "I") (by decide +kernel)) (fun _ h9 => h9) (congrArg (fun z => some (Value.int z)) (show (σ6x o).1 3 = ((σ o).1 3) from by rw [frσ6x o (by rw [ho]; decide)])) dX1_passBond_70 ?_
            refine lv_icmp_le (tgt := 156) hx hb dX1_passBond_73 (by decide) (fun c_34 => ?_) (fun c_34 => ?_)
            · obtain ⟨x_35, ex_35⟩ : ∃ zz : Int32, zz = i7 + 1 := ⟨_, rfl⟩
              refine lv_iinc (v := x_35) (lv' := [(7, .int x_35), (5, .long cm), (0, .ref (ad o)), (1, .int p0), (2, .ref (ad a1)), (3, .int p2), (4, .ref (ad a3))]) hx hb dX1_passBond_156 hl (k := 0) rfl (by rw [ex_35]; rfl) (by decide) rfl (fun ls hl => ?_)
              refine lv_goto (tgt := 6) hx hb dX1_passBond_159 (by decide) ?_
              exact ih6 x_35 cm σ6x _ _ _ _ (cnt_m iv6_0 (Int32.not_le.mp c_3) hm6 ex_35) (cnt_0 iv6_0 (Int32.not_le.mp c_3) ex_35) hIσ6x frσ6x hd0 hP hD hS (lv_sub hl [0, 1, 2, 3, 4, 5, 6] rfl)
            · refine lv_aload_n hx hb dX1_passBond_76 rfl (lv_at hl 4 rfl) ?_
              refine va_get (D := (dC, dI)) (ci := 0) (v := .ref (ad (a1 + 4))) (C := RX0) (T := TX0) (N := 16) hx hb hts hinX0 hown hK hP a1 (at_0 ha1) rfl 13 (by decide) (hts (.fieldLink RX1 47 "BondCalendars$Bond" "payDays" "[I") (by decide +kernel)) (fun _ h9 => h9) rfl dX1_passBond_77 ?_
              refine lv_iload hx hb dX1_passBond_80 (lv_at hl 0 rfl) ?_
              refine va_iald hx hb hK hP ((a1 + 4)) ((a1 + 4)) (at_24 (kk_0_4 ha1)) (ty_24 (kk_0_4 ha1)) (gin (N := 81) (by decide) iv6_0 (Int32.not_le.mp c_3)) dX1_passBond_82 ?_
              refine lv_topi (fun x_36 _ => ?_)
              refine lv_iload_n hx hb dX1_passBond_83 rfl (lv_at hl 5 rfl) ?_
              refine lv_icmp_le (tgt := 90) hx hb dX1_passBond_84 (by decide) (fun c_37 => ?_) (fun c_37 => ?_)
              · refine lv_aload_n hx hb dX1_passBond_90 rfl (lv_at hl 4 rfl) ?_
                refine lv_iload hx hb dX1_passBond_91 (lv_at hl 0 rfl) ?_
                refine lv_aload hx hb dX1_passBond_93 (lv_at hl 6 rfl) ?_
                have hF := gFree hD hS hA
                refine va_callvD hd0 (va_runV_D (As := [.int i7, .ref (ad a3)]) (rest := []) ⟨hx, hb, hml, hown, hts⟩ (n_X0_measureCoupon l dC dI ad cA adK adV H.size σ6x hIσ6x a1 ha1 i7 a3 ha3) (cwV 2 hts gX1_passBond_X0_measureCoupon rfl rfl rfl (by decide +kernel) ⟨Nat.le_of_ble_eq_true rfl, Nat.le_of_ble_eq_true rfl⟩) ⟨gBlind, va_recv hK hP (ci := 0) (q0 := a1) rfl (at_0 ha1), gStart (As := [.ref (ad a1), .int i7, .ref (ad a3)]) hP hD hK0 hT hS hF (d6)⟩ rfl rfl hl.1 rfl (lv_room (Nat.le_of_ble_eq_true rfl)) dX1_passBond_95 ⟨Nat.le_of_ble_eq_true rfl, Nat.le_of_ble_eq_true rfl⟩) hS (fun q _ h => hF q h) hF (fun σ4 t H locs ht hvm hw hB hz1 hk1 hS d_39 hd0 => ?_)
                have hts := dr_words hts0 (d_39)
                have hK := gKd hK0 (d_39)
                have hown : (s.setDrawn (d_39)).vm.findClass RX1 = some m.cls := hown0
                obtain ⟨hP, hD⟩ := gBack hF ht hB
                obtain ⟨hIσ4, fcσ4, hp_40⟩ := hw
                refine lv_lload hx hb dX1_passBond_98 (lv_at hl 1 rfl) ?_
                refine lv_aload hx hb dX1_passBond_100 (lv_at hl 6 rfl) ?_
                refine lv_aload_n hx hb dX1_passBond_102 rfl (lv_at hl 2 rfl) ?_
                refine va_get (D := (dC, dI)) (ci := 1) (v := .ref (ad (o + 2))) (C := RX1) (T := TX1) (N := 4) hx hb hts hinX1 hown hK hP o (at_1 ho) rfl 1 (by decide) (hts (.fieldLink RX1 19 "BondCalendars$Book" "entitled" "[[I") (by decide +kernel)) (fun _ h9 => h9) rfl dX1_passBond_103 ?_
                refine lv_iload_n hx hb dX1_passBond_106 rfl (lv_at hl 3 rfl) ?_
                have hi_41 : vp_in p0 4 := (gin (N := 4) (by decide) hh0 hh1)
                refine va_ald2 hx hb hK hP ((o + 2)) ((o + 2)) (at_23 (kk_1_2 ho)) (ty_23 (kk_1_2 ho)) hi_41 dX1_passBond_107 ?_
                refine (fun h => (va_rd_23 (ad := ad) (c := (o + 2)) hi_41) ▸ h) ?_
                obtain ⟨c_42, hc_43, ecc_42⟩ : ∃ z, kX z = 24 ∧ (o + 2) + 1 + p0.toNatClampNeg = z := ⟨_, kr_23 (kk_1_2 ho) (Nat.not_le.mp fun q => hi_41 (Or.inr q)), rfl⟩
                rw [ecc_42]
                refine lv_iload hx hb dX1_passBond_108 (lv_at hl 0 rfl) ?_
                refine va_iald hx hb hK hP c_42 c_42 (at_24 hc_43) (ty_24 hc_43) (gin (N := 81) (by decide) iv6_0 (Int32.not_le.mp c_3)) dX1_passBond_110 ?_
                refine lv_topi (fun x_44 _ => ?_)
                refine lv_i2l hx hb dX1_passBond_111 rfl ?_
                refine lv_ldc2 (v := 100) hx hb hown (hts (.constantLong RX1 54 (100)) (by decide +kernel)) dX1_passBond_112 ?_
                refine lv_lmul hx hb dX1_passBond_115 ?_
                refine lv_topl (fun x_45 ex_45 => ?_)
                have hF := gFree hD hS hA
                refine va_calllD hd0 (va_runV_D (As := [.long x_45]) (rest := [.long cm]) ⟨hx, hb, hml, hown, hts⟩ (n_X6_floorTimes l dC dI ad cA adK adV H.size σ4 hIσ4 a3 ha3 x_45) (cwV 1 hts gX1_passBond_X6_floorTimes rfl rfl rfl (by decide +kernel) ⟨Nat.le_of_ble_eq_true rfl, Nat.le_of_ble_eq_true rfl⟩) ⟨gBlind, va_recv hK hP (ci := 5) (q0 := a3) rfl (at_5 ha3), gStart (As := [.ref (ad a3), .long x_45]) hP hD hK0 hT hS hF (d_39)⟩ rfl rfl hl.1 rfl (lv_room (Nat.le_of_ble_eq_true rfl)) dX1_passBond_116 ⟨Nat.le_of_ble_eq_true rfl, Nat.le_of_ble_eq_true rfl⟩) hS (fun q _ h => hF q h) hF (fun r_46 σ5 t H locs ht hvm hw hB hz1 hk1 hS d_47 hd0 => ?_)
                have hts := dr_words hts0 (d_47)
                have hK := gKd hK0 (d_47)
                have hown : (s.setDrawn (d_47)).vm.findClass RX1 = some m.cls := hown0
                obtain ⟨hP, hD⟩ := gBack hF ht hB
                obtain ⟨hIσ5, hro, hp_48⟩ := hw
                subst hro
                refine lv_ladd hx hb dX1_passBond_119 ?_
                refine lv_topl (fun x_49 ex_49 => ?_)
                refine lv_lstore (lv' := [(5, .long x_49), (7, .int i7), (0, .ref (ad o)), (1, .int p0), (2, .ref (ad a1)), (3, .int p2), (4, .ref (ad a3))]) hx hb dX1_passBond_120 hl (by decide) rfl (fun ls hl => ?_)
                refine lv_iload hx hb dX1_passBond_122 (lv_at hl 1 rfl) ?_
                refine lv_aload_n hx hb dX1_passBond_124 rfl (lv_at hl 4 rfl) ?_
                refine va_get (D := (dC, dI)) (ci := 0) (v := .int ((σ a1).1 9)) (C := RX0) (T := TX0) (N := 16) hx hb hts hinX0 hown hK hP a1 (at_0 ha1) rfl 9 (by decide) (hts (.fieldLink RX1 41 "BondCalendars$Bond" "periods" "I") (by decide +kernel)) (fun _ h9 => h9) (congrArg (fun z => some (Value.int z)) (show (σ4 a1).1 9 = ((σ a1).1 9) from by rw [fcσ4 a1 (by rw [ha1]; decide), frσ6x a1 (by rw [ha1]; decide)])) dX1_passBond_125 ?_
                refine lv_iconst (v := 1) hx hb dX1_passBond_128 (by decide) ?_
                refine lv_isub hx hb dX1_passBond_129 ?_
                refine lv_topi (fun x_50 ex_50 => ?_)
                refine lv_icmp_ne (tgt := 156) hx hb dX1_passBond_130 (by decide) (fun c_51 => ?_) (fun c_51 => ?_)
                · obtain ⟨x_52, ex_52⟩ : ∃ zz : Int32, zz = i7 + 1 := ⟨_, rfl⟩
                  refine lv_iinc (v := x_52) (lv' := [(7, .int x_52), (5, .long x_49), (0, .ref (ad o)), (1, .int p0), (2, .ref (ad a1)), (3, .int p2), (4, .ref (ad a3))]) hx hb dX1_passBond_156 hl (k := 1) rfl (by rw [ex_52]; rfl) (by decide) rfl (fun ls hl => ?_)
                  refine lv_goto (tgt := 6) hx hb dX1_passBond_159 (by decide) ?_
                  exact ih6 x_52 x_49 σ4 _ _ _ _ (cnt_m iv6_0 (Int32.not_le.mp c_3) hm6 ex_52) (cnt_0 iv6_0 (Int32.not_le.mp c_3) ex_52) hIσ4 (gFr.tr frσ6x fcσ4 (by decide)) hd0 hP hD hS (lv_sub hl [0, 1, 2, 3, 4, 5, 6] rfl)
                · refine lv_lload hx hb dX1_passBond_133 (lv_at hl 0 rfl) ?_
                  refine lv_ldc2 (v := 10000) hx hb hown (hts (.constantLong RX1 62 (10000)) (by decide +kernel)) dX1_passBond_135 ?_
                  refine lv_aload_n hx hb dX1_passBond_138 rfl (lv_at hl 2 rfl) ?_
                  refine va_get (D := (dC, dI)) (ci := 1) (v := .ref (ad (o + 1))) (C := RX1) (T := TX1) (N := 4) hx hb hts hinX1 hown hK hP o (at_1 ho) rfl 0 (by decide) (hts (.fieldLink RX1 9 "BondCalendars$Book" "held" "[I") (by decide +kernel)) (fun _ h9 => h9) rfl dX1_passBond_139 ?_
                  refine lv_iload_n hx hb dX1_passBond_142 rfl (lv_at hl 3 rfl) ?_
                  refine va_iald hx hb hK hP ((o + 1)) ((o + 1)) (at_22 (kk_1_1 ho)) (ty_22 (kk_1_1 ho)) (gin (N := 4) (by decide) hh0 hh1) dX1_passBond_143 ?_
                  refine lv_topi (fun x_53 _ => ?_)
                  refine lv_i2l hx hb dX1_passBond_144 rfl ?_
                  refine lv_lmul hx hb dX1_passBond_145 ?_
                  refine lv_topl (fun x_54 ex_54 => ?_)
                  refine lv_ladd hx hb dX1_passBond_146 ?_
                  refine lv_topl (fun x_55 ex_55 => ?_)
                  refine lv_lstore (lv' := [(5, .long x_55), (7, .int i7), (0, .ref (ad o)), (1, .int p0), (2, .ref (ad a1)), (3, .int p2), (4, .ref (ad a3))]) hx hb dX1_passBond_147 hl (by decide) rfl (fun ls hl => ?_)
                  refine lv_aload_n hx hb dX1_passBond_149 rfl (lv_at hl 2 rfl) ?_
                  refine va_get (D := (dC, dI)) (ci := 1) (v := .ref (ad (o + 1))) (C := RX1) (T := TX1) (N := 4) hx hb hts hinX1 hown hK hP o (at_1 ho) rfl 0 (by decide) (hts (.fieldLink RX1 9 "BondCalendars$Book" "held" "[I") (by decide +kernel)) (fun _ h9 => h9) rfl dX1_passBond_150 ?_
                  refine lv_iload_n hx hb dX1_passBond_153 rfl (lv_at hl 3 rfl) ?_
                  refine lv_iconst (v := 0) hx hb dX1_passBond_154 (by decide) ?_
                  refine va_iast hx hb hK hP hD hS ((o + 1)) ((o + 1)) (at_22 (kk_1_1 ho)) (ty_22 (kk_1_1 ho)) (gin (N := 4) (by decide) hh0 hh1) dX1_passBond_155 (fun H locs hP hD hS => ?_)
                  obtain ⟨σ6, eσ6, hP, hD⟩ := gPut (se_22 (kk_1_1 ho)) hP hD
                  have hIσ6 : InvX σ6 := by rw [eσ6]; exact inv_I hIσ4 (ok_22 (kk_1_1 ho) _ _)
                  have frσ6 : gFr [5, 22, 24] σ σ6 := by rw [eσ6]; exact gFr.pI (gFr.tr frσ6x fcσ4 (by decide)) (kk_1_1 ho) (by decide)
                  obtain ⟨x_56, ex_56⟩ : ∃ zz : Int32, zz = i7 + 1 := ⟨_, rfl⟩
                  refine lv_iinc (v := x_56) (lv' := [(7, .int x_56), (5, .long x_55), (0, .ref (ad o)), (1, .int p0), (2, .ref (ad a1)), (3, .int p2), (4, .ref (ad a3))]) hx hb dX1_passBond_156 hl (k := 1) rfl (by rw [ex_56]; rfl) (by decide) rfl (fun ls hl => ?_)
                  refine lv_goto (tgt := 6) hx hb dX1_passBond_159 (by decide) ?_
                  exact ih6 x_56 x_55 σ6 _ _ _ _ (cnt_m iv6_0 (Int32.not_le.mp c_3) hm6 ex_56) (cnt_0 iv6_0 (Int32.not_le.mp c_3) ex_56) hIσ6 frσ6 hd0 hP hD hS (lv_sub hl [0, 1, 2, 3, 4, 5, 6] rfl)
              · refine lv_goto (tgt := 156) hx hb dX1_passBond_87 (by decide) ?_
                obtain ⟨x_57, ex_57⟩ : ∃ zz : Int32, zz = i7 + 1 := ⟨_, rfl⟩
                refine lv_iinc (v := x_57) (lv' := [(7, .int x_57), (5, .long cm), (0, .ref (ad o)), (1, .int p0), (2, .ref (ad a1)), (3, .int p2), (4, .ref (ad a3))]) hx hb dX1_passBond_156 hl (k := 0) rfl (by rw [ex_57]; rfl) (by decide) rfl (fun ls hl => ?_)
                refine lv_goto (tgt := 6) hx hb dX1_passBond_159 (by decide) ?_
                exact ih6 x_57 cm σ6x _ _ _ _ (cnt_m iv6_0 (Int32.not_le.mp c_3) hm6 ex_57) (cnt_0 iv6_0 (Int32.not_le.mp c_3) ex_57) hIσ6x frσ6x hd0 hP hD hS (lv_sub hl [0, 1, 2, 3, 4, 5, 6] rfl)
          · refine lv_aload_n hx hb dX1_passBond_47 rfl (lv_at hl 2 rfl) ?_
            refine va_get (D := (dC, dI)) (ci := 1) (v := .ref (ad (o + 2))) (C := RX1) (T := TX1) (N := 4) hx hb hts hinX1 hown hK hP o (at_1 ho) rfl 1 (by decide) (hts (.fieldLink RX1 19 "BondCalendars$Book" "entitled" "[[I") (by decide +kernel)) (fun _ h9 => h9) rfl dX1_passBond_48 ?_
            refine lv_iload_n hx hb dX1_passBond_51 rfl (lv_at hl 3 rfl) ?_
            have hi_58 : vp_in p0 4 := (gin (N := 4) (by decide) hh0 hh1)
            refine va_ald2 hx hb hK hP ((o + 2)) ((o + 2)) (at_23 (kk_1_2 ho)) (ty_23 (kk_1_2 ho)) hi_58 dX1_passBond_52 ?_
            refine (fun h => (va_rd_23 (ad := ad) (c := (o + 2)) hi_58) ▸ h) ?_
            obtain ⟨c_59, hc_60, ecc_59⟩ : ∃ z, kX z = 24 ∧ (o + 2) + 1 + p0.toNatClampNeg = z := ⟨_, kr_23 (kk_1_2 ho) (Nat.not_le.mp fun q => hi_58 (Or.inr q)), rfl⟩
            rw [ecc_59]
            refine lv_iload hx hb dX1_passBond_53 (lv_at hl 0 rfl) ?_
            refine lv_aload_n hx hb dX1_passBond_55 rfl (lv_at hl 2 rfl) ?_
            refine va_get (D := (dC, dI)) (ci := 1) (v := .ref (ad (o + 1))) (C := RX1) (T := TX1) (N := 4) hx hb hts hinX1 hown hK hP o (at_1 ho) rfl 0 (by decide) (hts (.fieldLink RX1 9 "BondCalendars$Book" "held" "[I") (by decide +kernel)) (fun _ h9 => h9) rfl dX1_passBond_56 ?_
            refine lv_iload_n hx hb dX1_passBond_59 rfl (lv_at hl 3 rfl) ?_
            refine va_iald hx hb hK hP ((o + 1)) ((o + 1)) (at_22 (kk_1_1 ho)) (ty_22 (kk_1_1 ho)) (gin (N := 4) (by decide) hh0 hh1) dX1_passBond_60 ?_
            refine lv_topi (fun x_61 _ => ?_)
            refine va_iast hx hb hK hP hD hS c_59 c_59 (at_24 hc_60) (ty_24 hc_60) (gin (N := 81) (by decide) iv6_0 (Int32.not_le.mp c_3)) dX1_passBond_61 (fun H locs hP hD hS => ?_)
            obtain ⟨σ7, eσ7, hP, hD⟩ := gPut (se_24 hc_60) hP hD
            have hIσ7 : InvX σ7 := by rw [eσ7]; exact inv_I hIσ6x (ok_24 hc_60 _ _)
            have frσ7 : gFr [5, 22, 24] σ σ7 := by rw [eσ7]; exact gFr.pI frσ6x hc_60 (by decide)
            refine lv_aload_n hx hb dX1_passBond_62 rfl (lv_at hl 4 rfl) ?_
            refine va_get (D := (dC, dI)) (ci := 0) (v := .ref (ad (a1 + 4))) (C := RX0) (T := TX0) (N := 16) hx hb hts hinX0 hown hK hP a1 (at_0 ha1) rfl 13 (by decide) (hts (.fieldLink RX1 47 "BondCalendars$Bond" "payDays" "[I") (by decide +kernel)) (fun _ h9 => h9) rfl dX1_passBond_63 ?_
            refine lv_iload hx hb dX1_passBond_66 (lv_at hl 0 rfl) ?_
            refine va_iald hx hb hK hP ((a1 + 4)) ((a1 + 4)) (at_24 (kk_0_4 ha1)) (ty_24 (kk_0_4 ha1)) (gin (N := 81) (by decide) iv6_0 (Int32.not_le.mp c_3)) dX1_passBond_68 ?_
            refine lv_topi (fun x_62 _ => ?_)
            refine lv_aload_n hx hb dX1_passBond_69 rfl (lv_at hl 2 rfl) ?_
            refine va_get (D := (dC, dI)) (ci := 1) (v := .int ((σ o).1 3)) (C := RX1) (T := TX1) (N := 4) hx hb hts hinX1 hown hK hP o (at_1 ho) rfl 3 (by decide) (hts (.fieldLink RX1 26 "BondCalendars$Book" "today" "I") (by decide +kernel)) (fun _ h9 => h9) (congrArg (fun z => some (Value.int z)) (show (σ7 o).1 3 = ((σ o).1 3) from by rw [eσ7, gI_ne _ _ _ (kne ho hc_60 (by decide)), frσ6x o (by rw [ho]; decide)])) dX1_passBond_70 ?_
            refine lv_icmp_le (tgt := 156) hx hb dX1_passBond_73 (by decide) (fun c_63 => ?_) (fun c_63 => ?_)
            · obtain ⟨x_64, ex_64⟩ : ∃ zz : Int32, zz = i7 + 1 := ⟨_, rfl⟩
              refine lv_iinc (v := x_64) (lv' := [(7, .int x_64), (5, .long cm), (0, .ref (ad o)), (1, .int p0), (2, .ref (ad a1)), (3, .int p2), (4, .ref (ad a3))]) hx hb dX1_passBond_156 hl (k := 0) rfl (by rw [ex_64]; rfl) (by decide) rfl (fun ls hl => ?_)
              refine lv_goto (tgt := 6) hx hb dX1_passBond_159 (by decide) ?_
              exact ih6 x_64 cm σ7 _ _ _ _ (cnt_m iv6_0 (Int32.not_le.mp c_3) hm6 ex_64) (cnt_0 iv6_0 (Int32.not_le.mp c_3) ex_64) hIσ7 frσ7 hd0 hP hD hS (lv_sub hl [0, 1, 2, 3, 4, 5, 6] rfl)
            · refine lv_aload_n hx hb dX1_passBond_76 rfl (lv_at hl 4 rfl) ?_
              refine va_get (D := (dC, dI)) (ci := 0) (v := .ref (ad (a1 + 4))) (C := RX0) (T := TX0) (N := 16) hx hb hts hinX0 hown hK hP a1 (at_0 ha1) rfl 13 (by decide) (hts (.fieldLink RX1 47 "BondCalendars$Bond" "payDays" "[I") (by decide +kernel)) (fun _ h9 => h9) rfl dX1_passBond_77 ?_
              refine lv_iload hx hb dX1_passBond_80 (lv_at hl 0 rfl) ?_
              refine va_iald hx hb hK hP ((a1 + 4)) ((a1 + 4)) (at_24 (kk_0_4 ha1)) (ty_24 (kk_0_4 ha1)) (gin (N := 81) (by decide) iv6_0 (Int32.not_le.mp c_3)) dX1_passBond_82 ?_
              refine lv_topi (fun x_65 _ => ?_)
              refine lv_iload_n hx hb dX1_passBond_83 rfl (lv_at hl 5 rfl) ?_
              refine lv_icmp_le (tgt := 90) hx hb dX1_passBond_84 (by decide) (fun c_66 => ?_) (fun c_66 => ?_)
              · refine lv_aload_n hx hb dX1_passBond_90 rfl (lv_at hl 4 rfl) ?_
                refine lv_iload hx hb dX1_passBond_91 (lv_at hl 0 rfl) ?_
                refine lv_aload hx hb dX1_passBond_93 (lv_at hl 6 rfl) ?_
                have hF := gFree hD hS hA
                refine va_callvD hd0 (va_runV_D (As := [.int i7, .ref (ad a3)]) (rest := []) ⟨hx, hb, hml, hown, hts⟩ (n_X0_measureCoupon l dC dI ad cA adK adV H.size σ7 hIσ7 a1 ha1 i7 a3 ha3) (cwV 2 hts gX1_passBond_X0_measureCoupon rfl rfl rfl (by decide +kernel) ⟨Nat.le_of_ble_eq_true rfl, Nat.le_of_ble_eq_true rfl⟩) ⟨gBlind, va_recv hK hP (ci := 0) (q0 := a1) rfl (at_0 ha1), gStart (As := [.ref (ad a1), .int i7, .ref (ad a3)]) hP hD hK0 hT hS hF (d6)⟩ rfl rfl hl.1 rfl (lv_room (Nat.le_of_ble_eq_true rfl)) dX1_passBond_95 ⟨Nat.le_of_ble_eq_true rfl, Nat.le_of_ble_eq_true rfl⟩) hS (fun q _ h => hF q h) hF (fun σ8 t H locs ht hvm hw hB hz1 hk1 hS d_68 hd0 => ?_)
                have hts := dr_words hts0 (d_68)
                have hK := gKd hK0 (d_68)
                have hown : (s.setDrawn (d_68)).vm.findClass RX1 = some m.cls := hown0
                obtain ⟨hP, hD⟩ := gBack hF ht hB
                obtain ⟨hIσ8, fcσ8, hp_69⟩ := hw
                refine lv_lload hx hb dX1_passBond_98 (lv_at hl 1 rfl) ?_
                refine lv_aload hx hb dX1_passBond_100 (lv_at hl 6 rfl) ?_
                refine lv_aload_n hx hb dX1_passBond_102 rfl (lv_at hl 2 rfl) ?_
                refine va_get (D := (dC, dI)) (ci := 1) (v := .ref (ad (o + 2))) (C := RX1) (T := TX1) (N := 4) hx hb hts hinX1 hown hK hP o (at_1 ho) rfl 1 (by decide) (hts (.fieldLink RX1 19 "BondCalendars$Book" "entitled" "[[I") (by decide +kernel)) (fun _ h9 => h9) rfl dX1_passBond_103 ?_
                refine lv_iload_n hx hb dX1_passBond_106 rfl (lv_at hl 3 rfl) ?_
                have hi_70 : vp_in p0 4 := (gin (N := 4) (by decide) hh0 hh1)
                refine va_ald2 hx hb hK hP ((o + 2)) ((o + 2)) (at_23 (kk_1_2 ho)) (ty_23 (kk_1_2 ho)) hi_70 dX1_passBond_107 ?_
                refine (fun h => (va_rd_23 (ad := ad) (c := (o + 2)) hi_70) ▸ h) ?_
                obtain ⟨c_71, hc_72, ecc_71⟩ : ∃ z, kX z = 24 ∧ (o + 2) + 1 + p0.toNatClampNeg = z := ⟨_, kr_23 (kk_1_2 ho) (Nat.not_le.mp fun q => hi_70 (Or.inr q)), rfl⟩
                rw [ecc_71]
                refine lv_iload hx hb dX1_passBond_108 (lv_at hl 0 rfl) ?_
                refine va_iald hx hb hK hP c_71 c_71 (at_24 hc_72) (ty_24 hc_72) (gin (N := 81) (by decide) iv6_0 (Int32.not_le.mp c_3)) dX1_passBond_110 ?_
                refine lv_topi (fun x_73 _ => ?_)
                refine lv_i2l hx hb dX1_passBond_111 rfl ?_
                refine lv_ldc2 (v := 100) hx hb hown (hts (.constantLong RX1 54 (100)) (by decide +kernel)) dX1_passBond_112 ?_
                refine lv_lmul hx hb dX1_passBond_115 ?_
                refine lv_topl (fun x_74 ex_74 => ?_)
                have hF := gFree hD hS hA
                refine va_calllD hd0 (va_runV_D (As := [.long x_74]) (rest := [.long cm]) ⟨hx, hb, hml, hown, hts⟩ (n_X6_floorTimes l dC dI ad cA adK adV H.size σ8 hIσ8 a3 ha3 x_74) (cwV 1 hts gX1_passBond_X6_floorTimes rfl rfl rfl (by decide +kernel) ⟨Nat.le_of_ble_eq_true rfl, Nat.le_of_ble_eq_true rfl⟩) ⟨gBlind, va_recv hK hP (ci := 5) (q0 := a3) rfl (at_5 ha3), gStart (As := [.ref (ad a3), .long x_74]) hP hD hK0 hT hS hF (d_68)⟩ rfl rfl hl.1 rfl (lv_room (Nat.le_of_ble_eq_true rfl)) dX1_passBond_116 ⟨Nat.le_of_ble_eq_true rfl, Nat.le_of_ble_eq_true rfl⟩) hS (fun q _ h => hF q h) hF (fun r_75 σ9 t H locs ht hvm hw hB hz1 hk1 hS d_76 hd0 => ?_)
                have hts := dr_words hts0 (d_76)
                have hK := gKd hK0 (d_76)
                have hown : (s.setDrawn (d_76)).vm.findClass RX1 = some m.cls := hown0
                obtain ⟨hP, hD⟩ := gBack hF ht hB
                obtain ⟨hIσ9, hro, hp_77⟩ := hw
                subst hro
                refine lv_ladd hx hb dX1_passBond_119 ?_
                refine lv_topl (fun x_78 ex_78 => ?_)
                refine lv_lstore (lv' := [(5, .long x_78), (7, .int i7), (0, .ref (ad o)), (1, .int p0), (2, .ref (ad a1)), (3, .int p2), (4, .ref (ad a3))]) hx hb dX1_passBond_120 hl (by decide) rfl (fun ls hl => ?_)
                refine lv_iload hx hb dX1_passBond_122 (lv_at hl 1 rfl) ?_
                refine lv_aload_n hx hb dX1_passBond_124 rfl (lv_at hl 4 rfl) ?_
                refine va_get (D := (dC, dI)) (ci := 0) (v := .int ((σ a1).1 9)) (C := RX0) (T := TX0) (N := 16) hx hb hts hinX0 hown hK hP a1 (at_0 ha1) rfl 9 (by decide) (hts (.fieldLink RX1 41 "BondCalendars$Bond" "periods" "I") (by decide +kernel)) (fun _ h9 => h9) (congrArg (fun z => some (Value.int z)) (show (σ8 a1).1 9 = ((σ a1).1 9) from by rw [fcσ8 a1 (by rw [ha1]; decide), eσ7, gI_ne _ _ _ (kne ha1 hc_60 (by decide)), frσ6x a1 (by rw [ha1]; decide)])) dX1_passBond_125 ?_
                refine lv_iconst (v := 1) hx hb dX1_passBond_128 (by decide) ?_
                refine lv_isub hx hb dX1_passBond_129 ?_
                refine lv_topi (fun x_79 ex_79 => ?_)
                refine lv_icmp_ne (tgt := 156) hx hb dX1_passBond_130 (by decide) (fun c_80 => ?_) (fun c_80 => ?_)
                · obtain ⟨x_81, ex_81⟩ : ∃ zz : Int32, zz = i7 + 1 := ⟨_, rfl⟩
                  refine lv_iinc (v := x_81) (lv' := [(7, .int x_81), (5, .long x_78), (0, .ref (ad o)), (1, .int p0), (2, .ref (ad a1)), (3, .int p2), (4, .ref (ad a3))]) hx hb dX1_passBond_156 hl (k := 1) rfl (by rw [ex_81]; rfl) (by decide) rfl (fun ls hl => ?_)
                  refine lv_goto (tgt := 6) hx hb dX1_passBond_159 (by decide) ?_
                  exact ih6 x_81 x_78 σ8 _ _ _ _ (cnt_m iv6_0 (Int32.not_le.mp c_3) hm6 ex_81) (cnt_0 iv6_0 (Int32.not_le.mp c_3) ex_81) hIσ8 (gFr.tr frσ7 fcσ8 (by decide)) hd0 hP hD hS (lv_sub hl [0, 1, 2, 3, 4, 5, 6] rfl)
                · refine lv_lload hx hb dX1_passBond_133 (lv_at hl 0 rfl) ?_
                  refine lv_ldc2 (v := 10000) hx hb hown (hts (.constantLong RX1 62 (10000)) (by decide +kernel)) dX1_passBond_135 ?_
                  refine lv_aload_n hx hb dX1_passBond_138 rfl (lv_at hl 2 rfl) ?_
                  refine va_get (D := (dC, dI)) (ci := 1) (v := .ref (ad (o + 1))) (C := RX1) (T := TX1) (N := 4) hx hb hts hinX1 hown hK hP o (at_1 ho) rfl 0 (by decide) (hts (.fieldLink RX1 9 "BondCalendars$Book" "held" "[I") (by decide +kernel)) (fun _ h9 => h9) rfl dX1_passBond_139 ?_
                  refine lv_iload_n hx hb dX1_passBond_142 rfl (lv_at hl 3 rfl) ?_
                  refine va_iald hx hb hK hP ((o + 1)) ((o + 1)) (at_22 (kk_1_1 ho)) (ty_22 (kk_1_1 ho)) (gin (N := 4) (by decide) hh0 hh1) dX1_passBond_143 ?_
                  refine lv_topi (fun x_82 _ => ?_)
                  refine lv_i2l hx hb dX1_passBond_144 rfl ?_
                  refine lv_lmul hx hb dX1_passBond_145 ?_
                  refine lv_topl (fun x_83 ex_83 => ?_)
                  refine lv_ladd hx hb dX1_passBond_146 ?_
                  refine lv_topl (fun x_84 ex_84 => ?_)
                  refine lv_lstore (lv' := [(5, .long x_84), (7, .int i7), (0, .ref (ad o)), (1, .int p0), (2, .ref (ad a1)), (3, .int p2), (4, .ref (ad a3))]) hx hb dX1_passBond_147 hl (by decide) rfl (fun ls hl => ?_)
                  refine lv_aload_n hx hb dX1_passBond_149 rfl (lv_at hl 2 rfl) ?_
                  refine va_get (D := (dC, dI)) (ci := 1) (v := .ref (ad (o + 1))) (C := RX1) (T := TX1) (N := 4) hx hb hts hinX1 hown hK hP o (at_1 ho) rfl 0 (by decide) (hts (.fieldLink RX1 9 "BondCalendars$Book" "held" "[I") (by decide +kernel)) (fun _ h9 => h9) rfl dX1_passBond_150 ?_
                  refine lv_iload_n hx hb dX1_passBond_153 rfl (lv_at hl 3 rfl) ?_
                  refine lv_iconst (v := 0) hx hb dX1_passBond_154 (by decide) ?_
                  refine va_iast hx hb hK hP hD hS ((o + 1)) ((o + 1)) (at_22 (kk_1_1 ho)) (ty_22 (kk_1_1 ho)) (gin (N := 4) (by decide) hh0 hh1) dX1_passBond_155 (fun H locs hP hD hS => ?_)
                  obtain ⟨σ10, eσ10, hP, hD⟩ := gPut (se_22 (kk_1_1 ho)) hP hD
                  have hIσ10 : InvX σ10 := by rw [eσ10]; exact inv_I hIσ8 (ok_22 (kk_1_1 ho) _ _)
                  have frσ10 : gFr [5, 22, 24] σ σ10 := by rw [eσ10]; exact gFr.pI (gFr.tr frσ7 fcσ8 (by decide)) (kk_1_1 ho) (by decide)
                  obtain ⟨x_85, ex_85⟩ : ∃ zz : Int32, zz = i7 + 1 := ⟨_, rfl⟩
                  refine lv_iinc (v := x_85) (lv' := [(7, .int x_85), (5, .long x_84), (0, .ref (ad o)), (1, .int p0), (2, .ref (ad a1)), (3, .int p2), (4, .ref (ad a3))]) hx hb dX1_passBond_156 hl (k := 1) rfl (by rw [ex_85]; rfl) (by decide) rfl (fun ls hl => ?_)
                  refine lv_goto (tgt := 6) hx hb dX1_passBond_159 (by decide) ?_
                  exact ih6 x_85 x_84 σ10 _ _ _ _ (cnt_m iv6_0 (Int32.not_le.mp c_3) hm6 ex_85) (cnt_0 iv6_0 (Int32.not_le.mp c_3) ex_85) hIσ10 frσ10 hd0 hP hD hS (lv_sub hl [0, 1, 2, 3, 4, 5, 6] rfl)
              · refine lv_goto (tgt := 156) hx hb dX1_passBond_87 (by decide) ?_
                obtain ⟨x_86, ex_86⟩ : ∃ zz : Int32, zz = i7 + 1 := ⟨_, rfl⟩
                refine lv_iinc (v := x_86) (lv' := [(7, .int x_86), (5, .long cm), (0, .ref (ad o)), (1, .int p0), (2, .ref (ad a1)), (3, .int p2), (4, .ref (ad a3))]) hx hb dX1_passBond_156 hl (k := 0) rfl (by rw [ex_86]; rfl) (by decide) rfl (fun ls hl => ?_)
                refine lv_goto (tgt := 6) hx hb dX1_passBond_159 (by decide) ?_
                exact ih6 x_86 cm σ7 _ _ _ _ (cnt_m iv6_0 (Int32.not_le.mp c_3) hm6 ex_86) (cnt_0 iv6_0 (Int32.not_le.mp c_3) ex_86) hIσ7 frσ7 hd0 hP hD hS (lv_sub hl [0, 1, 2, 3, 4, 5, 6] rfl)
set_option maxHeartbeats 8000000 in
set_option maxRecDepth 100000 in
theorem n_X1_passDays (l : Launch) (dC : Nat → ClassId) (dI : Nat → Nat → Nat) (ad : Nat → Nat) (cA : Nat → ClassId) (adK adV : Nat → Nat) (sz : Nat) (σ : gs) (hI : InvX σ) (o : Nat) (ho : kX o = 1) (p0 : Int32) (a1 : Nat) (ha1 : kX a1 = 3) (a2 : Nat) (ha2 : kX a2 = 5) : MetD lw_cs l yX1_passDays wsX1_passDays ({ frames := 6, cells := 0, slots := 0, locals := 158 }) (va_Pc [.ref (ad o), .int p0, .ref (ad a1), .ref (ad a2)] (gPre adK adV (dC, dI) (wX ad cA σ) (tX cA) sz)) (va_Ql (fun (r : Int64) (τ : gs) => InvX τ ∧ gFr [1, 5, 22, 24] σ τ ∧ (True)) (fun τ t => gPost (dC, dI) (va_A (wX ad cA σ) sz) (wX ad cA τ) t) (va_A (wX ad cA σ) sz)) 0 0 (va_A (wX ad cA σ) sz) := by
  refine MetD.ofW (cc := cX1_passDays) (maxL := 7) (ret := (some .long)) (by decide) rfl ?_
  intro p e s m args below meth c s₁ B hml hv hd0
  obtain ⟨rfl, hsz, hP, hK, hD0, hT⟩ := hv
  have hx := B.exec
  have hb := B.bytes
  have hr := B.returns
  have hts0 := atoms_spec (ws := wsX1_passDays) B.pre
  have hK0 := hK
  have hown0 : s.vm.findClass RX1 = some m.cls := findClass_of_methodNamed B.named
  have hlocks := B.notSynchronized
  have hinX4 : ∀ w ∈ u_ws RX4 TX4 12, w ∈ wsX1_passDays := (fun _ h9 => List.mem_cons_of_mem _ (List.mem_append_left _ (List.mem_append_left _ (List.mem_append_left _ (List.mem_append_right _ h9)))))
  have hinX1 : ∀ w ∈ u_ws RX1 TX1 4, w ∈ wsX1_passDays := (fun _ h9 => List.mem_cons_of_mem _ (List.mem_append_left _ (List.mem_append_left _ (List.mem_append_right _ h9))))
  subst hsz
  have hD := hD0.self (sz := s.heap.size)
  generalize hAe : va_A (wX ad cA σ) s.heap.size = A at hD hT ⊢
  have hA : ∀ q : Nat, s.heap.size ≤ q → A q := fun q h => by rw [← hAe]; exact Or.inr h
  have hS : va_S A s.heap s.heap [] := va_S.rf
  have hl := lv_entry ([.ref (ad o), .int p0, .ref (ad a1), .ref (ad a2)]) (n := 7) (Nat.le_of_ble_eq_true rfl)
  rw [lg_entry_eq]
  generalize (lg_sl ([.ref (ad o), .int p0, .ref (ad a1), .ref (ad a2)]) ++ List.replicate (7 - (lg_sl ([.ref (ad o), .int p0, .ref (ad a1), .ref (ad a2)])).length) Slot.unset).toArray = ls at hl ⊢
  have hl : lv_has ls 7 [(0, .ref (ad o)), (1, .int p0), (2, .ref (ad a1)), (3, .ref (ad a2))] := hl
  have hts := dr_words hts0 (s.drawn)
  have hK := gKd hK0 (s.drawn)
  have hown : (s.setDrawn (s.drawn)).vm.findClass RX1 = some m.cls := hown0
  refine lv_lconst (v := 0) hx hb dX1_passDays_0 (by decide) ?_
  refine lv_lstore (lv' := [(4, .long 0), (0, .ref (ad o)), (1, .int p0), (2, .ref (ad a1)), (3, .ref (ad a2))]) hx hb dX1_passDays_1 hl (by decide) rfl (fun ls hl => ?_)
  refine lv_iconst (v := 0) hx hb dX1_passDays_3 (by decide) ?_
  refine lv_istore (lv' := [(6, .int 0), (4, .long 0), (0, .ref (ad o)), (1, .int p0), (2, .ref (ad a1)), (3, .ref (ad a2))]) hx hb dX1_passDays_4 hl (by decide) rfl (fun ls hl => ?_)
  refine (fun (h : ∀ (n : Nat) (i6 : Int32) (cm : Int64) (σ6x : gs) (d6 : Drawn) (H : Heap) (locs : List Loc) (ls : Array Slot), ((4 : Int32).toInt - i6.toInt).toNat < n → 0 ≤ i6 → InvX σ6x → gFr [1, 5, 22, 24] σ σ6x → s.drawn.sameBut d6 lw_cs → va_P (dC, dI) vwCl (wX ad cA σ6x) H → va_D A (wX ad cA σ6x) → va_S A s.heap H locs → lv_has ls 7 [(6, .int i6), (4, .long cm), (0, .ref (ad o)), (1, .int p0), (2, .ref (ad a1)), (3, .ref (ad a2))] → W p l e _ (s.setDrawn d6) m _ below meth c H locs _ _ _ (F0 m 6 ls [])) => h _ 0 0 σ _ _ _ _ (Nat.lt_succ_self _) (by decide) hI (gFr.rfl (L := [1, 5, 22, 24]) (σ := σ)) hd0 hP hD hS (lv_sub hl [0, 1, 2, 3, 4, 5] rfl)) ?_
  intro n6
  induction n6 with
  | zero => intro i6 cm σ6x d6 H locs ls hm; exact absurd hm (Nat.not_lt_zero _)
  | succ n6 ih6 =>
    intro i6 cm σ6x d6 H locs ls hm6 iv6_0 hIσ6x frσ6x hd0 hP hD hS hl
    have hts := dr_words hts0 (d6)
    have hK := gKd hK0 (d6)
    have hown : (s.setDrawn (d6)).vm.findClass RX1 = some m.cls := hown0
    refine lv_iload hx hb dX1_passDays_6 (lv_at hl 0 rfl) ?_
    refine lv_aload_n hx hb dX1_passDays_8 rfl (lv_at hl 4 rfl) ?_
    refine va_get (D := (dC, dI)) (ci := 3) (v := .int ((σ a1).1 4)) (C := RX4) (T := TX4) (N := 12) hx hb hts hinX4 hown hK hP a1 (at_3 ha1) rfl 4 (by decide) (hts (.fieldLink RX1 30 "BondCalendars$Desk" "bondCount" "I") (by decide +kernel)) (fun _ h9 => h9) (congrArg (fun z => some (Value.int z)) (show (σ6x a1).1 4 = ((σ a1).1 4) from by rw [frσ6x a1 (by rw [ha1]; decide)])) dX1_passDays_9 ?_
    refine lv_icmp_ge (tgt := 52) hx hb dX1_passDays_12 (by decide) (fun c_1 => ?_) (fun c_1 => ?_)
    · refine lv_aload_n hx hb dX1_passDays_52 rfl (lv_at hl 2 rfl) ?_
      refine lv_dup hx hb dX1_passDays_53 rfl ?_
      refine va_get (D := (dC, dI)) (ci := 1) (v := .int ((σ6x o).1 3)) (C := RX1) (T := TX1) (N := 4) hx hb hts hinX1 hown hK hP o (at_1 ho) rfl 3 (by decide) (hts (.fieldLink RX1 26 "BondCalendars$Book" "today" "I") (by decide +kernel)) (fun _ h9 => h9) rfl dX1_passDays_54 ?_
      refine lv_iload_n hx hb dX1_passDays_57 rfl (lv_at hl 3 rfl) ?_
      refine lv_iadd hx hb dX1_passDays_58 ?_
      refine lv_topi (fun x_2 ex_2 => ?_)
      refine va_put (D := (dC, dI)) (ci := 1) (v := .int x_2) (C := RX1) (T := TX1) (N := 4) hx hb hts hinX1 tyX1 tyX1_ok nmX1 hown hK hP hD hS o (at_1 ho) rfl 3 (by decide) (hts (.fieldLink RX1 26 "BondCalendars$Book" "today" "I") (by decide +kernel)) (fun _ h9 => h9) rfl (ty := .int) (by decide +kernel) rfl rfl (Nat.le_of_ble_eq_true rfl) dX1_passDays_59 (fun H locs hP hD hS => ?_)
      obtain ⟨σ1, eσ1, hP, hD⟩ := gPut (se_1_3 ho) hP hD
      have hIσ1 : InvX σ1 := by rw [eσ1]; exact inv_I hIσ6x (ok_1_3 ho _)
      have frσ1 : gFr [1, 5, 22, 24] σ σ1 := by rw [eσ1]; exact gFr.pI frσ6x ho (by decide)
      refine lv_aload_n hx hb dX1_passDays_62 rfl (lv_at hl 2 rfl) ?_
      refine lv_dup hx hb dX1_passDays_63 rfl ?_
      refine va_get (D := (dC, dI)) (ci := 1) (v := .long ((σ1 o).2.1 2)) (C := RX1) (T := TX1) (N := 4) hx hb hts hinX1 hown hK hP o (at_1 ho) rfl 2 (by decide) (hts (.fieldLink RX1 22 "BondCalendars$Book" "money" "J") (by decide +kernel)) (fun _ h9 => h9) rfl dX1_passDays_64 ?_
      refine lv_lload hx hb dX1_passDays_67 (lv_at hl 1 rfl) ?_
      refine lv_ladd hx hb dX1_passDays_69 ?_
      refine lv_topl (fun x_3 ex_3 => ?_)
      refine va_put (D := (dC, dI)) (ci := 1) (v := .long x_3) (C := RX1) (T := TX1) (N := 4) hx hb hts hinX1 tyX1 tyX1_ok nmX1 hown hK hP hD hS o (at_1 ho) rfl 2 (by decide) (hts (.fieldLink RX1 22 "BondCalendars$Book" "money" "J") (by decide +kernel)) (fun _ h9 => h9) rfl (ty := .long) (by decide +kernel) rfl rfl (Nat.le_of_ble_eq_true rfl) dX1_passDays_70 (fun H locs hP hD hS => ?_)
      obtain ⟨σ2, eσ2, hP, hD⟩ := gPut (se_1_2 ho) hP hD
      have hIσ2 : InvX σ2 := by rw [eσ2]; exact inv_L hIσ1
      have frσ2 : gFr [1, 5, 22, 24] σ σ2 := by rw [eσ2]; exact gFr.pL frσ1 ho (by decide)
      refine lv_lload hx hb dX1_passDays_73 (lv_at hl 1 rfl) ?_
      refine W.endD hd0 ?_
      exact W.lret (v := cm) hx hb hr (fun t ht hW => ⟨⟨cm, σ2, rfl, ⟨hIσ2, frσ2, trivial⟩, ⟨by rw [ht]; exact hP, hD⟩⟩, hS.F ht⟩) hS.2.2 dX1_passDays_75
    · refine lv_iload hx hb dX1_passDays_15 (lv_at hl 0 rfl) ?_
      refine lv_iconst (v := 4) hx hb dX1_passDays_17 (by decide) ?_
      refine lv_icmp_ge (tgt := 52) hx hb dX1_passDays_18 (by decide) (fun c_4 => ?_) (fun c_4 => ?_)
      · refine lv_aload_n hx hb dX1_passDays_52 rfl (lv_at hl 2 rfl) ?_
        refine lv_dup hx hb dX1_passDays_53 rfl ?_
        refine va_get (D := (dC, dI)) (ci := 1) (v := .int ((σ6x o).1 3)) (C := RX1) (T := TX1) (N := 4) hx hb hts hinX1 hown hK hP o (at_1 ho) rfl 3 (by decide) (hts (.fieldLink RX1 26 "BondCalendars$Book" "today" "I") (by decide +kernel)) (fun _ h9 => h9) rfl dX1_passDays_54 ?_
        refine lv_iload_n hx hb dX1_passDays_57 rfl (lv_at hl 3 rfl) ?_
        refine lv_iadd hx hb dX1_passDays_58 ?_
        refine lv_topi (fun x_5 ex_5 => ?_)
        refine va_put (D := (dC, dI)) (ci := 1) (v := .int x_5) (C := RX1) (T := TX1) (N := 4) hx hb hts hinX1 tyX1 tyX1_ok nmX1 hown hK hP hD hS o (at_1 ho) rfl 3 (by decide) (hts (.fieldLink RX1 26 "BondCalendars$Book" "today" "I") (by decide +kernel)) (fun _ h9 => h9) rfl (ty := .int) (by decide +kernel) rfl rfl (Nat.le_of_ble_eq_true rfl) dX1_passDays_59 (fun H locs hP hD hS => ?_)
        obtain ⟨σ3, eσ3, hP, hD⟩ := gPut (se_1_3 ho) hP hD
        have hIσ3 : InvX σ3 := by rw [eσ3]; exact inv_I hIσ6x (ok_1_3 ho _)
        have frσ3 : gFr [1, 5, 22, 24] σ σ3 := by rw [eσ3]; exact gFr.pI frσ6x ho (by decide)
        refine lv_aload_n hx hb dX1_passDays_62 rfl (lv_at hl 2 rfl) ?_
        refine lv_dup hx hb dX1_passDays_63 rfl ?_
        refine va_get (D := (dC, dI)) (ci := 1) (v := .long ((σ3 o).2.1 2)) (C := RX1) (T := TX1) (N := 4) hx hb hts hinX1 hown hK hP o (at_1 ho) rfl 2 (by decide) (hts (.fieldLink RX1 22 "BondCalendars$Book" "money" "J") (by decide +kernel)) (fun _ h9 => h9) rfl dX1_passDays_64 ?_
        refine lv_lload hx hb dX1_passDays_67 (lv_at hl 1 rfl) ?_
        refine lv_ladd hx hb dX1_passDays_69 ?_
        refine lv_topl (fun x_6 ex_6 => ?_)
        refine va_put (D := (dC, dI)) (ci := 1) (v := .long x_6) (C := RX1) (T := TX1) (N := 4) hx hb hts hinX1 tyX1 tyX1_ok nmX1 hown hK hP hD hS o (at_1 ho) rfl 2 (by decide) (hts (.fieldLink RX1 22 "BondCalendars$Book" "money" "J") (by decide +kernel)) (fun _ h9 => h9) rfl (ty := .long) (by decide +kernel) rfl rfl (Nat.le_of_ble_eq_true rfl) dX1_passDays_70 (fun H locs hP hD hS => ?_)
        obtain ⟨σ4, eσ4, hP, hD⟩ := gPut (se_1_2 ho) hP hD
        have hIσ4 : InvX σ4 := by rw [eσ4]; exact inv_L hIσ3
        have frσ4 : gFr [1, 5, 22, 24] σ σ4 := by rw [eσ4]; exact gFr.pL frσ3 ho (by decide)
        refine lv_lload hx hb dX1_passDays_73 (lv_at hl 1 rfl) ?_
        refine W.endD hd0 ?_
        exact W.lret (v := cm) hx hb hr (fun t ht hW => ⟨⟨cm, σ4, rfl, ⟨hIσ4, frσ4, trivial⟩, ⟨by rw [ht]; exact hP, hD⟩⟩, hS.F ht⟩) hS.2.2 dX1_passDays_75
      · refine lv_lload hx hb dX1_passDays_21 (lv_at hl 1 rfl) ?_
        refine lv_aload_n hx hb dX1_passDays_23 rfl (lv_at hl 2 rfl) ?_
        refine lv_iload hx hb dX1_passDays_24 (lv_at hl 0 rfl) ?_
        refine lv_aload_n hx hb dX1_passDays_26 rfl (lv_at hl 4 rfl) ?_
        refine va_get (D := (dC, dI)) (ci := 3) (v := .ref (ad (a1 + 3))) (C := RX4) (T := TX4) (N := 12) hx hb hts hinX4 hown hK hP a1 (at_3 ha1) rfl 3 (by decide) (hts (.fieldLink RX1 33 "BondCalendars$Desk" "bonds" "[LBondCalendars$Bond;") (by decide +kernel)) (fun _ h9 => h9) rfl dX1_passDays_27 ?_
        refine lv_iload hx hb dX1_passDays_30 (lv_at hl 0 rfl) ?_
        have hi_7 : vp_in i6 4 := (gin (N := 4) (by decide) iv6_0 (Int32.not_le.mp c_4))
        refine va_aldq hx hb hK hP ((a1 + 3)) ((a1 + 3)) (at_26 (kk_3_3 ha1)) (ty_26 (kk_3_3 ha1)) hi_7 dX1_passDays_32 ?_
        refine (fun h => (va_rd_26 (ad := ad) (c := (a1 + 3)) hi_7) ▸ h) ?_
        obtain ⟨c_8, hc_9, ecc_8⟩ : ∃ z, kX z = 0 ∧ (a1 + 3) + 1 + 7 * i6.toNatClampNeg = z := ⟨_, kr_26 (kk_3_3 ha1) (Nat.not_le.mp fun q => hi_7 (Or.inr q)), rfl⟩
        rw [ecc_8]
        refine lv_aload_n hx hb dX1_passDays_33 rfl (lv_at hl 2 rfl) ?_
        refine va_get (D := (dC, dI)) (ci := 1) (v := .int ((σ6x o).1 3)) (C := RX1) (T := TX1) (N := 4) hx hb hts hinX1 hown hK hP o (at_1 ho) rfl 3 (by decide) (hts (.fieldLink RX1 26 "BondCalendars$Book" "today" "I") (by decide +kernel)) (fun _ h9 => h9) rfl dX1_passDays_34 ?_
        refine lv_iload_n hx hb dX1_passDays_37 rfl (lv_at hl 3 rfl) ?_
        refine lv_iadd hx hb dX1_passDays_38 ?_
        refine lv_topi (fun x_10 ex_10 => ?_)
        refine lv_aload_n hx hb dX1_passDays_39 rfl (lv_at hl 5 rfl) ?_
        have hF := gFree hD hS hA
        refine va_calllD hd0 (va_runV_D (As := [.int i6, .ref (ad c_8), .int x_10, .ref (ad a2)]) (rest := [.long cm]) ⟨hx, hb, hml, hown, hts⟩ (n_X1_passBond l dC dI ad cA adK adV H.size σ6x hIσ6x o ho i6 c_8 hc_9 x_10 a2 ha2 iv6_0 (Int32.not_le.mp c_4)) (cwV 4 hts gX1_passDays_X1_passBond rfl rfl rfl (by decide +kernel) ⟨Nat.le_of_ble_eq_true rfl, Nat.le_of_ble_eq_true rfl⟩) ⟨gBlind, va_recv hK hP (ci := 1) (q0 := o) rfl (at_1 ho), gStart (As := [.ref (ad o), .int i6, .ref (ad c_8), .int x_10, .ref (ad a2)]) hP hD hK0 hT hS hF (d6)⟩ rfl rfl hl.1 rfl (lv_room (Nat.le_of_ble_eq_true rfl)) dX1_passDays_40 ⟨Nat.le_of_ble_eq_true rfl, Nat.le_of_ble_eq_true rfl⟩) hS (fun q _ h => hF q h) hF (fun r_11 σ5 t H locs ht hvm hw hB hz1 hk1 hS d_12 hd0 => ?_)
        have hts := dr_words hts0 (d_12)
        have hK := gKd hK0 (d_12)
        have hown : (s.setDrawn (d_12)).vm.findClass RX1 = some m.cls := hown0
        obtain ⟨hP, hD⟩ := gBack hF ht hB
        obtain ⟨hIσ5, fcσ5, hp_13⟩ := hw
        refine lv_ladd hx hb dX1_passDays_43 ?_
        refine lv_topl (fun x_14 ex_14 => ?_)
        refine lv_lstore (lv' := [(4, .long x_14), (6, .int i6), (0, .ref (ad o)), (1, .int p0), (2, .ref (ad a1)), (3, .ref (ad a2))]) hx hb dX1_passDays_44 hl (by decide) rfl (fun ls hl => ?_)
        obtain ⟨x_15, ex_15⟩ : ∃ zz : Int32, zz = i6 + 1 := ⟨_, rfl⟩
        refine lv_iinc (v := x_15) (lv' := [(6, .int x_15), (4, .long x_14), (0, .ref (ad o)), (1, .int p0), (2, .ref (ad a1)), (3, .ref (ad a2))]) hx hb dX1_passDays_46 hl (k := 1) rfl (by rw [ex_15]; rfl) (by decide) rfl (fun ls hl => ?_)
        refine lv_goto (tgt := 6) hx hb dX1_passDays_49 (by decide) ?_
        exact ih6 x_15 x_14 σ5 _ _ _ _ (cnt_m iv6_0 (Int32.not_le.mp c_4) hm6 ex_15) (cnt_0 iv6_0 (Int32.not_le.mp c_4) ex_15) hIσ5 (gFr.tr frσ6x fcσ5 (by decide)) hd0 hP hD hS (lv_sub hl [0, 1, 2, 3, 4, 5] rfl)
