set_option maxHeartbeats 8000000 in
set_option maxRecDepth 100000 in
theorem n_X5_contains (l : Launch) (dC : Nat → ClassId) (dI : Nat → Nat → Nat) (ad : Nat → Nat) (cA : Nat → ClassId) (adK adV : Nat → Nat) (sz : Nat) (σ : gs) (hI : InvX σ) (o : Nat) (ho : kX o = 4) (p0 : Int32) : MetD lw_cs l yX5_contains wsX5_contains ({ frames := 0, cells := 0, slots := 0, locals := 0 }) (va_Pc [.ref (ad o), .int p0] (gPre adK adV (dC, dI) (wX ad cA σ) (tX cA) sz)) (va_Qi (fun (r : Int32) (τ : gs) => InvX τ ∧ σ = τ ∧ (r = 0 ∨ r = 1)) (fun τ t => gPost (dC, dI) (va_A (wX ad cA σ) sz) (wX ad cA τ) t) (va_A (wX ad cA σ) sz)) 0 0 (va_A (wX ad cA σ) sz) := by
  refine MetD.ofW (cc := cX5_contains) (maxL := 3) (ret := (some .boolean)) (by decide) rfl ?_
  intro p e s m args below meth c s₁ B hml hv hd0
  obtain ⟨rfl, hsz, hP, hK, hD0, hT⟩ := hv
  have hx := B.exec
  have hb := B.bytes
  have hr := B.returns
  have hts0 := atoms_spec (ws := wsX5_contains) B.pre
  have hK0 := hK
  have hown0 : s.vm.findClass RX5 = some m.cls := findClass_of_methodNamed B.named
  have hlocks := B.notSynchronized
  have hinX5 : ∀ w ∈ u_ws RX5 TX5 2, w ∈ wsX5_contains := (fun _ h9 => List.mem_cons_of_mem _ (List.mem_append_right _ h9))
  subst hsz
  have hD := hD0.self (sz := s.heap.size)
  generalize hAe : va_A (wX ad cA σ) s.heap.size = A at hD hT ⊢
  have hA : ∀ q : Nat, s.heap.size ≤ q → A q := fun q h => by rw [← hAe]; exact Or.inr h
  have hS : va_S A s.heap s.heap [] := va_S.rf
  have hl := lv_entry ([.ref (ad o), .int p0]) (n := 3) (Nat.le_of_ble_eq_true rfl)
  rw [lg_entry_eq]
  generalize (lg_sl ([.ref (ad o), .int p0]) ++ List.replicate (3 - (lg_sl ([.ref (ad o), .int p0])).length) Slot.unset).toArray = ls at hl ⊢
  have hl : lv_has ls 3 [(0, .ref (ad o)), (1, .int p0)] := hl
  have hts := dr_words hts0 (s.drawn)
  have hK := gKd hK0 (s.drawn)
  have hown : (s.setDrawn (s.drawn)).vm.findClass RX5 = some m.cls := hown0
  refine lv_iconst (v := 0) hx hb dX5_contains_0 (by decide) ?_
  refine lv_istore_n (lv' := [(2, .int 0), (0, .ref (ad o)), (1, .int p0)]) hx hb dX5_contains_1 rfl hl (by decide) rfl (fun ls hl => ?_)
  refine (fun (h : ∀ (n : Nat) (i2 : Int32) (d2 : Drawn) (H : Heap) (locs : List Loc) (ls : Array Slot), ((10 : Int32).toInt - i2.toInt).toNat < n → 0 ≤ i2 → s.drawn.sameBut d2 lw_cs → va_P (dC, dI) vwCl (wX ad cA σ) H → va_D A (wX ad cA σ) → va_S A s.heap H locs → lv_has ls 3 [(2, .int i2), (0, .ref (ad o)), (1, .int p0)] → W p l e _ (s.setDrawn d2) m _ below meth c H locs _ _ _ (F0 m 2 ls [])) => h _ 0 _ _ _ _ (Nat.lt_succ_self _) (by decide) hd0 hP hD hS (lv_sub hl [0, 1, 2] rfl)) ?_
  intro n2
  induction n2 with
  | zero => intro i2  d2 H locs ls hm; exact absurd hm (Nat.not_lt_zero _)
  | succ n2 ih2 =>
    intro i2  d2 H locs ls hm2 iv2_0  hd0 hP hD hS hl
    have hts := dr_words hts0 (d2)
    have hK := gKd hK0 (d2)
    have hown : (s.setDrawn (d2)).vm.findClass RX5 = some m.cls := hown0
    refine lv_iload_n hx hb dX5_contains_2 rfl (lv_at hl 0 rfl) ?_
    refine lv_aload_n hx hb dX5_contains_3 rfl (lv_at hl 1 rfl) ?_
    have bd_1 := rd_4_1 (c := o) hI ho
    refine va_get (D := (dC, dI)) (ci := 4) (v := .int ((σ o).1 1)) (C := RX5) (T := TX5) (N := 2) hx hb hts hinX5 hown hK hP o (at_4 ho) rfl 1 (by decide) (hts (.fieldLink RX5 13 "BondCalendars$Holidays" "count" "I") (by decide +kernel)) (fun _ h9 => h9) rfl dX5_contains_4 ?_
    refine lv_icmp_ge (tgt := 37) hx hb dX5_contains_7 (by decide) (fun c_2 => ?_) (fun c_2 => ?_)
    · refine lv_iconst (v := 0) hx hb dX5_contains_37 (by decide) ?_
      refine W.endD hd0 ?_
      exact W.zret (v := 0) hx hb hr (by decide) (fun t ht hW => ⟨⟨0, σ, rfl, ⟨hI, rfl, Or.inl rfl⟩, ⟨by rw [ht]; exact hP, hD⟩⟩, hS.F ht⟩) hS.2.2 dX5_contains_38
    · refine lv_iload_n hx hb dX5_contains_10 rfl (lv_at hl 0 rfl) ?_
      refine lv_aload_n hx hb dX5_contains_11 rfl (lv_at hl 1 rfl) ?_
      refine va_get (D := (dC, dI)) (ci := 4) (v := .ref (ad (o + 1))) (C := RX5) (T := TX5) (N := 2) hx hb hts hinX5 hown hK hP o (at_4 ho) rfl 0 (by decide) (hts (.fieldLink RX5 9 "BondCalendars$Holidays" "list" "[I") (by decide +kernel)) (fun _ h9 => h9) rfl dX5_contains_12 ?_
      refine va_alen (v := 10) hx hb hK hP ((o + 1)) ((o + 1)) (at_25 (kk_4_1 ho)) (ty_25 (kk_4_1 ho)) rfl dX5_contains_15 ?_
      refine lv_icmp_ge (tgt := 37) hx hb dX5_contains_16 (by decide) (fun c_3 => ?_) (fun c_3 => ?_)
      · exact absurd c_3 (Int32.not_le.mpr (Int32.lt_of_lt_of_le (Int32.not_le.mp c_2) bd_1.2))
      · refine lv_aload_n hx hb dX5_contains_19 rfl (lv_at hl 1 rfl) ?_
        refine va_get (D := (dC, dI)) (ci := 4) (v := .ref (ad (o + 1))) (C := RX5) (T := TX5) (N := 2) hx hb hts hinX5 hown hK hP o (at_4 ho) rfl 0 (by decide) (hts (.fieldLink RX5 9 "BondCalendars$Holidays" "list" "[I") (by decide +kernel)) (fun _ h9 => h9) rfl dX5_contains_20 ?_
        refine lv_iload_n hx hb dX5_contains_23 rfl (lv_at hl 0 rfl) ?_
        refine va_iald hx hb hK hP ((o + 1)) ((o + 1)) (at_25 (kk_4_1 ho)) (ty_25 (kk_4_1 ho)) (gin (N := 10) (by decide) iv2_0 (Int32.not_le.mp c_3)) dX5_contains_24 ?_
        refine lv_topi (fun x_4 _ => ?_)
        refine lv_iload_n hx hb dX5_contains_25 rfl (lv_at hl 2 rfl) ?_
        refine lv_icmp_ne (tgt := 31) hx hb dX5_contains_26 (by decide) (fun c_5 => ?_) (fun c_5 => ?_)
        · obtain ⟨x_6, ex_6⟩ : ∃ zz : Int32, zz = i2 + 1 := ⟨_, rfl⟩
          refine lv_iinc (v := x_6) (lv' := [(2, .int x_6), (0, .ref (ad o)), (1, .int p0)]) hx hb dX5_contains_31 hl (k := 0) rfl (by rw [ex_6]; rfl) (by decide) rfl (fun ls hl => ?_)
          refine lv_goto (tgt := 2) hx hb dX5_contains_34 (by decide) ?_
          exact ih2 x_6 _ _ _ _ (cnt_m iv2_0 (Int32.not_le.mp c_3) hm2 ex_6) (cnt_0 iv2_0 (Int32.not_le.mp c_3) ex_6) hd0 hP hD hS (lv_sub hl [0, 1, 2] rfl)
        · refine lv_iconst (v := 1) hx hb dX5_contains_29 (by decide) ?_
          refine W.endD hd0 ?_
          exact W.zret (v := 1) hx hb hr (by decide) (fun t ht hW => ⟨⟨1, σ, rfl, ⟨hI, rfl, Or.inr rfl⟩, ⟨by rw [ht]; exact hP, hD⟩⟩, hS.F ht⟩) hS.2.2 dX5_contains_30
set_option maxHeartbeats 8000000 in
set_option maxRecDepth 100000 in
theorem n_X5_insert (l : Launch) (dC : Nat → ClassId) (dI : Nat → Nat → Nat) (ad : Nat → Nat) (cA : Nat → ClassId) (adK adV : Nat → Nat) (sz : Nat) (σ : gs) (hI : InvX σ) (o : Nat) (ho : kX o = 4) (p0 : Int32) : MetD lw_cs l yX5_insert wsX5_insert ({ frames := 0, cells := 0, slots := 0, locals := 0 }) (va_Pc [.ref (ad o), .int p0] (gPre adK adV (dC, dI) (wX ad cA σ) (tX cA) sz)) (va_Qv (fun (τ : gs) => InvX τ ∧ gFr [4, 25] σ τ ∧ (True)) (fun τ t => gPost (dC, dI) (va_A (wX ad cA σ) sz) (wX ad cA τ) t) (va_A (wX ad cA σ) sz)) 0 0 (va_A (wX ad cA σ) sz) := by
  refine MetD.ofW (cc := cX5_insert) (maxL := 3) (ret := none) (by decide) rfl ?_
  intro p e s m args below meth c s₁ B hml hv hd0
  obtain ⟨rfl, hsz, hP, hK, hD0, hT⟩ := hv
  have hx := B.exec
  have hb := B.bytes
  have hr := B.returns
  have hts0 := atoms_spec (ws := wsX5_insert) B.pre
  have hK0 := hK
  have hown0 : s.vm.findClass RX5 = some m.cls := findClass_of_methodNamed B.named
  have hlocks := B.notSynchronized
  have hinX5 : ∀ w ∈ u_ws RX5 TX5 2, w ∈ wsX5_insert := (fun _ h9 => List.mem_cons_of_mem _ (List.mem_append_right _ h9))
  subst hsz
  have hD := hD0.self (sz := s.heap.size)
  generalize hAe : va_A (wX ad cA σ) s.heap.size = A at hD hT ⊢
  have hA : ∀ q : Nat, s.heap.size ≤ q → A q := fun q h => by rw [← hAe]; exact Or.inr h
  have hS : va_S A s.heap s.heap [] := va_S.rf
  have hl := lv_entry ([.ref (ad o), .int p0]) (n := 3) (Nat.le_of_ble_eq_true rfl)
  rw [lg_entry_eq]
  generalize (lg_sl ([.ref (ad o), .int p0]) ++ List.replicate (3 - (lg_sl ([.ref (ad o), .int p0])).length) Slot.unset).toArray = ls at hl ⊢
  have hl : lv_has ls 3 [(0, .ref (ad o)), (1, .int p0)] := hl
  have hts := dr_words hts0 (s.drawn)
  have hK := gKd hK0 (s.drawn)
  have hown : (s.setDrawn (s.drawn)).vm.findClass RX5 = some m.cls := hown0
  refine lv_aload_n hx hb dX5_insert_0 rfl (lv_at hl 0 rfl) ?_
  have bd_1 := rd_4_1 (c := o) hI ho
  refine va_get (D := (dC, dI)) (ci := 4) (v := .int ((σ o).1 1)) (C := RX5) (T := TX5) (N := 2) hx hb hts hinX5 hown hK hP o (at_4 ho) rfl 1 (by decide) (hts (.fieldLink RX5 13 "BondCalendars$Holidays" "count" "I") (by decide +kernel)) (fun _ h9 => h9) rfl dX5_insert_1 ?_
  refine lv_aload_n hx hb dX5_insert_4 rfl (lv_at hl 0 rfl) ?_
  refine va_get (D := (dC, dI)) (ci := 4) (v := .ref (ad (o + 1))) (C := RX5) (T := TX5) (N := 2) hx hb hts hinX5 hown hK hP o (at_4 ho) rfl 0 (by decide) (hts (.fieldLink RX5 9 "BondCalendars$Holidays" "list" "[I") (by decide +kernel)) (fun _ h9 => h9) rfl dX5_insert_5 ?_
  refine va_alen (v := 10) hx hb hK hP ((o + 1)) ((o + 1)) (at_25 (kk_4_1 ho)) (ty_25 (kk_4_1 ho)) rfl dX5_insert_8 ?_
  refine lv_icmp_lt (tgt := 13) hx hb dX5_insert_9 (by decide) (fun c_2 => ?_) (fun c_2 => ?_)
  · refine lv_aload_n hx hb dX5_insert_13 rfl (lv_at hl 0 rfl) ?_
    refine va_get (D := (dC, dI)) (ci := 4) (v := .int ((σ o).1 1)) (C := RX5) (T := TX5) (N := 2) hx hb hts hinX5 hown hK hP o (at_4 ho) rfl 1 (by decide) (hts (.fieldLink RX5 13 "BondCalendars$Holidays" "count" "I") (by decide +kernel)) (fun _ h9 => h9) rfl dX5_insert_14 ?_
    refine lv_istore_n (lv' := [(2, .int ((σ o).1 1)), (0, .ref (ad o)), (1, .int p0)]) hx hb dX5_insert_17 rfl hl (by decide) rfl (fun ls hl => ?_)
    refine (fun (h : ∀ (n : Nat) (i : Int32) (σ18x : gs) (d18 : Drawn) (H : Heap) (locs : List Loc) (ls : Array Slot), (i.toInt + (1 : Int32).toInt).toNat < n → i < 10 → 0 ≤ i → (σ18x o).1 1 < 10 → InvX σ18x → gFr [4, 25] σ σ18x → s.drawn.sameBut d18 lw_cs → va_P (dC, dI) vwCl (wX ad cA σ18x) H → va_D A (wX ad cA σ18x) → va_S A s.heap H locs → lv_has ls 3 [(2, .int i), (0, .ref (ad o)), (1, .int p0)] → W p l e _ (s.setDrawn d18) m _ below meth c H locs _ _ _ (F0 m 18 ls [])) => h _ ((σ o).1 1) σ _ _ _ _ (Nat.lt_succ_self _) c_2 bd_1.1 c_2 hI (gFr.rfl (L := [4, 25]) (σ := σ)) hd0 hP hD hS (lv_sub hl [0, 1, 2] rfl)) ?_
    intro n18
    induction n18 with
    | zero => intro i σ18x d18 H locs ls hm; exact absurd hm (Nat.not_lt_zero _)
    | succ n18 ih18 =>
      intro i σ18x d18 H locs ls hm18 iv18_0 iv18_1 iv18_2 hIσ18x frσ18x hd0 hP hD hS hl
      have hts := dr_words hts0 (d18)
      have hK := gKd hK0 (d18)
      have hown : (s.setDrawn (d18)).vm.findClass RX5 = some m.cls := hown0
      refine lv_iload_n hx hb dX5_insert_18 rfl (lv_at hl 0 rfl) ?_
      refine lv_if_le (tgt := 54) hx hb dX5_insert_19 (by decide) (fun c_3 => ?_) (fun c_3 => ?_)
      · refine lv_aload_n hx hb dX5_insert_54 rfl (lv_at hl 1 rfl) ?_
        refine va_get (D := (dC, dI)) (ci := 4) (v := .ref (ad (o + 1))) (C := RX5) (T := TX5) (N := 2) hx hb hts hinX5 hown hK hP o (at_4 ho) rfl 0 (by decide) (hts (.fieldLink RX5 9 "BondCalendars$Holidays" "list" "[I") (by decide +kernel)) (fun _ h9 => h9) rfl dX5_insert_55 ?_
        refine lv_iload_n hx hb dX5_insert_58 rfl (lv_at hl 0 rfl) ?_
        refine lv_iload_n hx hb dX5_insert_59 rfl (lv_at hl 2 rfl) ?_
        refine va_iast hx hb hK hP hD hS ((o + 1)) ((o + 1)) (at_25 (kk_4_1 ho)) (ty_25 (kk_4_1 ho)) (gin (N := 10) (by decide) iv18_1 iv18_0) dX5_insert_60 (fun H locs hP hD hS => ?_)
        obtain ⟨σ1, eσ1, hP, hD⟩ := gPut (se_25 (kk_4_1 ho)) hP hD
        have hIσ1 : InvX σ1 := by rw [eσ1]; exact inv_I hIσ18x (ok_25 (kk_4_1 ho) _ _)
        have frσ1 : gFr [4, 25] σ σ1 := by rw [eσ1]; exact gFr.pI frσ18x (kk_4_1 ho) (by decide)
        refine lv_aload_n hx hb dX5_insert_61 rfl (lv_at hl 1 rfl) ?_
        refine lv_dup hx hb dX5_insert_62 rfl ?_
        have bd_4 := rd_4_1 (c := o) hIσ18x ho
        refine va_get (D := (dC, dI)) (ci := 4) (v := .int ((σ18x o).1 1)) (C := RX5) (T := TX5) (N := 2) hx hb hts hinX5 hown hK hP o (at_4 ho) rfl 1 (by decide) (hts (.fieldLink RX5 13 "BondCalendars$Holidays" "count" "I") (by decide +kernel)) (fun _ h9 => h9) (congrArg (fun z => some (Value.int z)) (show (σ1 o).1 1 = ((σ18x o).1 1) from by rw [eσ1, gI_ne _ _ _ (kne ho (kk_4_1 ho) (by decide))])) dX5_insert_63 ?_
        refine lv_iconst (v := 1) hx hb dX5_insert_66 (by decide) ?_
        refine lv_iadd hx hb dX5_insert_67 ?_
        refine lv_topi (fun x_5 ex_5 => ?_)
        refine va_put (D := (dC, dI)) (ci := 4) (v := .int x_5) (C := RX5) (T := TX5) (N := 2) hx hb hts hinX5 tyX5 tyX5_ok nmX5 hown hK hP hD hS o (at_4 ho) rfl 1 (by decide) (hts (.fieldLink RX5 13 "BondCalendars$Holidays" "count" "I") (by decide +kernel)) (fun _ h9 => h9) rfl (ty := .int) (by decide +kernel) rfl rfl (Nat.le_of_ble_eq_true rfl) dX5_insert_68 (fun H locs hP hD hS => ?_)
        obtain ⟨σ2, eσ2, hP, hD⟩ := gPut (se_4_1 ho) hP hD
        have hIσ2 : InvX σ2 := by rw [eσ2]; exact inv_I hIσ1 (ok_4_1 ho _ ⟨(cnt_0 bd_4.1 iv18_2 ex_5), (cnt_N bd_4.1 iv18_2 ex_5)⟩)
        have frσ2 : gFr [4, 25] σ σ2 := by rw [eσ2]; exact gFr.pI frσ1 ho (by decide)
        refine W.endD hd0 ?_
        exact W.vret hx hb hr (fun t ht hW => ⟨⟨σ2, rfl, ⟨hIσ2, frσ2, trivial⟩, ⟨by rw [ht]; exact hP, hD⟩⟩, hS.F ht⟩) hS.2.2 dX5_insert_71
      · refine lv_aload_n hx hb dX5_insert_22 rfl (lv_at hl 1 rfl) ?_
        refine va_get (D := (dC, dI)) (ci := 4) (v := .ref (ad (o + 1))) (C := RX5) (T := TX5) (N := 2) hx hb hts hinX5 hown hK hP o (at_4 ho) rfl 0 (by decide) (hts (.fieldLink RX5 9 "BondCalendars$Holidays" "list" "[I") (by decide +kernel)) (fun _ h9 => h9) rfl dX5_insert_23 ?_
        refine lv_iload_n hx hb dX5_insert_26 rfl (lv_at hl 0 rfl) ?_
        refine lv_iconst (v := 1) hx hb dX5_insert_27 (by decide) ?_
        refine lv_isub hx hb dX5_insert_28 ?_
        refine lv_topi (fun x_6 ex_6 => ?_)
        refine va_iald hx hb hK hP ((o + 1)) ((o + 1)) (at_25 (kk_4_1 ho)) (ty_25 (kk_4_1 ho)) (gin (N := 10) (by decide) (sub_k (k := 1) (by decide) (gl1 (b := 1) (Int32.not_le.mp c_3) (by decide)) ex_6).1 (Int32.lt_trans (sub_k (k := 1) (by decide) (gl1 (b := 1) (Int32.not_le.mp c_3) (by decide)) ex_6).2 iv18_0)) dX5_insert_29 ?_
        refine lv_topi (fun x_7 _ => ?_)
        refine lv_iload_n hx hb dX5_insert_30 rfl (lv_at hl 2 rfl) ?_
        refine lv_icmp_le (tgt := 54) hx hb dX5_insert_31 (by decide) (fun c_8 => ?_) (fun c_8 => ?_)
        · refine lv_aload_n hx hb dX5_insert_54 rfl (lv_at hl 1 rfl) ?_
          refine va_get (D := (dC, dI)) (ci := 4) (v := .ref (ad (o + 1))) (C := RX5) (T := TX5) (N := 2) hx hb hts hinX5 hown hK hP o (at_4 ho) rfl 0 (by decide) (hts (.fieldLink RX5 9 "BondCalendars$Holidays" "list" "[I") (by decide +kernel)) (fun _ h9 => h9) rfl dX5_insert_55 ?_
          refine lv_iload_n hx hb dX5_insert_58 rfl (lv_at hl 0 rfl) ?_
          refine lv_iload_n hx hb dX5_insert_59 rfl (lv_at hl 2 rfl) ?_
          refine va_iast hx hb hK hP hD hS ((o + 1)) ((o + 1)) (at_25 (kk_4_1 ho)) (ty_25 (kk_4_1 ho)) (gin (N := 10) (by decide) iv18_1 iv18_0) dX5_insert_60 (fun H locs hP hD hS => ?_)
          obtain ⟨σ3, eσ3, hP, hD⟩ := gPut (se_25 (kk_4_1 ho)) hP hD
          have hIσ3 : InvX σ3 := by rw [eσ3]; exact inv_I hIσ18x (ok_25 (kk_4_1 ho) _ _)
          have frσ3 : gFr [4, 25] σ σ3 := by rw [eσ3]; exact gFr.pI frσ18x (kk_4_1 ho) (by decide)
          refine lv_aload_n hx hb dX5_insert_61 rfl (lv_at hl 1 rfl) ?_
          refine lv_dup hx hb dX5_insert_62 rfl ?_
          have bd_9 := rd_4_1 (c := o) hIσ18x ho
          refine va_get (D := (dC, dI)) (ci := 4) (v := .int ((σ18x o).1 1)) (C := RX5) (T := TX5) (N := 2) hx hb hts hinX5 hown hK hP o (at_4 ho) rfl 1 (by decide) (hts (.fieldLink RX5 13 "BondCalendars$Holidays" "count" "I") (by decide +kernel)) (fun _ h9 => h9) (congrArg (fun z => some (Value.int z)) (show (σ3 o).1 1 = ((σ18x o).1 1) from by rw [eσ3, gI_ne _ _ _ (kne ho (kk_4_1 ho) (by decide))])) dX5_insert_63 ?_
          refine lv_iconst (v := 1) hx hb dX5_insert_66 (by decide) ?_
          refine lv_iadd hx hb dX5_insert_67 ?_
          refine lv_topi (fun x_10 ex_10 => ?_)
          refine va_put (D := (dC, dI)) (ci := 4) (v := .int x_10) (C := RX5) (T := TX5) (N := 2) hx hb hts hinX5 tyX5 tyX5_ok nmX5 hown hK hP hD hS o (at_4 ho) rfl 1 (by decide) (hts (.fieldLink RX5 13 "BondCalendars$Holidays" "count" "I") (by decide +kernel)) (fun _ h9 => h9) rfl (ty := .int) (by decide +kernel) rfl rfl (Nat.le_of_ble_eq_true rfl) dX5_insert_68 (fun H locs hP hD hS => ?_)
          obtain ⟨σ4, eσ4, hP, hD⟩ := gPut (se_4_1 ho) hP hD
          have hIσ4 : InvX σ4 := by rw [eσ4]; exact inv_I hIσ3 (ok_4_1 ho _ ⟨(cnt_0 bd_9.1 iv18_2 ex_10), (cnt_N bd_9.1 iv18_2 ex_10)⟩)
          have frσ4 : gFr [4, 25] σ σ4 := by rw [eσ4]; exact gFr.pI frσ3 ho (by decide)
          refine W.endD hd0 ?_
          exact W.vret hx hb hr (fun t ht hW => ⟨⟨σ4, rfl, ⟨hIσ4, frσ4, trivial⟩, ⟨by rw [ht]; exact hP, hD⟩⟩, hS.F ht⟩) hS.2.2 dX5_insert_71
        · refine lv_aload_n hx hb dX5_insert_34 rfl (lv_at hl 1 rfl) ?_
          refine va_get (D := (dC, dI)) (ci := 4) (v := .ref (ad (o + 1))) (C := RX5) (T := TX5) (N := 2) hx hb hts hinX5 hown hK hP o (at_4 ho) rfl 0 (by decide) (hts (.fieldLink RX5 9 "BondCalendars$Holidays" "list" "[I") (by decide +kernel)) (fun _ h9 => h9) rfl dX5_insert_35 ?_
          refine lv_iload_n hx hb dX5_insert_38 rfl (lv_at hl 0 rfl) ?_
          refine lv_aload_n hx hb dX5_insert_39 rfl (lv_at hl 1 rfl) ?_
          refine va_get (D := (dC, dI)) (ci := 4) (v := .ref (ad (o + 1))) (C := RX5) (T := TX5) (N := 2) hx hb hts hinX5 hown hK hP o (at_4 ho) rfl 0 (by decide) (hts (.fieldLink RX5 9 "BondCalendars$Holidays" "list" "[I") (by decide +kernel)) (fun _ h9 => h9) rfl dX5_insert_40 ?_
          refine lv_iload_n hx hb dX5_insert_43 rfl (lv_at hl 0 rfl) ?_
          refine lv_iconst (v := 1) hx hb dX5_insert_44 (by decide) ?_
          refine lv_isub hx hb dX5_insert_45 ?_
          refine lv_topi (fun x_11 ex_11 => ?_)
          refine va_iald hx hb hK hP ((o + 1)) ((o + 1)) (at_25 (kk_4_1 ho)) (ty_25 (kk_4_1 ho)) (gin (N := 10) (by decide) (sub_k (k := 1) (by decide) (gl1 (b := 1) (Int32.not_le.mp c_3) (by decide)) ex_11).1 (Int32.lt_trans (sub_k (k := 1) (by decide) (gl1 (b := 1) (Int32.not_le.mp c_3) (by decide)) ex_11).2 iv18_0)) dX5_insert_46 ?_
          refine lv_topi (fun x_12 _ => ?_)
          refine va_iast hx hb hK hP hD hS ((o + 1)) ((o + 1)) (at_25 (kk_4_1 ho)) (ty_25 (kk_4_1 ho)) (gin (N := 10) (by decide) iv18_1 iv18_0) dX5_insert_47 (fun H locs hP hD hS => ?_)
          obtain ⟨σ5, eσ5, hP, hD⟩ := gPut (se_25 (kk_4_1 ho)) hP hD
          have hIσ5 : InvX σ5 := by rw [eσ5]; exact inv_I hIσ18x (ok_25 (kk_4_1 ho) _ _)
          have frσ5 : gFr [4, 25] σ σ5 := by rw [eσ5]; exact gFr.pI frσ18x (kk_4_1 ho) (by decide)
          obtain ⟨x_13, ex_13⟩ : ∃ zz : Int32, zz = i + (-1) := ⟨_, rfl⟩
          refine lv_iinc (v := x_13) (lv' := [(2, .int x_13), (0, .ref (ad o)), (1, .int p0)]) hx hb dX5_insert_48 hl (k := 0) rfl (by rw [ex_13]; rfl) (by decide) rfl (fun ls hl => ?_)
          refine lv_goto (tgt := 18) hx hb dX5_insert_51 (by decide) ?_
          exact ih18 x_13 σ5 _ _ _ _ (dn_m (k := 1) (by decide) iv18_1 hm18 ex_13) (Int32.lt_trans (sub_j (k := 1) (by decide) (gl1 (b := 1) (Int32.not_le.mp c_3) (by decide)) ex_13).2 iv18_0) (sub_j (k := 1) (by decide) (gl1 (b := 1) (Int32.not_le.mp c_3) (by decide)) ex_13).1 (by rw [eσ5, gI_ne _ _ _ (kne ho (kk_4_1 ho) (by decide))]; exact iv18_2) hIσ5 frσ5 hd0 hP hD hS (lv_sub hl [0, 1, 2] rfl)
  · refine W.endD hd0 ?_
    exact W.vret hx hb hr (fun t ht hW => ⟨⟨σ, rfl, ⟨hI, (gFr.rfl (L := [4, 25]) (σ := σ)), trivial⟩, ⟨by rw [ht]; exact hP, hD⟩⟩, hS.F ht⟩) hS.2.2 dX5_insert_12
set_option maxHeartbeats 8000000 in
set_option maxRecDepth 100000 in
theorem n_X5_isBusinessDay (l : Launch) (dC : Nat → ClassId) (dI : Nat → Nat → Nat) (ad : Nat → Nat) (cA : Nat → ClassId) (adK adV : Nat → Nat) (sz : Nat) (σ : gs) (hI : InvX σ) (o : Nat) (ho : kX o = 4) (p0 : Int32) : MetD lw_cs l yX5_isBusinessDay wsX5_isBusinessDay ({ frames := 2, cells := 0, slots := 0, locals := 42 }) (va_Pc [.ref (ad o), .int p0] (gPre adK adV (dC, dI) (wX ad cA σ) (tX cA) sz)) (va_Qi (fun (r : Int32) (τ : gs) => InvX τ ∧ σ = τ ∧ (r = 0 ∨ r = 1)) (fun τ t => gPost (dC, dI) (va_A (wX ad cA σ) sz) (wX ad cA τ) t) (va_A (wX ad cA σ) sz)) 0 0 (va_A (wX ad cA σ) sz) := by
  refine MetD.ofW (cc := cX5_isBusinessDay) (maxL := 2) (ret := (some .boolean)) (by decide) rfl ?_
  intro p e s m args below meth c s₁ B hml hv hd0
  obtain ⟨rfl, hsz, hP, hK, hD0, hT⟩ := hv
  have hx := B.exec
  have hb := B.bytes
  have hr := B.returns
  have hts0 := atoms_spec (ws := wsX5_isBusinessDay) B.pre
  have hK0 := hK
  have hown0 : s.vm.findClass RX5 = some m.cls := findClass_of_methodNamed B.named
  have hlocks := B.notSynchronized
  subst hsz
  have hD := hD0.self (sz := s.heap.size)
  generalize hAe : va_A (wX ad cA σ) s.heap.size = A at hD hT ⊢
  have hA : ∀ q : Nat, s.heap.size ≤ q → A q := fun q h => by rw [← hAe]; exact Or.inr h
  have hS : va_S A s.heap s.heap [] := va_S.rf
  have hl := lv_entry ([.ref (ad o), .int p0]) (n := 2) (Nat.le_of_ble_eq_true rfl)
  rw [lg_entry_eq]
  generalize (lg_sl ([.ref (ad o), .int p0]) ++ List.replicate (2 - (lg_sl ([.ref (ad o), .int p0])).length) Slot.unset).toArray = ls at hl ⊢
  have hl : lv_has ls 2 [(0, .ref (ad o)), (1, .int p0)] := hl
  have hts := dr_words hts0 (s.drawn)
  have hK := gKd hK0 (s.drawn)
  have hown : (s.setDrawn (s.drawn)).vm.findClass RX5 = some m.cls := hown0
  refine lv_iload_n hx hb dX5_isBusinessDay_0 rfl (lv_at hl 1 rfl) ?_
  have hF := gFree (w := []) (hx_D0 (A := A)) hS hA
  have hKe := hK.sub (tys' := []) [] rfl
  refine va_calli (va_runS (As := [.int p0]) (rest := []) ⟨hx, hb, hml, hown, hts⟩ (k_X3_weekdayOf l dC dI s.heap.size p0 ) (va_cwS 1 hts gX5_isBusinessDay_X3_weekdayOf rfl rfl rfl (by decide +kernel) ⟨Nat.le_of_ble_eq_true rfl, Nat.le_of_ble_eq_true rfl⟩) ⟨fun a U g mk q => by obtain ⟨q0, q1, qP, qK, qD⟩ := q; exact ⟨q0, q1, qP, va_K.moved (u := U) (U := U.calling g mk a) (Vm.Alike.refl U.vm) qK, qD⟩, fun U hU hW => ⟨rfl, by rw [hU], hx_P0, va_K.moved hW.alike hKe, hx_D0⟩⟩ rfl rfl hl.1 rfl (lv_room (Nat.le_of_ble_eq_true rfl)) dX5_isBusinessDay_1 ⟨Nat.le_of_ble_eq_true rfl, Nat.le_of_ble_eq_true rfl⟩) hS (fun q _ h => hF q h) hF (fun r_1 u t H locs ht hvm hw hB hz1 hk1 hS => ?_)
  have hP := gKeep hP hk1
  refine lv_iconst (v := 5) hx hb dX5_isBusinessDay_4 (by decide) ?_
  refine lv_icmp_ge (tgt := 20) hx hb dX5_isBusinessDay_5 (by decide) (fun c_2 => ?_) (fun c_2 => ?_)
  · refine lv_iconst (v := 0) hx hb dX5_isBusinessDay_20 (by decide) ?_
    refine W.endD hd0 ?_
    exact W.zret (v := 0) hx hb hr (by decide) (fun t ht hW => ⟨⟨0, σ, rfl, ⟨hI, rfl, Or.inl rfl⟩, ⟨by rw [ht]; exact hP, hD⟩⟩, hS.F ht⟩) hS.2.2 dX5_isBusinessDay_21
  · refine lv_aload_n hx hb dX5_isBusinessDay_8 rfl (lv_at hl 0 rfl) ?_
    refine lv_iload_n hx hb dX5_isBusinessDay_9 rfl (lv_at hl 1 rfl) ?_
    have hF := gFree hD hS hA
    refine va_calliD hd0 (va_runV_D (As := [.int p0]) (rest := []) ⟨hx, hb, hml, hown, hts⟩ (n_X5_contains l dC dI ad cA adK adV H.size σ hI o ho p0) (cwV 1 hts gX5_isBusinessDay_X5_contains rfl rfl rfl (by decide +kernel) ⟨Nat.le_of_ble_eq_true rfl, Nat.le_of_ble_eq_true rfl⟩) ⟨gBlind, va_recv hK hP (ci := 4) (q0 := o) rfl (at_4 ho), gStart (As := [.ref (ad o), .int p0]) hP hD hK0 hT hS hF (s.drawn)⟩ rfl rfl hl.1 rfl (lv_room (Nat.le_of_ble_eq_true rfl)) dX5_isBusinessDay_10 ⟨Nat.le_of_ble_eq_true rfl, Nat.le_of_ble_eq_true rfl⟩) hS (fun q _ h => hF q h) hF (fun r_3 σ1 t H locs ht hvm hw hB hz1 hk1 hS d_4 hd0 => ?_)
    have hts := dr_words hts0 (d_4)
    have hK := gKd hK0 (d_4)
    have hown : (s.setDrawn (d_4)).vm.findClass RX5 = some m.cls := hown0
    obtain ⟨hP, hD⟩ := gBack hF ht hB
    obtain ⟨hIσ1, hro, hp_5⟩ := hw
    subst hro
    refine lv_if_ne (tgt := 20) hx hb dX5_isBusinessDay_13 (by decide) (fun c_6 => ?_) (fun c_6 => ?_)
    · refine lv_iconst (v := 0) hx hb dX5_isBusinessDay_20 (by decide) ?_
      refine W.endD hd0 ?_
      exact W.zret (v := 0) hx hb hr (by decide) (fun t ht hW => ⟨⟨0, σ, rfl, ⟨hI, rfl, Or.inl rfl⟩, ⟨by rw [ht]; exact hP, hD⟩⟩, hS.F ht⟩) hS.2.2 dX5_isBusinessDay_21
    · refine lv_iconst (v := 1) hx hb dX5_isBusinessDay_16 (by decide) ?_
      refine lv_goto (tgt := 21) hx hb dX5_isBusinessDay_17 (by decide) ?_
      refine W.endD hd0 ?_
      exact W.zret (v := 1) hx hb hr (by decide) (fun t ht hW => ⟨⟨1, σ, rfl, ⟨hI, rfl, Or.inr rfl⟩, ⟨by rw [ht]; exact hP, hD⟩⟩, hS.F ht⟩) hS.2.2 dX5_isBusinessDay_21
set_option maxHeartbeats 8000000 in
set_option maxRecDepth 100000 in
theorem n_X5_businessDaysFrom (l : Launch) (dC : Nat → ClassId) (dI : Nat → Nat → Nat) (ad : Nat → Nat) (cA : Nat → ClassId) (adK adV : Nat → Nat) (sz : Nat) (σ : gs) (hI : InvX σ) (o : Nat) (ho : kX o = 4) (p0 : Int32) (p1 : Int32) : MetD lw_cs l yX5_businessDaysFrom wsX5_businessDaysFrom ({ frames := 3, cells := 0, slots := 0, locals := 63 }) (va_Pc [.ref (ad o), .int p0, .int p1] (gPre adK adV (dC, dI) (wX ad cA σ) (tX cA) sz)) (va_Qi (fun (r : Int32) (τ : gs) => InvX τ ∧ σ = τ ∧ (True)) (fun τ t => gPost (dC, dI) (va_A (wX ad cA σ) sz) (wX ad cA τ) t) (va_A (wX ad cA σ) sz)) 0 0 (va_A (wX ad cA σ) sz) := by
  refine MetD.ofW (cc := cX5_businessDaysFrom) (maxL := 7) (ret := (some .int)) (by decide) rfl ?_
  intro p e s m args below meth c s₁ B hml hv hd0
  obtain ⟨rfl, hsz, hP, hK, hD0, hT⟩ := hv
  have hx := B.exec
  have hb := B.bytes
  have hr := B.returns
  have hts0 := atoms_spec (ws := wsX5_businessDaysFrom) B.pre
  have hK0 := hK
  have hown0 : s.vm.findClass RX5 = some m.cls := findClass_of_methodNamed B.named
  have hlocks := B.notSynchronized
  subst hsz
  have hD := hD0.self (sz := s.heap.size)
  generalize hAe : va_A (wX ad cA σ) s.heap.size = A at hD hT ⊢
  have hA : ∀ q : Nat, s.heap.size ≤ q → A q := fun q h => by rw [← hAe]; exact Or.inr h
  have hS : va_S A s.heap s.heap [] := va_S.rf
  have hl := lv_entry ([.ref (ad o), .int p0, .int p1]) (n := 7) (Nat.le_of_ble_eq_true rfl)
  rw [lg_entry_eq]
  generalize (lg_sl ([.ref (ad o), .int p0, .int p1]) ++ List.replicate (7 - (lg_sl ([.ref (ad o), .int p0, .int p1])).length) Slot.unset).toArray = ls at hl ⊢
  have hl : lv_has ls 7 [(0, .ref (ad o)), (1, .int p0), (2, .int p1)] := hl
  have hts := dr_words hts0 (s.drawn)
  have hK := gKd hK0 (s.drawn)
  have hown : (s.setDrawn (s.drawn)).vm.findClass RX5 = some m.cls := hown0
  refine lv_iload_n hx hb dX5_businessDaysFrom_0 rfl (lv_at hl 2 rfl) ?_
  refine lv_if_ge (tgt := 8) hx hb dX5_businessDaysFrom_1 (by decide) (fun c_1 => ?_) (fun c_1 => ?_)
  · refine lv_iconst (v := 1) hx hb dX5_businessDaysFrom_8 (by decide) ?_
    refine lv_istore_n (lv' := [(3, .int 1), (0, .ref (ad o)), (1, .int p0), (2, .int p1)]) hx hb dX5_businessDaysFrom_9 rfl hl (by decide) rfl (fun ls hl => ?_)
    refine lv_iload_n hx hb dX5_businessDaysFrom_10 rfl (lv_at hl 3 rfl) ?_
    refine lv_if_ge (tgt := 19) hx hb dX5_businessDaysFrom_11 (by decide) (fun c_2 => ?_) (fun c_2 => ?_)
    · refine lv_iload_n hx hb dX5_businessDaysFrom_19 rfl (lv_at hl 3 rfl) ?_
      refine lv_istore (lv' := [(4, .int p1), (3, .int 1), (0, .ref (ad o)), (1, .int p0), (2, .int p1)]) hx hb dX5_businessDaysFrom_20 hl (by decide) rfl (fun ls hl => ?_)
      refine lv_iload_n hx hb dX5_businessDaysFrom_22 rfl (lv_at hl 3 rfl) ?_
      refine lv_istore (lv' := [(5, .int p0), (4, .int p1), (3, .int 1), (0, .ref (ad o)), (1, .int p0), (2, .int p1)]) hx hb dX5_businessDaysFrom_23 hl (by decide) rfl (fun ls hl => ?_)
      refine lv_iconst (v := 0) hx hb dX5_businessDaysFrom_25 (by decide) ?_
      refine lv_istore (lv' := [(6, .int 0), (5, .int p0), (4, .int p1), (3, .int 1), (0, .ref (ad o)), (1, .int p0), (2, .int p1)]) hx hb dX5_businessDaysFrom_26 hl (by decide) rfl (fun ls hl => ?_)
      refine (fun (h : ∀ (n : Nat) (i6 : Int32) (lf : Int32) (aa : Int32) (d28 : Drawn) (H : Heap) (locs : List Loc) (ls : Array Slot), ((1000 : Int32).toInt - i6.toInt).toNat < n → 0 ≤ i6 → s.drawn.sameBut d28 lw_cs → va_P (dC, dI) vwCl (wX ad cA σ) H → va_D A (wX ad cA σ) → va_S A s.heap H locs → lv_has ls 7 [(6, .int i6), (5, .int aa), (4, .int lf), (3, .int 1), (0, .ref (ad o)), (1, .int p0), (2, .int p1)] → W p l e _ (s.setDrawn d28) m _ below meth c H locs _ _ _ (F0 m 28 ls [])) => h _ 0 p1 p0 _ _ _ _ (Nat.lt_succ_self _) (by decide) hd0 hP hD hS (lv_sub hl [0, 1, 2, 3, 4, 5, 6] rfl)) ?_
      intro n28
      induction n28 with
      | zero => intro i6 lf aa  d28 H locs ls hm; exact absurd hm (Nat.not_lt_zero _)
      | succ n28 ih28 =>
        intro i6 lf aa  d28 H locs ls hm28 iv28_0  hd0 hP hD hS hl
        have hts := dr_words hts0 (d28)
        have hK := gKd hK0 (d28)
        have hown : (s.setDrawn (d28)).vm.findClass RX5 = some m.cls := hown0
        refine lv_iload hx hb dX5_businessDaysFrom_28 (lv_at hl 0 rfl) ?_
        refine lv_sipush (v := 1000) hx hb dX5_businessDaysFrom_30 (by decide) ?_
        refine lv_icmp_ge (tgt := 65) hx hb dX5_businessDaysFrom_33 (by decide) (fun c_3 => ?_) (fun c_3 => ?_)
        · refine lv_iload hx hb dX5_businessDaysFrom_65 (lv_at hl 1 rfl) ?_
          refine W.endD hd0 ?_
          exact W.iret (v := aa) hx hb hr (fun t ht hW => ⟨⟨aa, σ, rfl, ⟨hI, rfl, trivial⟩, ⟨by rw [ht]; exact hP, hD⟩⟩, hS.F ht⟩) hS.2.2 dX5_businessDaysFrom_67
        · refine lv_iload hx hb dX5_businessDaysFrom_36 (lv_at hl 2 rfl) ?_
          refine lv_if_le (tgt := 65) hx hb dX5_businessDaysFrom_38 (by decide) (fun c_4 => ?_) (fun c_4 => ?_)
          · refine lv_iload hx hb dX5_businessDaysFrom_65 (lv_at hl 1 rfl) ?_
            refine W.endD hd0 ?_
            exact W.iret (v := aa) hx hb hr (fun t ht hW => ⟨⟨aa, σ, rfl, ⟨hI, rfl, trivial⟩, ⟨by rw [ht]; exact hP, hD⟩⟩, hS.F ht⟩) hS.2.2 dX5_businessDaysFrom_67
          · refine lv_iload hx hb dX5_businessDaysFrom_41 (lv_at hl 1 rfl) ?_
            refine lv_iload_n hx hb dX5_businessDaysFrom_43 rfl (lv_at hl 3 rfl) ?_
            refine lv_iadd hx hb dX5_businessDaysFrom_44 ?_
            refine lv_topi (fun x_5 ex_5 => ?_)
            refine lv_istore (lv' := [(5, .int x_5), (6, .int i6), (4, .int lf), (3, .int 1), (0, .ref (ad o)), (1, .int p0), (2, .int p1)]) hx hb dX5_businessDaysFrom_45 hl (by decide) rfl (fun ls hl => ?_)
            refine lv_aload_n hx hb dX5_businessDaysFrom_47 rfl (lv_at hl 4 rfl) ?_
            refine lv_iload hx hb dX5_businessDaysFrom_48 (lv_at hl 0 rfl) ?_
            have hF := gFree hD hS hA
            refine va_calliD hd0 (va_runV_D (As := [.int x_5]) (rest := []) ⟨hx, hb, hml, hown, hts⟩ (n_X5_isBusinessDay l dC dI ad cA adK adV H.size σ hI o ho x_5) (cwV 1 hts gX5_businessDaysFrom_X5_isBusinessDay rfl rfl rfl (by decide +kernel) ⟨Nat.le_of_ble_eq_true rfl, Nat.le_of_ble_eq_true rfl⟩) ⟨gBlind, va_recv hK hP (ci := 4) (q0 := o) rfl (at_4 ho), gStart (As := [.ref (ad o), .int x_5]) hP hD hK0 hT hS hF (d28)⟩ rfl rfl hl.1 rfl (lv_room (Nat.le_of_ble_eq_true rfl)) dX5_businessDaysFrom_50 ⟨Nat.le_of_ble_eq_true rfl, Nat.le_of_ble_eq_true rfl⟩) hS (fun q _ h => hF q h) hF (fun r_6 σ1 t H locs ht hvm hw hB hz1 hk1 hS d_7 hd0 => ?_)
            have hts := dr_words hts0 (d_7)
            have hK := gKd hK0 (d_7)
            have hown : (s.setDrawn (d_7)).vm.findClass RX5 = some m.cls := hown0
            obtain ⟨hP, hD⟩ := gBack hF ht hB
            obtain ⟨hIσ1, hro, hp_8⟩ := hw
            subst hro
            refine lv_if_eq (tgt := 59) hx hb dX5_businessDaysFrom_53 (by decide) (fun c_9 => ?_) (fun c_9 => ?_)
            · obtain ⟨x_10, ex_10⟩ : ∃ zz : Int32, zz = i6 + 1 := ⟨_, rfl⟩
              refine lv_iinc (v := x_10) (lv' := [(6, .int x_10), (5, .int x_5), (4, .int lf), (3, .int 1), (0, .ref (ad o)), (1, .int p0), (2, .int p1)]) hx hb dX5_businessDaysFrom_59 hl (k := 1) rfl (by rw [ex_10]; rfl) (by decide) rfl (fun ls hl => ?_)
              refine lv_goto (tgt := 28) hx hb dX5_businessDaysFrom_62 (by decide) ?_
              exact ih28 x_10 lf x_5 _ _ _ _ (cnt_m iv28_0 (Int32.not_le.mp c_3) hm28 ex_10) (cnt_0 iv28_0 (Int32.not_le.mp c_3) ex_10) hd0 hP hD hS (lv_sub hl [0, 1, 2, 3, 4, 5, 6] rfl)
            · obtain ⟨x_11, ex_11⟩ : ∃ zz : Int32, zz = lf + (-1) := ⟨_, rfl⟩
              refine lv_iinc (v := x_11) (lv' := [(4, .int x_11), (5, .int x_5), (6, .int i6), (3, .int 1), (0, .ref (ad o)), (1, .int p0), (2, .int p1)]) hx hb dX5_businessDaysFrom_56 hl (k := 2) rfl (by rw [ex_11]; rfl) (by decide) rfl (fun ls hl => ?_)
              obtain ⟨x_12, ex_12⟩ : ∃ zz : Int32, zz = i6 + 1 := ⟨_, rfl⟩
              refine lv_iinc (v := x_12) (lv' := [(6, .int x_12), (4, .int x_11), (5, .int x_5), (3, .int 1), (0, .ref (ad o)), (1, .int p0), (2, .int p1)]) hx hb dX5_businessDaysFrom_59 hl (k := 2) rfl (by rw [ex_12]; rfl) (by decide) rfl (fun ls hl => ?_)
              refine lv_goto (tgt := 28) hx hb dX5_businessDaysFrom_62 (by decide) ?_
              exact ih28 x_12 x_11 x_5 _ _ _ _ (cnt_m iv28_0 (Int32.not_le.mp c_3) hm28 ex_12) (cnt_0 iv28_0 (Int32.not_le.mp c_3) ex_12) hd0 hP hD hS (lv_sub hl [0, 2, 1, 3, 4, 5, 6] rfl)
    · exact absurd c_1 c_2
  · refine lv_iconst (v := (-1)) hx hb dX5_businessDaysFrom_4 (by decide) ?_
    refine lv_goto (tgt := 9) hx hb dX5_businessDaysFrom_5 (by decide) ?_
    refine lv_istore_n (lv' := [(3, .int (-1)), (0, .ref (ad o)), (1, .int p0), (2, .int p1)]) hx hb dX5_businessDaysFrom_9 rfl hl (by decide) rfl (fun ls hl => ?_)
    refine lv_iload_n hx hb dX5_businessDaysFrom_10 rfl (lv_at hl 3 rfl) ?_
    refine lv_if_ge (tgt := 19) hx hb dX5_businessDaysFrom_11 (by decide) (fun c_13 => ?_) (fun c_13 => ?_)
    · exact absurd c_13 (Int32.not_le.mpr (Int32.not_le.mp c_1))
    · refine lv_iload_n hx hb dX5_businessDaysFrom_14 rfl (lv_at hl 3 rfl) ?_
      refine lv_ineg hx hb dX5_businessDaysFrom_15 ?_
      refine lv_goto (tgt := 20) hx hb dX5_businessDaysFrom_16 (by decide) ?_
      refine lv_topi (fun x_14 ex_14 => ?_)
      refine lv_istore (lv' := [(4, .int x_14), (3, .int (-1)), (0, .ref (ad o)), (1, .int p0), (2, .int p1)]) hx hb dX5_businessDaysFrom_20 hl (by decide) rfl (fun ls hl => ?_)
      refine lv_iload_n hx hb dX5_businessDaysFrom_22 rfl (lv_at hl 3 rfl) ?_
      refine lv_istore (lv' := [(5, .int p0), (4, .int x_14), (3, .int (-1)), (0, .ref (ad o)), (1, .int p0), (2, .int p1)]) hx hb dX5_businessDaysFrom_23 hl (by decide) rfl (fun ls hl => ?_)
      refine lv_iconst (v := 0) hx hb dX5_businessDaysFrom_25 (by decide) ?_
      refine lv_istore (lv' := [(6, .int 0), (5, .int p0), (4, .int x_14), (3, .int (-1)), (0, .ref (ad o)), (1, .int p0), (2, .int p1)]) hx hb dX5_businessDaysFrom_26 hl (by decide) rfl (fun ls hl => ?_)
      refine (fun (h : ∀ (n : Nat) (i6 : Int32) (lf : Int32) (aa : Int32) (d28 : Drawn) (H : Heap) (locs : List Loc) (ls : Array Slot), ((1000 : Int32).toInt - i6.toInt).toNat < n → 0 ≤ i6 → s.drawn.sameBut d28 lw_cs → va_P (dC, dI) vwCl (wX ad cA σ) H → va_D A (wX ad cA σ) → va_S A s.heap H locs → lv_has ls 7 [(6, .int i6), (5, .int aa), (4, .int lf), (3, .int (-1)), (0, .ref (ad o)), (1, .int p0), (2, .int p1)] → W p l e _ (s.setDrawn d28) m _ below meth c H locs _ _ _ (F0 m 28 ls [])) => h _ 0 x_14 p0 _ _ _ _ (Nat.lt_succ_self _) (by decide) hd0 hP hD hS (lv_sub hl [0, 1, 2, 3, 4, 5, 6] rfl)) ?_
      intro n28
      induction n28 with
      | zero => intro i6 lf aa  d28 H locs ls hm; exact absurd hm (Nat.not_lt_zero _)
      | succ n28 ih28 =>
        intro i6 lf aa  d28 H locs ls hm28 iv28_0  hd0 hP hD hS hl
        have hts := dr_words hts0 (d28)
        have hK := gKd hK0 (d28)
        have hown : (s.setDrawn (d28)).vm.findClass RX5 = some m.cls := hown0
        refine lv_iload hx hb dX5_businessDaysFrom_28 (lv_at hl 0 rfl) ?_
        refine lv_sipush (v := 1000) hx hb dX5_businessDaysFrom_30 (by decide) ?_
        refine lv_icmp_ge (tgt := 65) hx hb dX5_businessDaysFrom_33 (by decide) (fun c_15 => ?_) (fun c_15 => ?_)
        · refine lv_iload hx hb dX5_businessDaysFrom_65 (lv_at hl 1 rfl) ?_
          refine W.endD hd0 ?_
          exact W.iret (v := aa) hx hb hr (fun t ht hW => ⟨⟨aa, σ, rfl, ⟨hI, rfl, trivial⟩, ⟨by rw [ht]; exact hP, hD⟩⟩, hS.F ht⟩) hS.2.2 dX5_businessDaysFrom_67
        · refine lv_iload hx hb dX5_businessDaysFrom_36 (lv_at hl 2 rfl) ?_
          refine lv_if_le (tgt := 65) hx hb dX5_businessDaysFrom_38 (by decide) (fun c_16 => ?_) (fun c_16 => ?_)
          · refine lv_iload hx hb dX5_businessDaysFrom_65 (lv_at hl 1 rfl) ?_
            refine W.endD hd0 ?_
            exact W.iret (v := aa) hx hb hr (fun t ht hW => ⟨⟨aa, σ, rfl, ⟨hI, rfl, trivial⟩, ⟨by rw [ht]; exact hP, hD⟩⟩, hS.F ht⟩) hS.2.2 dX5_businessDaysFrom_67
          · refine lv_iload hx hb dX5_businessDaysFrom_41 (lv_at hl 1 rfl) ?_
            refine lv_iload_n hx hb dX5_businessDaysFrom_43 rfl (lv_at hl 3 rfl) ?_
            refine lv_iadd hx hb dX5_businessDaysFrom_44 ?_
            refine lv_topi (fun x_17 ex_17 => ?_)
            refine lv_istore (lv' := [(5, .int x_17), (6, .int i6), (4, .int lf), (3, .int (-1)), (0, .ref (ad o)), (1, .int p0), (2, .int p1)]) hx hb dX5_businessDaysFrom_45 hl (by decide) rfl (fun ls hl => ?_)
            refine lv_aload_n hx hb dX5_businessDaysFrom_47 rfl (lv_at hl 4 rfl) ?_
            refine lv_iload hx hb dX5_businessDaysFrom_48 (lv_at hl 0 rfl) ?_
            have hF := gFree hD hS hA
            refine va_calliD hd0 (va_runV_D (As := [.int x_17]) (rest := []) ⟨hx, hb, hml, hown, hts⟩ (n_X5_isBusinessDay l dC dI ad cA adK adV H.size σ hI o ho x_17) (cwV 1 hts gX5_businessDaysFrom_X5_isBusinessDay rfl rfl rfl (by decide +kernel) ⟨Nat.le_of_ble_eq_true rfl, Nat.le_of_ble_eq_true rfl⟩) ⟨gBlind, va_recv hK hP (ci := 4) (q0 := o) rfl (at_4 ho), gStart (As := [.ref (ad o), .int x_17]) hP hD hK0 hT hS hF (d28)⟩ rfl rfl hl.1 rfl (lv_room (Nat.le_of_ble_eq_true rfl)) dX5_businessDaysFrom_50 ⟨Nat.le_of_ble_eq_true rfl, Nat.le_of_ble_eq_true rfl⟩) hS (fun q _ h => hF q h) hF (fun r_18 σ2 t H locs ht hvm hw hB hz1 hk1 hS d_19 hd0 => ?_)
            have hts := dr_words hts0 (d_19)
            have hK := gKd hK0 (d_19)
            have hown : (s.setDrawn (d_19)).vm.findClass RX5 = some m.cls := hown0
            obtain ⟨hP, hD⟩ := gBack hF ht hB
            obtain ⟨hIσ2, hro, hp_20⟩ := hw
            subst hro
            refine lv_if_eq (tgt := 59) hx hb dX5_businessDaysFrom_53 (by decide) (fun c_21 => ?_) (fun c_21 => ?_)
            · obtain ⟨x_22, ex_22⟩ : ∃ zz : Int32, zz = i6 + 1 := ⟨_, rfl⟩
              refine lv_iinc (v := x_22) (lv' := [(6, .int x_22), (5, .int x_17), (4, .int lf), (3, .int (-1)), (0, .ref (ad o)), (1, .int p0), (2, .int p1)]) hx hb dX5_businessDaysFrom_59 hl (k := 1) rfl (by rw [ex_22]; rfl) (by decide) rfl (fun ls hl => ?_)
              refine lv_goto (tgt := 28) hx hb dX5_businessDaysFrom_62 (by decide) ?_
              exact ih28 x_22 lf x_17 _ _ _ _ (cnt_m iv28_0 (Int32.not_le.mp c_15) hm28 ex_22) (cnt_0 iv28_0 (Int32.not_le.mp c_15) ex_22) hd0 hP hD hS (lv_sub hl [0, 1, 2, 3, 4, 5, 6] rfl)
            · obtain ⟨x_23, ex_23⟩ : ∃ zz : Int32, zz = lf + (-1) := ⟨_, rfl⟩
              refine lv_iinc (v := x_23) (lv' := [(4, .int x_23), (5, .int x_17), (6, .int i6), (3, .int (-1)), (0, .ref (ad o)), (1, .int p0), (2, .int p1)]) hx hb dX5_businessDaysFrom_56 hl (k := 2) rfl (by rw [ex_23]; rfl) (by decide) rfl (fun ls hl => ?_)
              obtain ⟨x_24, ex_24⟩ : ∃ zz : Int32, zz = i6 + 1 := ⟨_, rfl⟩
              refine lv_iinc (v := x_24) (lv' := [(6, .int x_24), (4, .int x_23), (5, .int x_17), (3, .int (-1)), (0, .ref (ad o)), (1, .int p0), (2, .int p1)]) hx hb dX5_businessDaysFrom_59 hl (k := 2) rfl (by rw [ex_24]; rfl) (by decide) rfl (fun ls hl => ?_)
              refine lv_goto (tgt := 28) hx hb dX5_businessDaysFrom_62 (by decide) ?_
              exact ih28 x_24 x_23 x_17 _ _ _ _ (cnt_m iv28_0 (Int32.not_le.mp c_15) hm28 ex_24) (cnt_0 iv28_0 (Int32.not_le.mp c_15) ex_24) hd0 hP hD hS (lv_sub hl [0, 2, 1, 3, 4, 5, 6] rfl)
set_option maxHeartbeats 8000000 in
set_option maxRecDepth 100000 in
theorem n_X5_businessDayNotBefore (l : Launch) (dC : Nat → ClassId) (dI : Nat → Nat → Nat) (ad : Nat → Nat) (cA : Nat → ClassId) (adK adV : Nat → Nat) (sz : Nat) (σ : gs) (hI : InvX σ) (o : Nat) (ho : kX o = 4) (p0 : Int32) : MetD lw_cs l yX5_businessDayNotBefore wsX5_businessDayNotBefore ({ frames := 3, cells := 0, slots := 0, locals := 63 }) (va_Pc [.ref (ad o), .int p0] (gPre adK adV (dC, dI) (wX ad cA σ) (tX cA) sz)) (va_Qi (fun (r : Int32) (τ : gs) => InvX τ ∧ σ = τ ∧ (True)) (fun τ t => gPost (dC, dI) (va_A (wX ad cA σ) sz) (wX ad cA τ) t) (va_A (wX ad cA σ) sz)) 0 0 (va_A (wX ad cA σ) sz) := by
  refine MetD.ofW (cc := cX5_businessDayNotBefore) (maxL := 4) (ret := (some .int)) (by decide) rfl ?_
  intro p e s m args below meth c s₁ B hml hv hd0
  obtain ⟨rfl, hsz, hP, hK, hD0, hT⟩ := hv
  have hx := B.exec
  have hb := B.bytes
  have hr := B.returns
  have hts0 := atoms_spec (ws := wsX5_businessDayNotBefore) B.pre
  have hK0 := hK
  have hown0 : s.vm.findClass RX5 = some m.cls := findClass_of_methodNamed B.named
  have hlocks := B.notSynchronized
  subst hsz
  have hD := hD0.self (sz := s.heap.size)
  generalize hAe : va_A (wX ad cA σ) s.heap.size = A at hD hT ⊢
  have hA : ∀ q : Nat, s.heap.size ≤ q → A q := fun q h => by rw [← hAe]; exact Or.inr h
  have hS : va_S A s.heap s.heap [] := va_S.rf
  have hl := lv_entry ([.ref (ad o), .int p0]) (n := 4) (Nat.le_of_ble_eq_true rfl)
  rw [lg_entry_eq]
  generalize (lg_sl ([.ref (ad o), .int p0]) ++ List.replicate (4 - (lg_sl ([.ref (ad o), .int p0])).length) Slot.unset).toArray = ls at hl ⊢
  have hl : lv_has ls 4 [(0, .ref (ad o)), (1, .int p0)] := hl
  have hts := dr_words hts0 (s.drawn)
  have hK := gKd hK0 (s.drawn)
  have hown : (s.setDrawn (s.drawn)).vm.findClass RX5 = some m.cls := hown0
  refine lv_iload_n hx hb dX5_businessDayNotBefore_0 rfl (lv_at hl 1 rfl) ?_
  refine lv_istore_n (lv' := [(2, .int p0), (0, .ref (ad o)), (1, .int p0)]) hx hb dX5_businessDayNotBefore_1 rfl hl (by decide) rfl (fun ls hl => ?_)
  refine lv_iconst (v := 0) hx hb dX5_businessDayNotBefore_2 (by decide) ?_
  refine lv_istore_n (lv' := [(3, .int 0), (2, .int p0), (0, .ref (ad o)), (1, .int p0)]) hx hb dX5_businessDayNotBefore_3 rfl hl (by decide) rfl (fun ls hl => ?_)
  refine (fun (h : ∀ (n : Nat) (i3 : Int32) (aa : Int32) (d4 : Drawn) (H : Heap) (locs : List Loc) (ls : Array Slot), ((1000 : Int32).toInt - i3.toInt).toNat < n → 0 ≤ i3 → s.drawn.sameBut d4 lw_cs → va_P (dC, dI) vwCl (wX ad cA σ) H → va_D A (wX ad cA σ) → va_S A s.heap H locs → lv_has ls 4 [(3, .int i3), (2, .int aa), (0, .ref (ad o)), (1, .int p0)] → W p l e _ (s.setDrawn d4) m _ below meth c H locs _ _ _ (F0 m 4 ls [])) => h _ 0 p0 _ _ _ _ (Nat.lt_succ_self _) (by decide) hd0 hP hD hS (lv_sub hl [0, 1, 2, 3] rfl)) ?_
  intro n4
  induction n4 with
  | zero => intro i3 aa  d4 H locs ls hm; exact absurd hm (Nat.not_lt_zero _)
  | succ n4 ih4 =>
    intro i3 aa  d4 H locs ls hm4 iv4_0  hd0 hP hD hS hl
    have hts := dr_words hts0 (d4)
    have hK := gKd hK0 (d4)
    have hown : (s.setDrawn (d4)).vm.findClass RX5 = some m.cls := hown0
    refine lv_iload_n hx hb dX5_businessDayNotBefore_4 rfl (lv_at hl 0 rfl) ?_
    refine lv_sipush (v := 1000) hx hb dX5_businessDayNotBefore_5 (by decide) ?_
    refine lv_icmp_ge (tgt := 28) hx hb dX5_businessDayNotBefore_8 (by decide) (fun c_1 => ?_) (fun c_1 => ?_)
    · refine lv_iload_n hx hb dX5_businessDayNotBefore_28 rfl (lv_at hl 1 rfl) ?_
      refine W.endD hd0 ?_
      exact W.iret (v := aa) hx hb hr (fun t ht hW => ⟨⟨aa, σ, rfl, ⟨hI, rfl, trivial⟩, ⟨by rw [ht]; exact hP, hD⟩⟩, hS.F ht⟩) hS.2.2 dX5_businessDayNotBefore_29
    · refine lv_aload_n hx hb dX5_businessDayNotBefore_11 rfl (lv_at hl 2 rfl) ?_
      refine lv_iload_n hx hb dX5_businessDayNotBefore_12 rfl (lv_at hl 1 rfl) ?_
      have hF := gFree hD hS hA
      refine va_calliD hd0 (va_runV_D (As := [.int aa]) (rest := []) ⟨hx, hb, hml, hown, hts⟩ (n_X5_isBusinessDay l dC dI ad cA adK adV H.size σ hI o ho aa) (cwV 1 hts gX5_businessDayNotBefore_X5_isBusinessDay rfl rfl rfl (by decide +kernel) ⟨Nat.le_of_ble_eq_true rfl, Nat.le_of_ble_eq_true rfl⟩) ⟨gBlind, va_recv hK hP (ci := 4) (q0 := o) rfl (at_4 ho), gStart (As := [.ref (ad o), .int aa]) hP hD hK0 hT hS hF (d4)⟩ rfl rfl hl.1 rfl (lv_room (Nat.le_of_ble_eq_true rfl)) dX5_businessDayNotBefore_13 ⟨Nat.le_of_ble_eq_true rfl, Nat.le_of_ble_eq_true rfl⟩) hS (fun q _ h => hF q h) hF (fun r_2 σ1 t H locs ht hvm hw hB hz1 hk1 hS d_3 hd0 => ?_)
      have hts := dr_words hts0 (d_3)
      have hK := gKd hK0 (d_3)
      have hown : (s.setDrawn (d_3)).vm.findClass RX5 = some m.cls := hown0
      obtain ⟨hP, hD⟩ := gBack hF ht hB
      obtain ⟨hIσ1, hro, hp_4⟩ := hw
      subst hro
      refine lv_if_ne (tgt := 28) hx hb dX5_businessDayNotBefore_16 (by decide) (fun c_5 => ?_) (fun c_5 => ?_)
      · refine lv_iload_n hx hb dX5_businessDayNotBefore_28 rfl (lv_at hl 1 rfl) ?_
        refine W.endD hd0 ?_
        exact W.iret (v := aa) hx hb hr (fun t ht hW => ⟨⟨aa, σ, rfl, ⟨hI, rfl, trivial⟩, ⟨by rw [ht]; exact hP, hD⟩⟩, hS.F ht⟩) hS.2.2 dX5_businessDayNotBefore_29
      · obtain ⟨x_6, ex_6⟩ : ∃ zz : Int32, zz = aa + 1 := ⟨_, rfl⟩
        refine lv_iinc (v := x_6) (lv' := [(2, .int x_6), (3, .int i3), (0, .ref (ad o)), (1, .int p0)]) hx hb dX5_businessDayNotBefore_19 hl (k := 1) rfl (by rw [ex_6]; rfl) (by decide) rfl (fun ls hl => ?_)
        obtain ⟨x_7, ex_7⟩ : ∃ zz : Int32, zz = i3 + 1 := ⟨_, rfl⟩
        refine lv_iinc (v := x_7) (lv' := [(3, .int x_7), (2, .int x_6), (0, .ref (ad o)), (1, .int p0)]) hx hb dX5_businessDayNotBefore_22 hl (k := 1) rfl (by rw [ex_7]; rfl) (by decide) rfl (fun ls hl => ?_)
        refine lv_goto (tgt := 4) hx hb dX5_businessDayNotBefore_25 (by decide) ?_
        exact ih4 x_7 x_6 _ _ _ _ (cnt_m iv4_0 (Int32.not_le.mp c_1) hm4 ex_7) (cnt_0 iv4_0 (Int32.not_le.mp c_1) ex_7) hd0 hP hD hS (lv_sub hl [0, 1, 2, 3] rfl)
