set_option maxHeartbeats 8000000 in
set_option maxRecDepth 100000 in
theorem n_X10_append (l : Launch) (dC : Nat → ClassId) (dI : Nat → Nat → Nat) (ad : Nat → Nat) (cA : Nat → ClassId) (adK adV : Nat → Nat) (sz : Nat) (σ : gs) (hI : InvX σ) (p0 : Int32) : MetD lw_cs l yX10_append wsX10_append ({ frames := 0, cells := 0, slots := 0, locals := 0 }) (va_Pc [.ref (ad 2), .int p0] (gPre adK adV (dC, dI) (wX ad cA σ) (tX cA) sz)) (va_Qv (fun (τ : gs) => InvX τ ∧ gFr [9, 20] σ τ ∧ (True)) (fun τ t => gPost (dC, dI) (va_A (wX ad cA σ) sz) (wX ad cA τ) t) (va_A (wX ad cA σ) sz)) 0 0 (va_A (wX ad cA σ) sz) := by
  refine MetD.ofW (cc := cX10_append) (maxL := 3) (ret := none) (by decide) rfl ?_
  intro p e s m args below meth c s₁ B hml hv hd0
  obtain ⟨rfl, hsz, hP, hK, hD0, hT⟩ := hv
  have hx := B.exec
  have hb := B.bytes
  have hr := B.returns
  have hts0 := atoms_spec (ws := wsX10_append) B.pre
  have hK0 := hK
  have hown0 : s.vm.findClass RX10 = some m.cls := findClass_of_methodNamed B.named
  have hlocks := B.notSynchronized
  have hinX10 : ∀ w ∈ u_ws RX10 TX10 7, w ∈ wsX10_append := (fun _ h9 => List.mem_cons_of_mem _ (List.mem_append_right _ h9))
  subst hsz
  have hD := hD0.self (sz := s.heap.size)
  generalize hAe : va_A (wX ad cA σ) s.heap.size = A at hD hT ⊢
  have hA : ∀ q : Nat, s.heap.size ≤ q → A q := fun q h => by rw [← hAe]; exact Or.inr h
  have hS : va_S A s.heap s.heap [] := va_S.rf
  have hl := lv_entry ([.ref (ad 2), .int p0]) (n := 3) (Nat.le_of_ble_eq_true rfl)
  rw [lg_entry_eq]
  generalize (lg_sl ([.ref (ad 2), .int p0]) ++ List.replicate (3 - (lg_sl ([.ref (ad 2), .int p0])).length) Slot.unset).toArray = ls at hl ⊢
  have hl : lv_has ls 3 [(0, .ref (ad 2)), (1, .int p0)] := hl
  have hts := dr_words hts0 (s.drawn)
  have hK := gKd hK0 (s.drawn)
  have hown : (s.setDrawn (s.drawn)).vm.findClass RX10 = some m.cls := hown0
  refine lv_bipush (v := 24) hx hb dX10_append_0 (by decide) ?_
  refine lv_istore_n (lv' := [(2, .int 24), (0, .ref (ad 2)), (1, .int p0)]) hx hb dX10_append_2 rfl hl (by decide) rfl (fun ls hl => ?_)
  refine (fun (h : ∀ (n : Nat) (i : Int32) (σ3x : gs) (d3 : Drawn) (H : Heap) (locs : List Loc) (ls : Array Slot), (i.toInt + (8 : Int32).toInt).toNat < n → InvX σ3x → gFr [9, 20] σ σ3x → s.drawn.sameBut d3 lw_cs → va_P (dC, dI) vwCl (wX ad cA σ3x) H → va_D A (wX ad cA σ3x) → va_S A s.heap H locs → lv_has ls 3 [(2, .int i), (0, .ref (ad 2)), (1, .int p0)] → W p l e _ (s.setDrawn d3) m _ below meth c H locs _ _ _ (F0 m 3 ls [])) => h _ 24 σ _ _ _ _ (Nat.lt_succ_self _)  hI (gFr.rfl (L := [9, 20]) (σ := σ)) hd0 hP hD hS (lv_sub hl [0, 1, 2] rfl)) ?_
  intro n3
  induction n3 with
  | zero => intro i σ3x d3 H locs ls hm; exact absurd hm (Nat.not_lt_zero _)
  | succ n3 ih3 =>
    intro i σ3x d3 H locs ls hm3  hIσ3x frσ3x hd0 hP hD hS hl
    have hts := dr_words hts0 (d3)
    have hK := gKd hK0 (d3)
    have hown : (s.setDrawn (d3)).vm.findClass RX10 = some m.cls := hown0
    refine lv_iload_n hx hb dX10_append_3 rfl (lv_at hl 0 rfl) ?_
    refine lv_if_lt (tgt := 48) hx hb dX10_append_4 (by decide) (fun c_1 => ?_) (fun c_1 => ?_)
    · refine W.endD hd0 ?_
      exact W.vret hx hb hr (fun t ht hW => ⟨⟨σ3x, rfl, ⟨hIσ3x, frσ3x, trivial⟩, ⟨by rw [ht]; exact hP, hD⟩⟩, hS.F ht⟩) hS.2.2 dX10_append_48
    · refine lv_aload_n hx hb dX10_append_7 rfl (lv_at hl 1 rfl) ?_
      have bd_2 := rd_9_1 (c := 2) hIσ3x rfl
      refine va_get (D := (dC, dI)) (ci := 9) (v := .int ((σ3x 2).1 1)) (C := RX10) (T := TX10) (N := 7) hx hb hts hinX10 hown hK hP 2 (at_9 rfl) rfl 1 (by decide) (hts (.fieldLink RX10 13 "BondCalendars$Tape" "length" "I") (by decide +kernel)) (fun _ h9 => h9) rfl dX10_append_8 ?_
      refine lv_aload_n hx hb dX10_append_11 rfl (lv_at hl 1 rfl) ?_
      refine va_get (D := (dC, dI)) (ci := 9) (v := .ref (ad 3)) (C := RX10) (T := TX10) (N := 7) hx hb hts hinX10 hown hK hP 2 (at_9 rfl) rfl 0 (by decide) (hts (.fieldLink RX10 9 "BondCalendars$Tape" "bytes" "[B") (by decide +kernel)) (fun _ h9 => h9) rfl dX10_append_12 ?_
      refine va_alen (v := 900) hx hb hK hP 3 3 (at_20 rfl) (ty_20 rfl) rfl dX10_append_15 ?_
      refine lv_icmp_ge (tgt := 42) hx hb dX10_append_16 (by decide) (fun c_3 => ?_) (fun c_3 => ?_)
      · obtain ⟨x_4, ex_4⟩ : ∃ zz : Int32, zz = i + (-8) := ⟨_, rfl⟩
        refine lv_iinc (v := x_4) (lv' := [(2, .int x_4), (0, .ref (ad 2)), (1, .int p0)]) hx hb dX10_append_42 hl (k := 0) rfl (by rw [ex_4]; rfl) (by decide) rfl (fun ls hl => ?_)
        refine lv_goto (tgt := 3) hx hb dX10_append_45 (by decide) ?_
        exact ih3 x_4 σ3x _ _ _ _ (dn_m (k := 8) (by decide) (Int32.not_lt.mp c_1) hm3 ex_4)  hIσ3x frσ3x hd0 hP hD hS (lv_sub hl [0, 1, 2] rfl)
      · refine lv_aload_n hx hb dX10_append_19 rfl (lv_at hl 1 rfl) ?_
        refine va_get (D := (dC, dI)) (ci := 9) (v := .ref (ad 3)) (C := RX10) (T := TX10) (N := 7) hx hb hts hinX10 hown hK hP 2 (at_9 rfl) rfl 0 (by decide) (hts (.fieldLink RX10 9 "BondCalendars$Tape" "bytes" "[B") (by decide +kernel)) (fun _ h9 => h9) rfl dX10_append_20 ?_
        refine lv_aload_n hx hb dX10_append_23 rfl (lv_at hl 1 rfl) ?_
        refine va_get (D := (dC, dI)) (ci := 9) (v := .int ((σ3x 2).1 1)) (C := RX10) (T := TX10) (N := 7) hx hb hts hinX10 hown hK hP 2 (at_9 rfl) rfl 1 (by decide) (hts (.fieldLink RX10 13 "BondCalendars$Tape" "length" "I") (by decide +kernel)) (fun _ h9 => h9) rfl dX10_append_24 ?_
        refine lv_iload_n hx hb dX10_append_27 rfl (lv_at hl 2 rfl) ?_
        refine lv_iload_n hx hb dX10_append_28 rfl (lv_at hl 0 rfl) ?_
        refine lv_ishr hx hb dX10_append_29 ?_
        refine lv_topi (fun x_5 _ => ?_)
        refine lv_i2b hx hb dX10_append_30 rfl ?_
        refine lv_topi (fun x_6 _ => ?_)
        refine va_bast hx hb hK hP hD hS 3 3 (at_20 rfl) (ty_20 rfl) (gin (N := 900) (by decide) bd_2.1 (Int32.not_le.mp c_3)) dX10_append_31 (fun H locs hP hD hS => ?_)
        obtain ⟨σ1, eσ1, hP, hD⟩ := gPut (se_20 rfl) hP hD
        have hIσ1 : InvX σ1 := by rw [eσ1]; exact inv_I hIσ3x (ok_20 rfl _ _)
        have frσ1 : gFr [9, 20] σ σ1 := by rw [eσ1]; exact gFr.pI frσ3x rfl (by decide)
        refine lv_aload_n hx hb dX10_append_32 rfl (lv_at hl 1 rfl) ?_
        refine lv_dup hx hb dX10_append_33 rfl ?_
        refine va_get (D := (dC, dI)) (ci := 9) (v := .int ((σ3x 2).1 1)) (C := RX10) (T := TX10) (N := 7) hx hb hts hinX10 hown hK hP 2 (at_9 rfl) rfl 1 (by decide) (hts (.fieldLink RX10 13 "BondCalendars$Tape" "length" "I") (by decide +kernel)) (fun _ h9 => h9) (congrArg (fun z => some (Value.int z)) (show (σ1 2).1 1 = ((σ3x 2).1 1) from by rw [eσ1, gI_ne _ _ _ (by decide)])) dX10_append_34 ?_
        refine lv_iconst (v := 1) hx hb dX10_append_37 (by decide) ?_
        refine lv_iadd hx hb dX10_append_38 ?_
        refine lv_topi (fun x_7 ex_7 => ?_)
        refine va_put (D := (dC, dI)) (ci := 9) (v := .int x_7) (C := RX10) (T := TX10) (N := 7) hx hb hts hinX10 tyX10 tyX10_ok nmX10 hown hK hP hD hS 2 (at_9 rfl) rfl 1 (by decide) (hts (.fieldLink RX10 13 "BondCalendars$Tape" "length" "I") (by decide +kernel)) (fun _ h9 => h9) rfl (ty := .int) (by decide +kernel) rfl rfl (Nat.le_of_ble_eq_true rfl) dX10_append_39 (fun H locs hP hD hS => ?_)
        obtain ⟨σ2, eσ2, hP, hD⟩ := gPut (se_9_1 rfl) hP hD
        have hIσ2 : InvX σ2 := by rw [eσ2]; exact inv_I hIσ1 (ok_9_1 rfl _ ⟨(cnt_0 bd_2.1 (Int32.not_le.mp c_3) ex_7), (cnt_N bd_2.1 (Int32.not_le.mp c_3) ex_7)⟩)
        have frσ2 : gFr [9, 20] σ σ2 := by rw [eσ2]; exact gFr.pI frσ1 rfl (by decide)
        obtain ⟨x_8, ex_8⟩ : ∃ zz : Int32, zz = i + (-8) := ⟨_, rfl⟩
        refine lv_iinc (v := x_8) (lv' := [(2, .int x_8), (0, .ref (ad 2)), (1, .int p0)]) hx hb dX10_append_42 hl (k := 0) rfl (by rw [ex_8]; rfl) (by decide) rfl (fun ls hl => ?_)
        refine lv_goto (tgt := 3) hx hb dX10_append_45 (by decide) ?_
        exact ih3 x_8 σ2 _ _ _ _ (dn_m (k := 8) (by decide) (Int32.not_lt.mp c_1) hm3 ex_8)  hIσ2 frσ2 hd0 hP hD hS (lv_sub hl [0, 1, 2] rfl)
set_option maxHeartbeats 8000000 in
set_option maxRecDepth 100000 in
theorem n_X10_advance (l : Launch) (dC : Nat → ClassId) (dI : Nat → Nat → Nat) (ad : Nat → Nat) (cA : Nat → ClassId) (adK adV : Nat → Nat) (sz : Nat) (σ : gs) (hI : InvX σ)  : MetD lw_cs l yX10_advance wsX10_advance ({ frames := 0, cells := 0, slots := 0, locals := 0 }) (va_Pc [.ref (ad 2)] (gPre adK adV (dC, dI) (wX ad cA σ) (tX cA) sz)) (va_Qv (fun (τ : gs) => InvX τ ∧ gFr [9] σ τ ∧ (True)) (fun τ t => gPost (dC, dI) (va_A (wX ad cA σ) sz) (wX ad cA τ) t) (va_A (wX ad cA σ) sz)) 0 0 (va_A (wX ad cA σ) sz) := by
  refine MetD.ofW (cc := cX10_advance) (maxL := 7) (ret := none) (by decide) rfl ?_
  intro p e s m args below meth c s₁ B hml hv hd0
  obtain ⟨rfl, hsz, hP, hK, hD0, hT⟩ := hv
  have hx := B.exec
  have hb := B.bytes
  have hr := B.returns
  have hts0 := atoms_spec (ws := wsX10_advance) B.pre
  have hK0 := hK
  have hown0 : s.vm.findClass RX10 = some m.cls := findClass_of_methodNamed B.named
  have hlocks := B.notSynchronized
  have hinX10 : ∀ w ∈ u_ws RX10 TX10 7, w ∈ wsX10_advance := (fun _ h9 => List.mem_cons_of_mem _ (List.mem_append_right _ h9))
  subst hsz
  have hD := hD0.self (sz := s.heap.size)
  generalize hAe : va_A (wX ad cA σ) s.heap.size = A at hD hT ⊢
  have hA : ∀ q : Nat, s.heap.size ≤ q → A q := fun q h => by rw [← hAe]; exact Or.inr h
  have hS : va_S A s.heap s.heap [] := va_S.rf
  have hl := lv_entry ([.ref (ad 2)]) (n := 7) (Nat.le_of_ble_eq_true rfl)
  rw [lg_entry_eq]
  generalize (lg_sl ([.ref (ad 2)]) ++ List.replicate (7 - (lg_sl ([.ref (ad 2)])).length) Slot.unset).toArray = ls at hl ⊢
  have hl : lv_has ls 7 [(0, .ref (ad 2))] := hl
  have hts := dr_words hts0 (s.drawn)
  have hK := gKd hK0 (s.drawn)
  have hown : (s.setDrawn (s.drawn)).vm.findClass RX10 = some m.cls := hown0
  refine (fun (h : ∀ (n : Nat)  (σ0x : gs) (d0 : Drawn) (H : Heap) (locs : List Loc) (ls : Array Slot), ((900 : Int32).toInt - ((σ0x 2).1 6).toInt).toNat < n → InvX σ0x → gFr [9] σ σ0x → s.drawn.sameBut d0 lw_cs → va_P (dC, dI) vwCl (wX ad cA σ0x) H → va_D A (wX ad cA σ0x) → va_S A s.heap H locs → lv_has ls 7 [(0, .ref (ad 2))] → W p l e _ (s.setDrawn d0) m _ below meth c H locs _ _ _ (F0 m 0 ls [])) => h _  σ _ _ _ _ (Nat.lt_succ_self _)  hI (gFr.rfl (L := [9]) (σ := σ)) hd0 hP hD hS (lv_sub hl [0] rfl)) ?_
  intro n0
  induction n0 with
  | zero => intro  σ0x d0 H locs ls hm; exact absurd hm (Nat.not_lt_zero _)
  | succ n0 ih0 =>
    intro  σ0x d0 H locs ls hm0  hIσ0x frσ0x hd0 hP hD hS hl
    have hts := dr_words hts0 (d0)
    have hK := gKd hK0 (d0)
    have hown : (s.setDrawn (d0)).vm.findClass RX10 = some m.cls := hown0
    refine lv_aload_n hx hb dX10_advance_0 rfl (lv_at hl 0 rfl) ?_
    have bd_1 := rd_9_6 (c := 2) hIσ0x rfl
    refine va_get (D := (dC, dI)) (ci := 9) (v := .int ((σ0x 2).1 6)) (C := RX10) (T := TX10) (N := 7) hx hb hts hinX10 hown hK hP 2 (at_9 rfl) rfl 6 (by decide) (hts (.fieldLink RX10 29 "BondCalendars$Tape" "next" "I") (by decide +kernel)) (fun _ h9 => h9) rfl dX10_advance_1 ?_
    refine lv_aload_n hx hb dX10_advance_4 rfl (lv_at hl 0 rfl) ?_
    have bd_2 := rd_9_5 (c := 2) hIσ0x rfl
    refine va_get (D := (dC, dI)) (ci := 9) (v := .int ((σ0x 2).1 5)) (C := RX10) (T := TX10) (N := 7) hx hb hts hinX10 hown hK hP 2 (at_9 rfl) rfl 5 (by decide) (hts (.fieldLink RX10 26 "BondCalendars$Tape" "limit" "I") (by decide +kernel)) (fun _ h9 => h9) rfl dX10_advance_5 ?_
    refine lv_icmp_ge (tgt := 38) hx hb dX10_advance_8 (by decide) (fun c_3 => ?_) (fun c_3 => ?_)
    · refine lv_aload_n hx hb dX10_advance_38 rfl (lv_at hl 0 rfl) ?_
      refine lv_aload_n hx hb dX10_advance_39 rfl (lv_at hl 0 rfl) ?_
      refine va_get (D := (dC, dI)) (ci := 9) (v := .int ((σ0x 2).1 6)) (C := RX10) (T := TX10) (N := 7) hx hb hts hinX10 hown hK hP 2 (at_9 rfl) rfl 6 (by decide) (hts (.fieldLink RX10 29 "BondCalendars$Tape" "next" "I") (by decide +kernel)) (fun _ h9 => h9) rfl dX10_advance_40 ?_
      refine va_put (D := (dC, dI)) (ci := 9) (v := .int ((σ0x 2).1 6)) (C := RX10) (T := TX10) (N := 7) hx hb hts hinX10 tyX10 tyX10_ok nmX10 hown hK hP hD hS 2 (at_9 rfl) rfl 3 (by decide) (hts (.fieldLink RX10 20 "BondCalendars$Tape" "start" "I") (by decide +kernel)) (fun _ h9 => h9) rfl (ty := .int) (by decide +kernel) rfl rfl (Nat.le_of_ble_eq_true rfl) dX10_advance_43 (fun H locs hP hD hS => ?_)
      obtain ⟨σ1, eσ1, hP, hD⟩ := gPut (se_9_3 rfl) hP hD
      have hIσ1 : InvX σ1 := by rw [eσ1]; exact inv_I hIσ0x (ok_9_3 rfl _ bd_1)
      have frσ1 : gFr [9] σ σ1 := by rw [eσ1]; exact gFr.pI frσ0x rfl (by decide)
      refine lv_aload_n hx hb dX10_advance_46 rfl (lv_at hl 0 rfl) ?_
      refine lv_iconst (v := 0) hx hb dX10_advance_47 (by decide) ?_
      refine va_put (D := (dC, dI)) (ci := 9) (v := .int 0) (C := RX10) (T := TX10) (N := 7) hx hb hts hinX10 tyX10 tyX10_ok nmX10 hown hK hP hD hS 2 (at_9 rfl) rfl 4 (by decide) (hts (.fieldLink RX10 23 "BondCalendars$Tape" "value" "I") (by decide +kernel)) (fun _ h9 => h9) rfl (ty := .int) (by decide +kernel) rfl rfl (Nat.le_of_ble_eq_true rfl) dX10_advance_48 (fun H locs hP hD hS => ?_)
      obtain ⟨σ2, eσ2, hP, hD⟩ := gPut (se_9_4 rfl) hP hD
      have hIσ2 : InvX σ2 := by rw [eσ2]; exact inv_I hIσ1 (ok_9_4 rfl _)
      have frσ2 : gFr [9] σ σ2 := by rw [eσ2]; exact gFr.pI frσ1 rfl (by decide)
      refine lv_aload_n hx hb dX10_advance_51 rfl (lv_at hl 0 rfl) ?_
      refine va_get (D := (dC, dI)) (ci := 9) (v := .int ((σ0x 2).1 6)) (C := RX10) (T := TX10) (N := 7) hx hb hts hinX10 hown hK hP 2 (at_9 rfl) rfl 6 (by decide) (hts (.fieldLink RX10 29 "BondCalendars$Tape" "next" "I") (by decide +kernel)) (fun _ h9 => h9) (congrArg (fun z => some (Value.int z)) (show (σ2 2).1 6 = ((σ0x 2).1 6) from by rw [eσ2, gI_oth _ _ _ (by decide), eσ1, gI_oth _ _ _ (by decide)])) dX10_advance_52 ?_
      refine lv_aload_n hx hb dX10_advance_55 rfl (lv_at hl 0 rfl) ?_
      refine va_get (D := (dC, dI)) (ci := 9) (v := .int ((σ0x 2).1 5)) (C := RX10) (T := TX10) (N := 7) hx hb hts hinX10 hown hK hP 2 (at_9 rfl) rfl 5 (by decide) (hts (.fieldLink RX10 26 "BondCalendars$Tape" "limit" "I") (by decide +kernel)) (fun _ h9 => h9) (congrArg (fun z => some (Value.int z)) (show (σ2 2).1 5 = ((σ0x 2).1 5) from by rw [eσ2, gI_oth _ _ _ (by decide), eσ1, gI_oth _ _ _ (by decide)])) dX10_advance_56 ?_
      refine lv_icmp_lt (tgt := 68) hx hb dX10_advance_59 (by decide) (fun c_4 => ?_) (fun c_4 => ?_)
      · exact absurd c_4 (Int32.not_lt.mpr c_3)
      · refine lv_aload_n hx hb dX10_advance_62 rfl (lv_at hl 0 rfl) ?_
        refine lv_iconst (v := 0) hx hb dX10_advance_63 (by decide) ?_
        refine va_put (D := (dC, dI)) (ci := 9) (v := .int 0) (C := RX10) (T := TX10) (N := 7) hx hb hts hinX10 tyX10 tyX10_ok nmX10 hown hK hP hD hS 2 (at_9 rfl) rfl 2 (by decide) (hts (.fieldLink RX10 17 "BondCalendars$Tape" "kind" "I") (by decide +kernel)) (fun _ h9 => h9) rfl (ty := .int) (by decide +kernel) rfl rfl (Nat.le_of_ble_eq_true rfl) dX10_advance_64 (fun H locs hP hD hS => ?_)
        obtain ⟨σ3, eσ3, hP, hD⟩ := gPut (se_9_2 rfl) hP hD
        have hIσ3 : InvX σ3 := by rw [eσ3]; exact inv_I hIσ2 (ok_9_2 rfl _)
        have frσ3 : gFr [9] σ σ3 := by rw [eσ3]; exact gFr.pI frσ2 rfl (by decide)
        refine W.endD hd0 ?_
        exact W.vret hx hb hr (fun t ht hW => ⟨⟨σ3, rfl, ⟨hIσ3, frσ3, trivial⟩, ⟨by rw [ht]; exact hP, hD⟩⟩, hS.F ht⟩) hS.2.2 dX10_advance_67
    · refine lv_aload_n hx hb dX10_advance_11 rfl (lv_at hl 0 rfl) ?_
      refine va_get (D := (dC, dI)) (ci := 9) (v := .ref (ad 3)) (C := RX10) (T := TX10) (N := 7) hx hb hts hinX10 hown hK hP 2 (at_9 rfl) rfl 0 (by decide) (hts (.fieldLink RX10 9 "BondCalendars$Tape" "bytes" "[B") (by decide +kernel)) (fun _ h9 => h9) rfl dX10_advance_12 ?_
      refine lv_aload_n hx hb dX10_advance_15 rfl (lv_at hl 0 rfl) ?_
      refine va_get (D := (dC, dI)) (ci := 9) (v := .int ((σ0x 2).1 6)) (C := RX10) (T := TX10) (N := 7) hx hb hts hinX10 hown hK hP 2 (at_9 rfl) rfl 6 (by decide) (hts (.fieldLink RX10 29 "BondCalendars$Tape" "next" "I") (by decide +kernel)) (fun _ h9 => h9) rfl dX10_advance_16 ?_
      refine va_bald hx hb hK hP 3 3 (at_20 rfl) (ty_20 rfl) (gin (N := 900) (by decide) bd_1 (Int32.lt_of_lt_of_le (Int32.not_le.mp c_3) bd_2)) dX10_advance_19 ?_
      refine lv_topi (fun x_5 _ => ?_)
      refine lv_bipush (v := 32) hx hb dX10_advance_20 (by decide) ?_
      refine lv_icmp_ne (tgt := 38) hx hb dX10_advance_22 (by decide) (fun c_6 => ?_) (fun c_6 => ?_)
      · refine lv_aload_n hx hb dX10_advance_38 rfl (lv_at hl 0 rfl) ?_
        refine lv_aload_n hx hb dX10_advance_39 rfl (lv_at hl 0 rfl) ?_
        refine va_get (D := (dC, dI)) (ci := 9) (v := .int ((σ0x 2).1 6)) (C := RX10) (T := TX10) (N := 7) hx hb hts hinX10 hown hK hP 2 (at_9 rfl) rfl 6 (by decide) (hts (.fieldLink RX10 29 "BondCalendars$Tape" "next" "I") (by decide +kernel)) (fun _ h9 => h9) rfl dX10_advance_40 ?_
        refine va_put (D := (dC, dI)) (ci := 9) (v := .int ((σ0x 2).1 6)) (C := RX10) (T := TX10) (N := 7) hx hb hts hinX10 tyX10 tyX10_ok nmX10 hown hK hP hD hS 2 (at_9 rfl) rfl 3 (by decide) (hts (.fieldLink RX10 20 "BondCalendars$Tape" "start" "I") (by decide +kernel)) (fun _ h9 => h9) rfl (ty := .int) (by decide +kernel) rfl rfl (Nat.le_of_ble_eq_true rfl) dX10_advance_43 (fun H locs hP hD hS => ?_)
        obtain ⟨σ4, eσ4, hP, hD⟩ := gPut (se_9_3 rfl) hP hD
        have hIσ4 : InvX σ4 := by rw [eσ4]; exact inv_I hIσ0x (ok_9_3 rfl _ bd_1)
        have frσ4 : gFr [9] σ σ4 := by rw [eσ4]; exact gFr.pI frσ0x rfl (by decide)
        refine lv_aload_n hx hb dX10_advance_46 rfl (lv_at hl 0 rfl) ?_
        refine lv_iconst (v := 0) hx hb dX10_advance_47 (by decide) ?_
        refine va_put (D := (dC, dI)) (ci := 9) (v := .int 0) (C := RX10) (T := TX10) (N := 7) hx hb hts hinX10 tyX10 tyX10_ok nmX10 hown hK hP hD hS 2 (at_9 rfl) rfl 4 (by decide) (hts (.fieldLink RX10 23 "BondCalendars$Tape" "value" "I") (by decide +kernel)) (fun _ h9 => h9) rfl (ty := .int) (by decide +kernel) rfl rfl (Nat.le_of_ble_eq_true rfl) dX10_advance_48 (fun H locs hP hD hS => ?_)
        obtain ⟨σ5, eσ5, hP, hD⟩ := gPut (se_9_4 rfl) hP hD
        have hIσ5 : InvX σ5 := by rw [eσ5]; exact inv_I hIσ4 (ok_9_4 rfl _)
        have frσ5 : gFr [9] σ σ5 := by rw [eσ5]; exact gFr.pI frσ4 rfl (by decide)
        refine lv_aload_n hx hb dX10_advance_51 rfl (lv_at hl 0 rfl) ?_
        refine va_get (D := (dC, dI)) (ci := 9) (v := .int ((σ0x 2).1 6)) (C := RX10) (T := TX10) (N := 7) hx hb hts hinX10 hown hK hP 2 (at_9 rfl) rfl 6 (by decide) (hts (.fieldLink RX10 29 "BondCalendars$Tape" "next" "I") (by decide +kernel)) (fun _ h9 => h9) (congrArg (fun z => some (Value.int z)) (show (σ5 2).1 6 = ((σ0x 2).1 6) from by rw [eσ5, gI_oth _ _ _ (by decide), eσ4, gI_oth _ _ _ (by decide)])) dX10_advance_52 ?_
        refine lv_aload_n hx hb dX10_advance_55 rfl (lv_at hl 0 rfl) ?_
        refine va_get (D := (dC, dI)) (ci := 9) (v := .int ((σ0x 2).1 5)) (C := RX10) (T := TX10) (N := 7) hx hb hts hinX10 hown hK hP 2 (at_9 rfl) rfl 5 (by decide) (hts (.fieldLink RX10 26 "BondCalendars$Tape" "limit" "I") (by decide +kernel)) (fun _ h9 => h9) (congrArg (fun z => some (Value.int z)) (show (σ5 2).1 5 = ((σ0x 2).1 5) from by rw [eσ5, gI_oth _ _ _ (by decide), eσ4, gI_oth _ _ _ (by decide)])) dX10_advance_56 ?_
        refine lv_icmp_lt (tgt := 68) hx hb dX10_advance_59 (by decide) (fun c_7 => ?_) (fun c_7 => ?_)
        · refine lv_aload_n hx hb dX10_advance_68 rfl (lv_at hl 0 rfl) ?_
          refine va_get (D := (dC, dI)) (ci := 9) (v := .ref (ad 3)) (C := RX10) (T := TX10) (N := 7) hx hb hts hinX10 hown hK hP 2 (at_9 rfl) rfl 0 (by decide) (hts (.fieldLink RX10 9 "BondCalendars$Tape" "bytes" "[B") (by decide +kernel)) (fun _ h9 => h9) rfl dX10_advance_69 ?_
          refine lv_aload_n hx hb dX10_advance_72 rfl (lv_at hl 0 rfl) ?_
          refine va_get (D := (dC, dI)) (ci := 9) (v := .int ((σ0x 2).1 6)) (C := RX10) (T := TX10) (N := 7) hx hb hts hinX10 hown hK hP 2 (at_9 rfl) rfl 6 (by decide) (hts (.fieldLink RX10 29 "BondCalendars$Tape" "next" "I") (by decide +kernel)) (fun _ h9 => h9) (congrArg (fun z => some (Value.int z)) (show (σ5 2).1 6 = ((σ0x 2).1 6) from by rw [eσ5, gI_oth _ _ _ (by decide), eσ4, gI_oth _ _ _ (by decide)])) dX10_advance_73 ?_
          refine va_bald hx hb hK hP 3 3 (at_20 rfl) (ty_20 rfl) (gin (N := 900) (by decide) bd_1 (Int32.lt_of_lt_of_le (Int32.not_le.mp c_3) bd_2)) dX10_advance_76 ?_
          refine lv_topi (fun x_8 _ => ?_)
          refine lv_istore_n (lv' := [(1, .int x_8), (0, .ref (ad 2))]) hx hb dX10_advance_77 rfl hl (by decide) rfl (fun ls hl => ?_)
          refine lv_iload_n hx hb dX10_advance_78 rfl (lv_at hl 0 rfl) ?_
          refine lv_bipush (v := 97) hx hb dX10_advance_79 (by decide) ?_
          refine lv_icmp_lt (tgt := 94) hx hb dX10_advance_81 (by decide) (fun c_9 => ?_) (fun c_9 => ?_)
          · refine lv_iconst (v := 0) hx hb dX10_advance_94 (by decide) ?_
            refine lv_istore_n (lv' := [(2, .int 0), (1, .int x_8), (0, .ref (ad 2))]) hx hb dX10_advance_95 rfl hl (by decide) rfl (fun ls hl => ?_)
            refine lv_iload_n hx hb dX10_advance_96 rfl (lv_at hl 1 rfl) ?_
            refine lv_bipush (v := 48) hx hb dX10_advance_97 (by decide) ?_
            refine lv_icmp_lt (tgt := 112) hx hb dX10_advance_99 (by decide) (fun c_10 => ?_) (fun c_10 => ?_)
            · refine lv_iconst (v := 0) hx hb dX10_advance_112 (by decide) ?_
              refine lv_istore_n (lv' := [(3, .int 0), (2, .int 0), (1, .int x_8), (0, .ref (ad 2))]) hx hb dX10_advance_113 rfl hl (by decide) rfl (fun ls hl => ?_)
              refine lv_iload_n hx hb dX10_advance_114 rfl (lv_at hl 2 rfl) ?_
              refine lv_bipush (v := 59) hx hb dX10_advance_115 (by decide) ?_
              refine lv_icmp_ne (tgt := 138) hx hb dX10_advance_117 (by decide) (fun c_11 => ?_) (fun c_11 => ?_)
              · refine lv_iload_n hx hb dX10_advance_138 rfl (lv_at hl 1 rfl) ?_
                refine lv_if_ne (tgt := 146) hx hb dX10_advance_139 (by decide) (fun c_12 => ?_) (fun c_12 => ?_)
                · exact absurd (by decide) c_12
                · refine lv_iload_n hx hb dX10_advance_142 rfl (lv_at hl 0 rfl) ?_
                  refine lv_if_eq (tgt := 295) hx hb dX10_advance_143 (by decide) (fun c_13 => ?_) (fun c_13 => ?_)
                  · refine lv_aload_n hx hb dX10_advance_295 rfl (lv_at hl 3 rfl) ?_
                    refine lv_iconst (v := 4) hx hb dX10_advance_296 (by decide) ?_
                    refine va_put (D := (dC, dI)) (ci := 9) (v := .int 4) (C := RX10) (T := TX10) (N := 7) hx hb hts hinX10 tyX10 tyX10_ok nmX10 hown hK hP hD hS 2 (at_9 rfl) rfl 2 (by decide) (hts (.fieldLink RX10 17 "BondCalendars$Tape" "kind" "I") (by decide +kernel)) (fun _ h9 => h9) rfl (ty := .int) (by decide +kernel) rfl rfl (Nat.le_of_ble_eq_true rfl) dX10_advance_297 (fun H locs hP hD hS => ?_)
                    obtain ⟨σ6, eσ6, hP, hD⟩ := gPut (se_9_2 rfl) hP hD
                    have hIσ6 : InvX σ6 := by rw [eσ6]; exact inv_I hIσ5 (ok_9_2 rfl _)
                    have frσ6 : gFr [9] σ σ6 := by rw [eσ6]; exact gFr.pI frσ5 rfl (by decide)
                    refine W.endD hd0 ?_
                    exact W.vret hx hb hr (fun t ht hW => ⟨⟨σ6, rfl, ⟨hIσ6, frσ6, trivial⟩, ⟨by rw [ht]; exact hP, hD⟩⟩, hS.F ht⟩) hS.2.2 dX10_advance_300
                  · exact absurd (by decide) c_13
              · refine lv_aload_n hx hb dX10_advance_120 rfl (lv_at hl 3 rfl) ?_
                refine lv_iconst (v := 3) hx hb dX10_advance_121 (by decide) ?_
                refine va_put (D := (dC, dI)) (ci := 9) (v := .int 3) (C := RX10) (T := TX10) (N := 7) hx hb hts hinX10 tyX10 tyX10_ok nmX10 hown hK hP hD hS 2 (at_9 rfl) rfl 2 (by decide) (hts (.fieldLink RX10 17 "BondCalendars$Tape" "kind" "I") (by decide +kernel)) (fun _ h9 => h9) rfl (ty := .int) (by decide +kernel) rfl rfl (Nat.le_of_ble_eq_true rfl) dX10_advance_122 (fun H locs hP hD hS => ?_)
                obtain ⟨σ7, eσ7, hP, hD⟩ := gPut (se_9_2 rfl) hP hD
                have hIσ7 : InvX σ7 := by rw [eσ7]; exact inv_I hIσ5 (ok_9_2 rfl _)
                have frσ7 : gFr [9] σ σ7 := by rw [eσ7]; exact gFr.pI frσ5 rfl (by decide)
                refine lv_aload_n hx hb dX10_advance_125 rfl (lv_at hl 3 rfl) ?_
                refine lv_dup hx hb dX10_advance_126 rfl ?_
                refine va_get (D := (dC, dI)) (ci := 9) (v := .int ((σ0x 2).1 6)) (C := RX10) (T := TX10) (N := 7) hx hb hts hinX10 hown hK hP 2 (at_9 rfl) rfl 6 (by decide) (hts (.fieldLink RX10 29 "BondCalendars$Tape" "next" "I") (by decide +kernel)) (fun _ h9 => h9) (congrArg (fun z => some (Value.int z)) (show (σ7 2).1 6 = ((σ0x 2).1 6) from by rw [eσ7, gI_oth _ _ _ (by decide), eσ5, gI_oth _ _ _ (by decide), eσ4, gI_oth _ _ _ (by decide)])) dX10_advance_127 ?_
                refine lv_iconst (v := 1) hx hb dX10_advance_130 (by decide) ?_
                refine lv_iadd hx hb dX10_advance_131 ?_
                refine lv_topi (fun x_14 ex_14 => ?_)
                refine va_put (D := (dC, dI)) (ci := 9) (v := .int x_14) (C := RX10) (T := TX10) (N := 7) hx hb hts hinX10 tyX10 tyX10_ok nmX10 hown hK hP hD hS 2 (at_9 rfl) rfl 6 (by decide) (hts (.fieldLink RX10 29 "BondCalendars$Tape" "next" "I") (by decide +kernel)) (fun _ h9 => h9) rfl (ty := .int) (by decide +kernel) rfl rfl (Nat.le_of_ble_eq_true rfl) dX10_advance_132 (fun H locs hP hD hS => ?_)
                obtain ⟨σ8, eσ8, hP, hD⟩ := gPut (se_9_6 rfl) hP hD
                have hIσ8 : InvX σ8 := by rw [eσ8]; exact inv_I hIσ7 (ok_9_6 rfl _ (cnt_0 bd_1 (Int32.lt_of_lt_of_le (Int32.not_le.mp c_3) bd_2) ex_14))
                have frσ8 : gFr [9] σ σ8 := by rw [eσ8]; exact gFr.pI frσ7 rfl (by decide)
                refine lv_goto (tgt := 300) hx hb dX10_advance_135 (by decide) ?_
                refine W.endD hd0 ?_
                exact W.vret hx hb hr (fun t ht hW => ⟨⟨σ8, rfl, ⟨hIσ8, frσ8, trivial⟩, ⟨by rw [ht]; exact hP, hD⟩⟩, hS.F ht⟩) hS.2.2 dX10_advance_300
            · refine lv_iload_n hx hb dX10_advance_102 rfl (lv_at hl 1 rfl) ?_
              refine lv_bipush (v := 57) hx hb dX10_advance_103 (by decide) ?_
              refine lv_icmp_gt (tgt := 112) hx hb dX10_advance_105 (by decide) (fun c_15 => ?_) (fun c_15 => ?_)
              · refine lv_iconst (v := 0) hx hb dX10_advance_112 (by decide) ?_
                refine lv_istore_n (lv' := [(3, .int 0), (2, .int 0), (1, .int x_8), (0, .ref (ad 2))]) hx hb dX10_advance_113 rfl hl (by decide) rfl (fun ls hl => ?_)
                refine lv_iload_n hx hb dX10_advance_114 rfl (lv_at hl 2 rfl) ?_
                refine lv_bipush (v := 59) hx hb dX10_advance_115 (by decide) ?_
                refine lv_icmp_ne (tgt := 138) hx hb dX10_advance_117 (by decide) (fun c_16 => ?_) (fun c_16 => ?_)
                · refine lv_iload_n hx hb dX10_advance_138 rfl (lv_at hl 1 rfl) ?_
                  refine lv_if_ne (tgt := 146) hx hb dX10_advance_139 (by decide) (fun c_17 => ?_) (fun c_17 => ?_)
                  · exact absurd (by decide) c_17
                  · refine lv_iload_n hx hb dX10_advance_142 rfl (lv_at hl 0 rfl) ?_
                    refine lv_if_eq (tgt := 295) hx hb dX10_advance_143 (by decide) (fun c_18 => ?_) (fun c_18 => ?_)
                    · refine lv_aload_n hx hb dX10_advance_295 rfl (lv_at hl 3 rfl) ?_
                      refine lv_iconst (v := 4) hx hb dX10_advance_296 (by decide) ?_
                      refine va_put (D := (dC, dI)) (ci := 9) (v := .int 4) (C := RX10) (T := TX10) (N := 7) hx hb hts hinX10 tyX10 tyX10_ok nmX10 hown hK hP hD hS 2 (at_9 rfl) rfl 2 (by decide) (hts (.fieldLink RX10 17 "BondCalendars$Tape" "kind" "I") (by decide +kernel)) (fun _ h9 => h9) rfl (ty := .int) (by decide +kernel) rfl rfl (Nat.le_of_ble_eq_true rfl) dX10_advance_297 (fun H locs hP hD hS => ?_)
                      obtain ⟨σ9, eσ9, hP, hD⟩ := gPut (se_9_2 rfl) hP hD
                      have hIσ9 : InvX σ9 := by rw [eσ9]; exact inv_I hIσ5 (ok_9_2 rfl _)
                      have frσ9 : gFr [9] σ σ9 := by rw [eσ9]; exact gFr.pI frσ5 rfl (by decide)
                      refine W.endD hd0 ?_
                      exact W.vret hx hb hr (fun t ht hW => ⟨⟨σ9, rfl, ⟨hIσ9, frσ9, trivial⟩, ⟨by rw [ht]; exact hP, hD⟩⟩, hS.F ht⟩) hS.2.2 dX10_advance_300
                    · exact absurd (by decide) c_18
                · refine lv_aload_n hx hb dX10_advance_120 rfl (lv_at hl 3 rfl) ?_
                  refine lv_iconst (v := 3) hx hb dX10_advance_121 (by decide) ?_
                  refine va_put (D := (dC, dI)) (ci := 9) (v := .int 3) (C := RX10) (T := TX10) (N := 7) hx hb hts hinX10 tyX10 tyX10_ok nmX10 hown hK hP hD hS 2 (at_9 rfl) rfl 2 (by decide) (hts (.fieldLink RX10 17 "BondCalendars$Tape" "kind" "I") (by decide +kernel)) (fun _ h9 => h9) rfl (ty := .int) (by decide +kernel) rfl rfl (Nat.le_of_ble_eq_true rfl) dX10_advance_122 (fun H locs hP hD hS => ?_)
                  obtain ⟨σ10, eσ10, hP, hD⟩ := gPut (se_9_2 rfl) hP hD
                  have hIσ10 : InvX σ10 := by rw [eσ10]; exact inv_I hIσ5 (ok_9_2 rfl _)
                  have frσ10 : gFr [9] σ σ10 := by rw [eσ10]; exact gFr.pI frσ5 rfl (by decide)
                  refine lv_aload_n hx hb dX10_advance_125 rfl (lv_at hl 3 rfl) ?_
                  refine lv_dup hx hb dX10_advance_126 rfl ?_
                  refine va_get (D := (dC, dI)) (ci := 9) (v := .int ((σ0x 2).1 6)) (C := RX10) (T := TX10) (N := 7) hx hb hts hinX10 hown hK hP 2 (at_9 rfl) rfl 6 (by decide) (hts (.fieldLink RX10 29 "BondCalendars$Tape" "next" "I") (by decide +kernel)) (fun _ h9 => h9) (congrArg (fun z => some (Value.int z)) (show (σ10 2).1 6 = ((σ0x 2).1 6) from by rw [eσ10, gI_oth _ _ _ (by decide), eσ5, gI_oth _ _ _ (by decide), eσ4, gI_oth _ _ _ (by decide)])) dX10_advance_127 ?_
                  refine lv_iconst (v := 1) hx hb dX10_advance_130 (by decide) ?_
                  refine lv_iadd hx hb dX10_advance_131 ?_
                  refine lv_topi (fun x_19 ex_19 => ?_)
                  refine va_put (D := (dC, dI)) (ci := 9) (v := .int x_19) (C := RX10) (T := TX10) (N := 7) hx hb hts hinX10 tyX10 tyX10_ok nmX10 hown hK hP hD hS 2 (at_9 rfl) rfl 6 (by decide) (hts (.fieldLink RX10 29 "BondCalendars$Tape" "next" "I") (by decide +kernel)) (fun _ h9 => h9) rfl (ty := .int) (by decide +kernel) rfl rfl (Nat.le_of_ble_eq_true rfl) dX10_advance_132 (fun H locs hP hD hS => ?_)
                  obtain ⟨σ11, eσ11, hP, hD⟩ := gPut (se_9_6 rfl) hP hD
                  have hIσ11 : InvX σ11 := by rw [eσ11]; exact inv_I hIσ10 (ok_9_6 rfl _ (cnt_0 bd_1 (Int32.lt_of_lt_of_le (Int32.not_le.mp c_3) bd_2) ex_19))
                  have frσ11 : gFr [9] σ σ11 := by rw [eσ11]; exact gFr.pI frσ10 rfl (by decide)
                  refine lv_goto (tgt := 300) hx hb dX10_advance_135 (by decide) ?_
                  refine W.endD hd0 ?_
                  exact W.vret hx hb hr (fun t ht hW => ⟨⟨σ11, rfl, ⟨hIσ11, frσ11, trivial⟩, ⟨by rw [ht]; exact hP, hD⟩⟩, hS.F ht⟩) hS.2.2 dX10_advance_300
              · refine lv_iconst (v := 1) hx hb dX10_advance_108 (by decide) ?_
                refine lv_goto (tgt := 113) hx hb dX10_advance_109 (by decide) ?_
                refine lv_istore_n (lv' := [(3, .int 1), (2, .int 0), (1, .int x_8), (0, .ref (ad 2))]) hx hb dX10_advance_113 rfl hl (by decide) rfl (fun ls hl => ?_)
                refine lv_iload_n hx hb dX10_advance_114 rfl (lv_at hl 2 rfl) ?_
                refine lv_bipush (v := 59) hx hb dX10_advance_115 (by decide) ?_
                refine lv_icmp_ne (tgt := 138) hx hb dX10_advance_117 (by decide) (fun c_20 => ?_) (fun c_20 => ?_)
                · refine lv_iload_n hx hb dX10_advance_138 rfl (lv_at hl 1 rfl) ?_
                  refine lv_if_ne (tgt := 146) hx hb dX10_advance_139 (by decide) (fun c_21 => ?_) (fun c_21 => ?_)
                  · exact absurd (by decide) c_21
                  · refine lv_iload_n hx hb dX10_advance_142 rfl (lv_at hl 0 rfl) ?_
                    refine lv_if_eq (tgt := 295) hx hb dX10_advance_143 (by decide) (fun c_22 => ?_) (fun c_22 => ?_)
                    · exact absurd c_22 (by decide)
                    · refine lv_iload_n hx hb dX10_advance_146 rfl (lv_at hl 1 rfl) ?_
                      refine lv_if_eq (tgt := 155) hx hb dX10_advance_147 (by decide) (fun c_23 => ?_) (fun c_23 => ?_)
                      · refine lv_bipush (v := 48) hx hb dX10_advance_155 (by decide) ?_
                        refine lv_istore (lv' := [(4, .int 48), (3, .int 1), (2, .int 0), (1, .int x_8), (0, .ref (ad 2))]) hx hb dX10_advance_157 hl (by decide) rfl (fun ls hl => ?_)
                        refine lv_iload_n hx hb dX10_advance_159 rfl (lv_at hl 2 rfl) ?_
                        refine lv_if_eq (tgt := 168) hx hb dX10_advance_160 (by decide) (fun c_24 => ?_) (fun c_24 => ?_)
                        · refine lv_bipush (v := 57) hx hb dX10_advance_168 (by decide) ?_
                          refine lv_istore (lv' := [(5, .int 57), (4, .int 48), (3, .int 1), (2, .int 0), (1, .int x_8), (0, .ref (ad 2))]) hx hb dX10_advance_170 hl (by decide) rfl (fun ls hl => ?_)
                          refine (fun (h : ∀ (n : Nat)  (σ172x : gs) (d172 : Drawn) (H : Heap) (locs : List Loc) (ls : Array Slot), ((900 : Int32).toInt - ((σ172x 2).1 6).toInt).toNat < n → InvX σ172x → gFr [9] σ σ172x → s.drawn.sameBut d172 lw_cs → va_P (dC, dI) vwCl (wX ad cA σ172x) H → va_D A (wX ad cA σ172x) → va_S A s.heap H locs → lv_has ls 7 [(5, .int 57), (4, .int 48), (3, .int 1), (2, .int 0), (1, .int x_8), (0, .ref (ad 2))] → W p l e _ (s.setDrawn d172) m _ below meth c H locs _ _ _ (F0 m 172 ls [])) => h _  σ5 _ _ _ _ (Nat.lt_succ_self _)  hIσ5 frσ5 hd0 hP hD hS (lv_sub hl [0, 1, 2, 3, 4, 5] rfl)) ?_
                          intro n172
                          induction n172 with
                          | zero => intro  σ172x d172 H locs ls hm; exact absurd hm (Nat.not_lt_zero _)
                          | succ n172 ih172 =>
                            intro  σ172x d172 H locs ls hm172  hIσ172x frσ172x hd0 hP hD hS hl
                            have hts := dr_words hts0 (d172)
                            have hK := gKd hK0 (d172)
                            have hown : (s.setDrawn (d172)).vm.findClass RX10 = some m.cls := hown0
                            refine lv_aload_n hx hb dX10_advance_172 rfl (lv_at hl 5 rfl) ?_
                            have bd_25 := rd_9_6 (c := 2) hIσ172x rfl
                            refine va_get (D := (dC, dI)) (ci := 9) (v := .int ((σ172x 2).1 6)) (C := RX10) (T := TX10) (N := 7) hx hb hts hinX10 hown hK hP 2 (at_9 rfl) rfl 6 (by decide) (hts (.fieldLink RX10 29 "BondCalendars$Tape" "next" "I") (by decide +kernel)) (fun _ h9 => h9) rfl dX10_advance_173 ?_
                            refine lv_aload_n hx hb dX10_advance_176 rfl (lv_at hl 5 rfl) ?_
                            have bd_26 := rd_9_5 (c := 2) hIσ172x rfl
                            refine va_get (D := (dC, dI)) (ci := 9) (v := .int ((σ172x 2).1 5)) (C := RX10) (T := TX10) (N := 7) hx hb hts hinX10 hown hK hP 2 (at_9 rfl) rfl 5 (by decide) (hts (.fieldLink RX10 26 "BondCalendars$Tape" "limit" "I") (by decide +kernel)) (fun _ h9 => h9) rfl dX10_advance_177 ?_
                            refine lv_icmp_ge (tgt := 248) hx hb dX10_advance_180 (by decide) (fun c_27 => ?_) (fun c_27 => ?_)
                            · refine lv_iload_n hx hb dX10_advance_248 rfl (lv_at hl 3 rfl) ?_
                              refine lv_if_eq (tgt := 257) hx hb dX10_advance_249 (by decide) (fun c_28 => ?_) (fun c_28 => ?_)
                              · refine lv_bipush (v := 8) hx hb dX10_advance_257 (by decide) ?_
                                refine lv_istore (lv' := [(6, .int 8), (5, .int 57), (4, .int 48), (3, .int 1), (2, .int 0), (1, .int x_8), (0, .ref (ad 2))]) hx hb dX10_advance_259 hl (by decide) rfl (fun ls hl => ?_)
                                refine lv_aload_n hx hb dX10_advance_261 rfl (lv_at hl 6 rfl) ?_
                                refine lv_aload_n hx hb dX10_advance_262 rfl (lv_at hl 6 rfl) ?_
                                refine va_get (D := (dC, dI)) (ci := 9) (v := .int ((σ172x 2).1 6)) (C := RX10) (T := TX10) (N := 7) hx hb hts hinX10 hown hK hP 2 (at_9 rfl) rfl 6 (by decide) (hts (.fieldLink RX10 29 "BondCalendars$Tape" "next" "I") (by decide +kernel)) (fun _ h9 => h9) rfl dX10_advance_263 ?_
                                refine lv_aload_n hx hb dX10_advance_266 rfl (lv_at hl 6 rfl) ?_
                                have bd_29 := rd_9_3 (c := 2) hIσ172x rfl
                                refine va_get (D := (dC, dI)) (ci := 9) (v := .int ((σ172x 2).1 3)) (C := RX10) (T := TX10) (N := 7) hx hb hts hinX10 hown hK hP 2 (at_9 rfl) rfl 3 (by decide) (hts (.fieldLink RX10 20 "BondCalendars$Tape" "start" "I") (by decide +kernel)) (fun _ h9 => h9) rfl dX10_advance_267 ?_
                                refine lv_isub hx hb dX10_advance_270 ?_
                                refine lv_topi (fun x_30 ex_30 => ?_)
                                refine lv_iload hx hb dX10_advance_271 (lv_at hl 0 rfl) ?_
                                refine lv_icmp_le (tgt := 280) hx hb dX10_advance_273 (by decide) (fun c_31 => ?_) (fun c_31 => ?_)
                                · refine lv_iload_n hx hb dX10_advance_280 rfl (lv_at hl 4 rfl) ?_
                                  refine lv_if_eq (tgt := 288) hx hb dX10_advance_281 (by decide) (fun c_32 => ?_) (fun c_32 => ?_)
                                  · refine lv_iconst (v := 2) hx hb dX10_advance_288 (by decide) ?_
                                    refine va_put (D := (dC, dI)) (ci := 9) (v := .int 2) (C := RX10) (T := TX10) (N := 7) hx hb hts hinX10 tyX10 tyX10_ok nmX10 hown hK hP hD hS 2 (at_9 rfl) rfl 2 (by decide) (hts (.fieldLink RX10 17 "BondCalendars$Tape" "kind" "I") (by decide +kernel)) (fun _ h9 => h9) rfl (ty := .int) (by decide +kernel) rfl rfl (Nat.le_of_ble_eq_true rfl) dX10_advance_289 (fun H locs hP hD hS => ?_)
                                    obtain ⟨σ12, eσ12, hP, hD⟩ := gPut (se_9_2 rfl) hP hD
                                    have hIσ12 : InvX σ12 := by rw [eσ12]; exact inv_I hIσ172x (ok_9_2 rfl _)
                                    have frσ12 : gFr [9] σ σ12 := by rw [eσ12]; exact gFr.pI frσ172x rfl (by decide)
                                    refine lv_goto (tgt := 300) hx hb dX10_advance_292 (by decide) ?_
                                    refine W.endD hd0 ?_
                                    exact W.vret hx hb hr (fun t ht hW => ⟨⟨σ12, rfl, ⟨hIσ12, frσ12, trivial⟩, ⟨by rw [ht]; exact hP, hD⟩⟩, hS.F ht⟩) hS.2.2 dX10_advance_300
                                  · exact absurd (by decide) c_32
                                · refine lv_iconst (v := 4) hx hb dX10_advance_276 (by decide) ?_
                                  refine lv_goto (tgt := 289) hx hb dX10_advance_277 (by decide) ?_
                                  refine va_put (D := (dC, dI)) (ci := 9) (v := .int 4) (C := RX10) (T := TX10) (N := 7) hx hb hts hinX10 tyX10 tyX10_ok nmX10 hown hK hP hD hS 2 (at_9 rfl) rfl 2 (by decide) (hts (.fieldLink RX10 17 "BondCalendars$Tape" "kind" "I") (by decide +kernel)) (fun _ h9 => h9) rfl (ty := .int) (by decide +kernel) rfl rfl (Nat.le_of_ble_eq_true rfl) dX10_advance_289 (fun H locs hP hD hS => ?_)
                                  obtain ⟨σ13, eσ13, hP, hD⟩ := gPut (se_9_2 rfl) hP hD
                                  have hIσ13 : InvX σ13 := by rw [eσ13]; exact inv_I hIσ172x (ok_9_2 rfl _)
                                  have frσ13 : gFr [9] σ σ13 := by rw [eσ13]; exact gFr.pI frσ172x rfl (by decide)
                                  refine lv_goto (tgt := 300) hx hb dX10_advance_292 (by decide) ?_
                                  refine W.endD hd0 ?_
                                  exact W.vret hx hb hr (fun t ht hW => ⟨⟨σ13, rfl, ⟨hIσ13, frσ13, trivial⟩, ⟨by rw [ht]; exact hP, hD⟩⟩, hS.F ht⟩) hS.2.2 dX10_advance_300
                              · exact absurd (by decide) c_28
                            · refine lv_aload_n hx hb dX10_advance_183 rfl (lv_at hl 5 rfl) ?_
                              refine va_get (D := (dC, dI)) (ci := 9) (v := .ref (ad 3)) (C := RX10) (T := TX10) (N := 7) hx hb hts hinX10 hown hK hP 2 (at_9 rfl) rfl 0 (by decide) (hts (.fieldLink RX10 9 "BondCalendars$Tape" "bytes" "[B") (by decide +kernel)) (fun _ h9 => h9) rfl dX10_advance_184 ?_
                              refine lv_aload_n hx hb dX10_advance_187 rfl (lv_at hl 5 rfl) ?_
                              refine va_get (D := (dC, dI)) (ci := 9) (v := .int ((σ172x 2).1 6)) (C := RX10) (T := TX10) (N := 7) hx hb hts hinX10 hown hK hP 2 (at_9 rfl) rfl 6 (by decide) (hts (.fieldLink RX10 29 "BondCalendars$Tape" "next" "I") (by decide +kernel)) (fun _ h9 => h9) rfl dX10_advance_188 ?_
                              refine va_bald hx hb hK hP 3 3 (at_20 rfl) (ty_20 rfl) (gin (N := 900) (by decide) bd_25 (Int32.lt_of_lt_of_le (Int32.not_le.mp c_27) bd_26)) dX10_advance_191 ?_
                              refine lv_topi (fun x_33 _ => ?_)
                              refine lv_iload hx hb dX10_advance_192 (lv_at hl 1 rfl) ?_
                              refine lv_icmp_lt (tgt := 248) hx hb dX10_advance_194 (by decide) (fun c_34 => ?_) (fun c_34 => ?_)
                              · refine lv_iload_n hx hb dX10_advance_248 rfl (lv_at hl 3 rfl) ?_
                                refine lv_if_eq (tgt := 257) hx hb dX10_advance_249 (by decide) (fun c_35 => ?_) (fun c_35 => ?_)
                                · refine lv_bipush (v := 8) hx hb dX10_advance_257 (by decide) ?_
                                  refine lv_istore (lv' := [(6, .int 8), (5, .int 57), (4, .int 48), (3, .int 1), (2, .int 0), (1, .int x_8), (0, .ref (ad 2))]) hx hb dX10_advance_259 hl (by decide) rfl (fun ls hl => ?_)
                                  refine lv_aload_n hx hb dX10_advance_261 rfl (lv_at hl 6 rfl) ?_
                                  refine lv_aload_n hx hb dX10_advance_262 rfl (lv_at hl 6 rfl) ?_
                                  refine va_get (D := (dC, dI)) (ci := 9) (v := .int ((σ172x 2).1 6)) (C := RX10) (T := TX10) (N := 7) hx hb hts hinX10 hown hK hP 2 (at_9 rfl) rfl 6 (by decide) (hts (.fieldLink RX10 29 "BondCalendars$Tape" "next" "I") (by decide +kernel)) (fun _ h9 => h9) rfl dX10_advance_263 ?_
                                  refine lv_aload_n hx hb dX10_advance_266 rfl (lv_at hl 6 rfl) ?_
                                  have bd_36 := rd_9_3 (c := 2) hIσ172x rfl
                                  refine va_get (D := (dC, dI)) (ci := 9) (v := .int ((σ172x 2).1 3)) (C := RX10) (T := TX10) (N := 7) hx hb hts hinX10 hown hK hP 2 (at_9 rfl) rfl 3 (by decide) (hts (.fieldLink RX10 20 "BondCalendars$Tape" "start" "I") (by decide +kernel)) (fun _ h9 => h9) rfl dX10_advance_267 ?_
                                  refine lv_isub hx hb dX10_advance_270 ?_
                                  refine lv_topi (fun x_37 ex_37 => ?_)
                                  refine lv_iload hx hb dX10_advance_271 (lv_at hl 0 rfl) ?_
                                  refine lv_icmp_le (tgt := 280) hx hb dX10_advance_273 (by decide) (fun c_38 => ?_) (fun c_38 => ?_)
                                  · refine lv_iload_n hx hb dX10_advance_280 rfl (lv_at hl 4 rfl) ?_
                                    refine lv_if_eq (tgt := 288) hx hb dX10_advance_281 (by decide) (fun c_39 => ?_) (fun c_39 => ?_)
                                    · refine lv_iconst (v := 2) hx hb dX10_advance_288 (by decide) ?_
                                      refine va_put (D := (dC, dI)) (ci := 9) (v := .int 2) (C := RX10) (T := TX10) (N := 7) hx hb hts hinX10 tyX10 tyX10_ok nmX10 hown hK hP hD hS 2 (at_9 rfl) rfl 2 (by decide) (hts (.fieldLink RX10 17 "BondCalendars$Tape" "kind" "I") (by decide +kernel)) (fun _ h9 => h9) rfl (ty := .int) (by decide +kernel) rfl rfl (Nat.le_of_ble_eq_true rfl) dX10_advance_289 (fun H locs hP hD hS => ?_)
                                      obtain ⟨σ14, eσ14, hP, hD⟩ := gPut (se_9_2 rfl) hP hD
                                      have hIσ14 : InvX σ14 := by rw [eσ14]; exact inv_I hIσ172x (ok_9_2 rfl _)
                                      have frσ14 : gFr [9] σ σ14 := by rw [eσ14]; exact gFr.pI frσ172x rfl (by decide)
                                      refine lv_goto (tgt := 300) hx hb dX10_advance_292 (by decide) ?_
                                      refine W.endD hd0 ?_
                                      exact W.vret hx hb hr (fun t ht hW => ⟨⟨σ14, rfl, ⟨hIσ14, frσ14, trivial⟩, ⟨by rw [ht]; exact hP, hD⟩⟩, hS.F ht⟩) hS.2.2 dX10_advance_300
                                    · exact absurd (by decide) c_39
                                  · refine lv_iconst (v := 4) hx hb dX10_advance_276 (by decide) ?_
                                    refine lv_goto (tgt := 289) hx hb dX10_advance_277 (by decide) ?_
                                    refine va_put (D := (dC, dI)) (ci := 9) (v := .int 4) (C := RX10) (T := TX10) (N := 7) hx hb hts hinX10 tyX10 tyX10_ok nmX10 hown hK hP hD hS 2 (at_9 rfl) rfl 2 (by decide) (hts (.fieldLink RX10 17 "BondCalendars$Tape" "kind" "I") (by decide +kernel)) (fun _ h9 => h9) rfl (ty := .int) (by decide +kernel) rfl rfl (Nat.le_of_ble_eq_true rfl) dX10_advance_289 (fun H locs hP hD hS => ?_)
                                    obtain ⟨σ15, eσ15, hP, hD⟩ := gPut (se_9_2 rfl) hP hD
                                    have hIσ15 : InvX σ15 := by rw [eσ15]; exact inv_I hIσ172x (ok_9_2 rfl _)
                                    have frσ15 : gFr [9] σ σ15 := by rw [eσ15]; exact gFr.pI frσ172x rfl (by decide)
                                    refine lv_goto (tgt := 300) hx hb dX10_advance_292 (by decide) ?_
                                    refine W.endD hd0 ?_
                                    exact W.vret hx hb hr (fun t ht hW => ⟨⟨σ15, rfl, ⟨hIσ15, frσ15, trivial⟩, ⟨by rw [ht]; exact hP, hD⟩⟩, hS.F ht⟩) hS.2.2 dX10_advance_300
                                · exact absurd (by decide) c_35
                              · refine lv_aload_n hx hb dX10_advance_197 rfl (lv_at hl 5 rfl) ?_
                                refine va_get (D := (dC, dI)) (ci := 9) (v := .ref (ad 3)) (C := RX10) (T := TX10) (N := 7) hx hb hts hinX10 hown hK hP 2 (at_9 rfl) rfl 0 (by decide) (hts (.fieldLink RX10 9 "BondCalendars$Tape" "bytes" "[B") (by decide +kernel)) (fun _ h9 => h9) rfl dX10_advance_198 ?_
                                refine lv_aload_n hx hb dX10_advance_201 rfl (lv_at hl 5 rfl) ?_
                                refine va_get (D := (dC, dI)) (ci := 9) (v := .int ((σ172x 2).1 6)) (C := RX10) (T := TX10) (N := 7) hx hb hts hinX10 hown hK hP 2 (at_9 rfl) rfl 6 (by decide) (hts (.fieldLink RX10 29 "BondCalendars$Tape" "next" "I") (by decide +kernel)) (fun _ h9 => h9) rfl dX10_advance_202 ?_
                                refine va_bald hx hb hK hP 3 3 (at_20 rfl) (ty_20 rfl) (gin (N := 900) (by decide) bd_25 (Int32.lt_of_lt_of_le (Int32.not_le.mp c_27) bd_26)) dX10_advance_205 ?_
                                refine lv_topi (fun x_40 _ => ?_)
                                refine lv_iload hx hb dX10_advance_206 (lv_at hl 0 rfl) ?_
                                refine lv_icmp_gt (tgt := 248) hx hb dX10_advance_208 (by decide) (fun c_41 => ?_) (fun c_41 => ?_)
                                · refine lv_iload_n hx hb dX10_advance_248 rfl (lv_at hl 3 rfl) ?_
                                  refine lv_if_eq (tgt := 257) hx hb dX10_advance_249 (by decide) (fun c_42 => ?_) (fun c_42 => ?_)
                                  · refine lv_bipush (v := 8) hx hb dX10_advance_257 (by decide) ?_
                                    refine lv_istore (lv' := [(6, .int 8), (5, .int 57), (4, .int 48), (3, .int 1), (2, .int 0), (1, .int x_8), (0, .ref (ad 2))]) hx hb dX10_advance_259 hl (by decide) rfl (fun ls hl => ?_)
                                    refine lv_aload_n hx hb dX10_advance_261 rfl (lv_at hl 6 rfl) ?_
                                    refine lv_aload_n hx hb dX10_advance_262 rfl (lv_at hl 6 rfl) ?_
                                    refine va_get (D := (dC, dI)) (ci := 9) (v := .int ((σ172x 2).1 6)) (C := RX10) (T := TX10) (N := 7) hx hb hts hinX10 hown hK hP 2 (at_9 rfl) rfl 6 (by decide) (hts (.fieldLink RX10 29 "BondCalendars$Tape" "next" "I") (by decide +kernel)) (fun _ h9 => h9) rfl dX10_advance_263 ?_
                                    refine lv_aload_n hx hb dX10_advance_266 rfl (lv_at hl 6 rfl) ?_
                                    have bd_43 := rd_9_3 (c := 2) hIσ172x rfl
                                    refine va_get (D := (dC, dI)) (ci := 9) (v := .int ((σ172x 2).1 3)) (C := RX10) (T := TX10) (N := 7) hx hb hts hinX10 hown hK hP 2 (at_9 rfl) rfl 3 (by decide) (hts (.fieldLink RX10 20 "BondCalendars$Tape" "start" "I") (by decide +kernel)) (fun _ h9 => h9) rfl dX10_advance_267 ?_
                                    refine lv_isub hx hb dX10_advance_270 ?_
                                    refine lv_topi (fun x_44 ex_44 => ?_)
                                    refine lv_iload hx hb dX10_advance_271 (lv_at hl 0 rfl) ?_
                                    refine lv_icmp_le (tgt := 280) hx hb dX10_advance_273 (by decide) (fun c_45 => ?_) (fun c_45 => ?_)
                                    · refine lv_iload_n hx hb dX10_advance_280 rfl (lv_at hl 4 rfl) ?_
                                      refine lv_if_eq (tgt := 288) hx hb dX10_advance_281 (by decide) (fun c_46 => ?_) (fun c_46 => ?_)
                                      · refine lv_iconst (v := 2) hx hb dX10_advance_288 (by decide) ?_
                                        refine va_put (D := (dC, dI)) (ci := 9) (v := .int 2) (C := RX10) (T := TX10) (N := 7) hx hb hts hinX10 tyX10 tyX10_ok nmX10 hown hK hP hD hS 2 (at_9 rfl) rfl 2 (by decide) (hts (.fieldLink RX10 17 "BondCalendars$Tape" "kind" "I") (by decide +kernel)) (fun _ h9 => h9) rfl (ty := .int) (by decide +kernel) rfl rfl (Nat.le_of_ble_eq_true rfl) dX10_advance_289 (fun H locs hP hD hS => ?_)
                                        obtain ⟨σ16, eσ16, hP, hD⟩ := gPut (se_9_2 rfl) hP hD
                                        have hIσ16 : InvX σ16 := by rw [eσ16]; exact inv_I hIσ172x (ok_9_2 rfl _)
                                        have frσ16 : gFr [9] σ σ16 := by rw [eσ16]; exact gFr.pI frσ172x rfl (by decide)
                                        refine lv_goto (tgt := 300) hx hb dX10_advance_292 (by decide) ?_
                                        refine W.endD hd0 ?_
                                        exact W.vret hx hb hr (fun t ht hW => ⟨⟨σ16, rfl, ⟨hIσ16, frσ16, trivial⟩, ⟨by rw [ht]; exact hP, hD⟩⟩, hS.F ht⟩) hS.2.2 dX10_advance_300
                                      · exact absurd (by decide) c_46
                                    · refine lv_iconst (v := 4) hx hb dX10_advance_276 (by decide) ?_
                                      refine lv_goto (tgt := 289) hx hb dX10_advance_277 (by decide) ?_
                                      refine va_put (D := (dC, dI)) (ci := 9) (v := .int 4) (C := RX10) (T := TX10) (N := 7) hx hb hts hinX10 tyX10 tyX10_ok nmX10 hown hK hP hD hS 2 (at_9 rfl) rfl 2 (by decide) (hts (.fieldLink RX10 17 "BondCalendars$Tape" "kind" "I") (by decide +kernel)) (fun _ h9 => h9) rfl (ty := .int) (by decide +kernel) rfl rfl (Nat.le_of_ble_eq_true rfl) dX10_advance_289 (fun H locs hP hD hS => ?_)
                                      obtain ⟨σ17, eσ17, hP, hD⟩ := gPut (se_9_2 rfl) hP hD
                                      have hIσ17 : InvX σ17 := by rw [eσ17]; exact inv_I hIσ172x (ok_9_2 rfl _)
                                      have frσ17 : gFr [9] σ σ17 := by rw [eσ17]; exact gFr.pI frσ172x rfl (by decide)
                                      refine lv_goto (tgt := 300) hx hb dX10_advance_292 (by decide) ?_
                                      refine W.endD hd0 ?_
                                      exact W.vret hx hb hr (fun t ht hW => ⟨⟨σ17, rfl, ⟨hIσ17, frσ17, trivial⟩, ⟨by rw [ht]; exact hP, hD⟩⟩, hS.F ht⟩) hS.2.2 dX10_advance_300
                                  · exact absurd (by decide) c_42
                                · refine lv_aload_n hx hb dX10_advance_211 rfl (lv_at hl 5 rfl) ?_
                                  refine lv_aload_n hx hb dX10_advance_212 rfl (lv_at hl 5 rfl) ?_
                                  refine va_get (D := (dC, dI)) (ci := 9) (v := .int ((σ172x 2).1 4)) (C := RX10) (T := TX10) (N := 7) hx hb hts hinX10 hown hK hP 2 (at_9 rfl) rfl 4 (by decide) (hts (.fieldLink RX10 23 "BondCalendars$Tape" "value" "I") (by decide +kernel)) (fun _ h9 => h9) rfl dX10_advance_213 ?_
                                  refine lv_bipush (v := 10) hx hb dX10_advance_216 (by decide) ?_
                                  refine lv_imul hx hb dX10_advance_218 ?_
                                  refine lv_topi (fun x_47 ex_47 => ?_)
                                  refine lv_aload_n hx hb dX10_advance_219 rfl (lv_at hl 5 rfl) ?_
                                  refine va_get (D := (dC, dI)) (ci := 9) (v := .ref (ad 3)) (C := RX10) (T := TX10) (N := 7) hx hb hts hinX10 hown hK hP 2 (at_9 rfl) rfl 0 (by decide) (hts (.fieldLink RX10 9 "BondCalendars$Tape" "bytes" "[B") (by decide +kernel)) (fun _ h9 => h9) rfl dX10_advance_220 ?_
                                  refine lv_aload_n hx hb dX10_advance_223 rfl (lv_at hl 5 rfl) ?_
                                  refine va_get (D := (dC, dI)) (ci := 9) (v := .int ((σ172x 2).1 6)) (C := RX10) (T := TX10) (N := 7) hx hb hts hinX10 hown hK hP 2 (at_9 rfl) rfl 6 (by decide) (hts (.fieldLink RX10 29 "BondCalendars$Tape" "next" "I") (by decide +kernel)) (fun _ h9 => h9) rfl dX10_advance_224 ?_
                                  refine va_bald hx hb hK hP 3 3 (at_20 rfl) (ty_20 rfl) (gin (N := 900) (by decide) bd_25 (Int32.lt_of_lt_of_le (Int32.not_le.mp c_27) bd_26)) dX10_advance_227 ?_
                                  refine lv_topi (fun x_48 _ => ?_)
                                  refine lv_iadd hx hb dX10_advance_228 ?_
                                  refine lv_topi (fun x_49 ex_49 => ?_)
                                  refine lv_bipush (v := 48) hx hb dX10_advance_229 (by decide) ?_
                                  refine lv_isub hx hb dX10_advance_231 ?_
                                  refine lv_topi (fun x_50 ex_50 => ?_)
                                  refine va_put (D := (dC, dI)) (ci := 9) (v := .int x_50) (C := RX10) (T := TX10) (N := 7) hx hb hts hinX10 tyX10 tyX10_ok nmX10 hown hK hP hD hS 2 (at_9 rfl) rfl 4 (by decide) (hts (.fieldLink RX10 23 "BondCalendars$Tape" "value" "I") (by decide +kernel)) (fun _ h9 => h9) rfl (ty := .int) (by decide +kernel) rfl rfl (Nat.le_of_ble_eq_true rfl) dX10_advance_232 (fun H locs hP hD hS => ?_)
                                  obtain ⟨σ18, eσ18, hP, hD⟩ := gPut (se_9_4 rfl) hP hD
                                  have hIσ18 : InvX σ18 := by rw [eσ18]; exact inv_I hIσ172x (ok_9_4 rfl _)
                                  have frσ18 : gFr [9] σ σ18 := by rw [eσ18]; exact gFr.pI frσ172x rfl (by decide)
                                  refine lv_aload_n hx hb dX10_advance_235 rfl (lv_at hl 5 rfl) ?_
                                  refine lv_dup hx hb dX10_advance_236 rfl ?_
                                  refine va_get (D := (dC, dI)) (ci := 9) (v := .int ((σ172x 2).1 6)) (C := RX10) (T := TX10) (N := 7) hx hb hts hinX10 hown hK hP 2 (at_9 rfl) rfl 6 (by decide) (hts (.fieldLink RX10 29 "BondCalendars$Tape" "next" "I") (by decide +kernel)) (fun _ h9 => h9) (congrArg (fun z => some (Value.int z)) (show (σ18 2).1 6 = ((σ172x 2).1 6) from by rw [eσ18, gI_oth _ _ _ (by decide)])) dX10_advance_237 ?_
                                  refine lv_iconst (v := 1) hx hb dX10_advance_240 (by decide) ?_
                                  refine lv_iadd hx hb dX10_advance_241 ?_
                                  refine lv_topi (fun x_51 ex_51 => ?_)
                                  refine va_put (D := (dC, dI)) (ci := 9) (v := .int x_51) (C := RX10) (T := TX10) (N := 7) hx hb hts hinX10 tyX10 tyX10_ok nmX10 hown hK hP hD hS 2 (at_9 rfl) rfl 6 (by decide) (hts (.fieldLink RX10 29 "BondCalendars$Tape" "next" "I") (by decide +kernel)) (fun _ h9 => h9) rfl (ty := .int) (by decide +kernel) rfl rfl (Nat.le_of_ble_eq_true rfl) dX10_advance_242 (fun H locs hP hD hS => ?_)
                                  obtain ⟨σ19, eσ19, hP, hD⟩ := gPut (se_9_6 rfl) hP hD
                                  have hIσ19 : InvX σ19 := by rw [eσ19]; exact inv_I hIσ18 (ok_9_6 rfl _ (cnt_0 bd_25 (Int32.lt_of_lt_of_le (Int32.not_le.mp c_27) bd_26) ex_51))
                                  have frσ19 : gFr [9] σ σ19 := by rw [eσ19]; exact gFr.pI frσ18 rfl (by decide)
                                  refine lv_goto (tgt := 172) hx hb dX10_advance_245 (by decide) ?_
                                  have nx_52 : (σ19 2).1 6 = x_51 := by rw [eσ19, gI_self]
                                  exact ih172  σ19 _ _ _ _ (by rw [nx_52]; exact cnt_m bd_25 (Int32.lt_of_lt_of_le (Int32.not_le.mp c_27) bd_26) hm172 ex_51)  hIσ19 frσ19 hd0 hP hD hS (lv_sub hl [0, 1, 2, 3, 4, 5] rfl)
                        · exact absurd (by decide) c_24
                      · exact absurd (by decide) c_23
                · refine lv_aload_n hx hb dX10_advance_120 rfl (lv_at hl 3 rfl) ?_
                  refine lv_iconst (v := 3) hx hb dX10_advance_121 (by decide) ?_
                  refine va_put (D := (dC, dI)) (ci := 9) (v := .int 3) (C := RX10) (T := TX10) (N := 7) hx hb hts hinX10 tyX10 tyX10_ok nmX10 hown hK hP hD hS 2 (at_9 rfl) rfl 2 (by decide) (hts (.fieldLink RX10 17 "BondCalendars$Tape" "kind" "I") (by decide +kernel)) (fun _ h9 => h9) rfl (ty := .int) (by decide +kernel) rfl rfl (Nat.le_of_ble_eq_true rfl) dX10_advance_122 (fun H locs hP hD hS => ?_)
                  obtain ⟨σ20, eσ20, hP, hD⟩ := gPut (se_9_2 rfl) hP hD
                  have hIσ20 : InvX σ20 := by rw [eσ20]; exact inv_I hIσ5 (ok_9_2 rfl _)
                  have frσ20 : gFr [9] σ σ20 := by rw [eσ20]; exact gFr.pI frσ5 rfl (by decide)
                  refine lv_aload_n hx hb dX10_advance_125 rfl (lv_at hl 3 rfl) ?_
                  refine lv_dup hx hb dX10_advance_126 rfl ?_
                  refine va_get (D := (dC, dI)) (ci := 9) (v := .int ((σ0x 2).1 6)) (C := RX10) (T := TX10) (N := 7) hx hb hts hinX10 hown hK hP 2 (at_9 rfl) rfl 6 (by decide) (hts (.fieldLink RX10 29 "BondCalendars$Tape" "next" "I") (by decide +kernel)) (fun _ h9 => h9) (congrArg (fun z => some (Value.int z)) (show (σ20 2).1 6 = ((σ0x 2).1 6) from by rw [eσ20, gI_oth _ _ _ (by decide), eσ5, gI_oth _ _ _ (by decide), eσ4, gI_oth _ _ _ (by decide)])) dX10_advance_127 ?_
                  refine lv_iconst (v := 1) hx hb dX10_advance_130 (by decide) ?_
                  refine lv_iadd hx hb dX10_advance_131 ?_
                  refine lv_topi (fun x_53 ex_53 => ?_)
                  refine va_put (D := (dC, dI)) (ci := 9) (v := .int x_53) (C := RX10) (T := TX10) (N := 7) hx hb hts hinX10 tyX10 tyX10_ok nmX10 hown hK hP hD hS 2 (at_9 rfl) rfl 6 (by decide) (hts (.fieldLink RX10 29 "BondCalendars$Tape" "next" "I") (by decide +kernel)) (fun _ h9 => h9) rfl (ty := .int) (by decide +kernel) rfl rfl (Nat.le_of_ble_eq_true rfl) dX10_advance_132 (fun H locs hP hD hS => ?_)
                  obtain ⟨σ21, eσ21, hP, hD⟩ := gPut (se_9_6 rfl) hP hD
                  have hIσ21 : InvX σ21 := by rw [eσ21]; exact inv_I hIσ20 (ok_9_6 rfl _ (cnt_0 bd_1 (Int32.lt_of_lt_of_le (Int32.not_le.mp c_3) bd_2) ex_53))
                  have frσ21 : gFr [9] σ σ21 := by rw [eσ21]; exact gFr.pI frσ20 rfl (by decide)
                  refine lv_goto (tgt := 300) hx hb dX10_advance_135 (by decide) ?_
                  refine W.endD hd0 ?_
                  exact W.vret hx hb hr (fun t ht hW => ⟨⟨σ21, rfl, ⟨hIσ21, frσ21, trivial⟩, ⟨by rw [ht]; exact hP, hD⟩⟩, hS.F ht⟩) hS.2.2 dX10_advance_300
          · refine lv_iload_n hx hb dX10_advance_84 rfl (lv_at hl 0 rfl) ?_
            refine lv_bipush (v := 122) hx hb dX10_advance_85 (by decide) ?_
            refine lv_icmp_gt (tgt := 94) hx hb dX10_advance_87 (by decide) (fun c_54 => ?_) (fun c_54 => ?_)
            · refine lv_iconst (v := 0) hx hb dX10_advance_94 (by decide) ?_
              refine lv_istore_n (lv' := [(2, .int 0), (1, .int x_8), (0, .ref (ad 2))]) hx hb dX10_advance_95 rfl hl (by decide) rfl (fun ls hl => ?_)
              refine lv_iload_n hx hb dX10_advance_96 rfl (lv_at hl 1 rfl) ?_
              refine lv_bipush (v := 48) hx hb dX10_advance_97 (by decide) ?_
              refine lv_icmp_lt (tgt := 112) hx hb dX10_advance_99 (by decide) (fun c_55 => ?_) (fun c_55 => ?_)
              · exact absurd c_55 (Int32.not_lt.mpr (Int32.le_of_lt (Int32.lt_trans (show (48 : Int32) < 122 by decide) c_54)))
              · refine lv_iload_n hx hb dX10_advance_102 rfl (lv_at hl 1 rfl) ?_
                refine lv_bipush (v := 57) hx hb dX10_advance_103 (by decide) ?_
                refine lv_icmp_gt (tgt := 112) hx hb dX10_advance_105 (by decide) (fun c_56 => ?_) (fun c_56 => ?_)
                · refine lv_iconst (v := 0) hx hb dX10_advance_112 (by decide) ?_
                  refine lv_istore_n (lv' := [(3, .int 0), (2, .int 0), (1, .int x_8), (0, .ref (ad 2))]) hx hb dX10_advance_113 rfl hl (by decide) rfl (fun ls hl => ?_)
                  refine lv_iload_n hx hb dX10_advance_114 rfl (lv_at hl 2 rfl) ?_
                  refine lv_bipush (v := 59) hx hb dX10_advance_115 (by decide) ?_
                  refine lv_icmp_ne (tgt := 138) hx hb dX10_advance_117 (by decide) (fun c_57 => ?_) (fun c_57 => ?_)
                  · refine lv_iload_n hx hb dX10_advance_138 rfl (lv_at hl 1 rfl) ?_
                    refine lv_if_ne (tgt := 146) hx hb dX10_advance_139 (by decide) (fun c_58 => ?_) (fun c_58 => ?_)
                    · exact absurd (by decide) c_58
                    · refine lv_iload_n hx hb dX10_advance_142 rfl (lv_at hl 0 rfl) ?_
                      refine lv_if_eq (tgt := 295) hx hb dX10_advance_143 (by decide) (fun c_59 => ?_) (fun c_59 => ?_)
                      · refine lv_aload_n hx hb dX10_advance_295 rfl (lv_at hl 3 rfl) ?_
                        refine lv_iconst (v := 4) hx hb dX10_advance_296 (by decide) ?_
                        refine va_put (D := (dC, dI)) (ci := 9) (v := .int 4) (C := RX10) (T := TX10) (N := 7) hx hb hts hinX10 tyX10 tyX10_ok nmX10 hown hK hP hD hS 2 (at_9 rfl) rfl 2 (by decide) (hts (.fieldLink RX10 17 "BondCalendars$Tape" "kind" "I") (by decide +kernel)) (fun _ h9 => h9) rfl (ty := .int) (by decide +kernel) rfl rfl (Nat.le_of_ble_eq_true rfl) dX10_advance_297 (fun H locs hP hD hS => ?_)
                        obtain ⟨σ22, eσ22, hP, hD⟩ := gPut (se_9_2 rfl) hP hD
                        have hIσ22 : InvX σ22 := by rw [eσ22]; exact inv_I hIσ5 (ok_9_2 rfl _)
                        have frσ22 : gFr [9] σ σ22 := by rw [eσ22]; exact gFr.pI frσ5 rfl (by decide)
                        refine W.endD hd0 ?_
                        exact W.vret hx hb hr (fun t ht hW => ⟨⟨σ22, rfl, ⟨hIσ22, frσ22, trivial⟩, ⟨by rw [ht]; exact hP, hD⟩⟩, hS.F ht⟩) hS.2.2 dX10_advance_300
                      · exact absurd (by decide) c_59
                  · refine lv_aload_n hx hb dX10_advance_120 rfl (lv_at hl 3 rfl) ?_
                    refine lv_iconst (v := 3) hx hb dX10_advance_121 (by decide) ?_
                    refine va_put (D := (dC, dI)) (ci := 9) (v := .int 3) (C := RX10) (T := TX10) (N := 7) hx hb hts hinX10 tyX10 tyX10_ok nmX10 hown hK hP hD hS 2 (at_9 rfl) rfl 2 (by decide) (hts (.fieldLink RX10 17 "BondCalendars$Tape" "kind" "I") (by decide +kernel)) (fun _ h9 => h9) rfl (ty := .int) (by decide +kernel) rfl rfl (Nat.le_of_ble_eq_true rfl) dX10_advance_122 (fun H locs hP hD hS => ?_)
                    obtain ⟨σ23, eσ23, hP, hD⟩ := gPut (se_9_2 rfl) hP hD
                    have hIσ23 : InvX σ23 := by rw [eσ23]; exact inv_I hIσ5 (ok_9_2 rfl _)
                    have frσ23 : gFr [9] σ σ23 := by rw [eσ23]; exact gFr.pI frσ5 rfl (by decide)
                    refine lv_aload_n hx hb dX10_advance_125 rfl (lv_at hl 3 rfl) ?_
                    refine lv_dup hx hb dX10_advance_126 rfl ?_
                    refine va_get (D := (dC, dI)) (ci := 9) (v := .int ((σ0x 2).1 6)) (C := RX10) (T := TX10) (N := 7) hx hb hts hinX10 hown hK hP 2 (at_9 rfl) rfl 6 (by decide) (hts (.fieldLink RX10 29 "BondCalendars$Tape" "next" "I") (by decide +kernel)) (fun _ h9 => h9) (congrArg (fun z => some (Value.int z)) (show (σ23 2).1 6 = ((σ0x 2).1 6) from by rw [eσ23, gI_oth _ _ _ (by decide), eσ5, gI_oth _ _ _ (by decide), eσ4, gI_oth _ _ _ (by decide)])) dX10_advance_127 ?_
                    refine lv_iconst (v := 1) hx hb dX10_advance_130 (by decide) ?_
                    refine lv_iadd hx hb dX10_advance_131 ?_
                    refine lv_topi (fun x_60 ex_60 => ?_)
                    refine va_put (D := (dC, dI)) (ci := 9) (v := .int x_60) (C := RX10) (T := TX10) (N := 7) hx hb hts hinX10 tyX10 tyX10_ok nmX10 hown hK hP hD hS 2 (at_9 rfl) rfl 6 (by decide) (hts (.fieldLink RX10 29 "BondCalendars$Tape" "next" "I") (by decide +kernel)) (fun _ h9 => h9) rfl (ty := .int) (by decide +kernel) rfl rfl (Nat.le_of_ble_eq_true rfl) dX10_advance_132 (fun H locs hP hD hS => ?_)
                    obtain ⟨σ24, eσ24, hP, hD⟩ := gPut (se_9_6 rfl) hP hD
                    have hIσ24 : InvX σ24 := by rw [eσ24]; exact inv_I hIσ23 (ok_9_6 rfl _ (cnt_0 bd_1 (Int32.lt_of_lt_of_le (Int32.not_le.mp c_3) bd_2) ex_60))
                    have frσ24 : gFr [9] σ σ24 := by rw [eσ24]; exact gFr.pI frσ23 rfl (by decide)
                    refine lv_goto (tgt := 300) hx hb dX10_advance_135 (by decide) ?_
                    refine W.endD hd0 ?_
                    exact W.vret hx hb hr (fun t ht hW => ⟨⟨σ24, rfl, ⟨hIσ24, frσ24, trivial⟩, ⟨by rw [ht]; exact hP, hD⟩⟩, hS.F ht⟩) hS.2.2 dX10_advance_300
                · exact absurd (Int32.lt_trans (show (57 : Int32) < 122 by decide) c_54) c_56
            · refine lv_iconst (v := 1) hx hb dX10_advance_90 (by decide) ?_
              refine lv_goto (tgt := 95) hx hb dX10_advance_91 (by decide) ?_
              refine lv_istore_n (lv' := [(2, .int 1), (1, .int x_8), (0, .ref (ad 2))]) hx hb dX10_advance_95 rfl hl (by decide) rfl (fun ls hl => ?_)
              refine lv_iload_n hx hb dX10_advance_96 rfl (lv_at hl 1 rfl) ?_
              refine lv_bipush (v := 48) hx hb dX10_advance_97 (by decide) ?_
              refine lv_icmp_lt (tgt := 112) hx hb dX10_advance_99 (by decide) (fun c_61 => ?_) (fun c_61 => ?_)
              · exact absurd c_61 (Int32.not_lt.mpr (Int32.le_of_lt (Int32.lt_of_lt_of_le (show (48 : Int32) < 97 by decide) (Int32.not_lt.mp c_9))))
              · refine lv_iload_n hx hb dX10_advance_102 rfl (lv_at hl 1 rfl) ?_
                refine lv_bipush (v := 57) hx hb dX10_advance_103 (by decide) ?_
                refine lv_icmp_gt (tgt := 112) hx hb dX10_advance_105 (by decide) (fun c_62 => ?_) (fun c_62 => ?_)
                · refine lv_iconst (v := 0) hx hb dX10_advance_112 (by decide) ?_
                  refine lv_istore_n (lv' := [(3, .int 0), (2, .int 1), (1, .int x_8), (0, .ref (ad 2))]) hx hb dX10_advance_113 rfl hl (by decide) rfl (fun ls hl => ?_)
                  refine lv_iload_n hx hb dX10_advance_114 rfl (lv_at hl 2 rfl) ?_
                  refine lv_bipush (v := 59) hx hb dX10_advance_115 (by decide) ?_
                  refine lv_icmp_ne (tgt := 138) hx hb dX10_advance_117 (by decide) (fun c_63 => ?_) (fun c_63 => ?_)
                  · refine lv_iload_n hx hb dX10_advance_138 rfl (lv_at hl 1 rfl) ?_
                    refine lv_if_ne (tgt := 146) hx hb dX10_advance_139 (by decide) (fun c_64 => ?_) (fun c_64 => ?_)
                    · refine lv_iload_n hx hb dX10_advance_146 rfl (lv_at hl 1 rfl) ?_
                      refine lv_if_eq (tgt := 155) hx hb dX10_advance_147 (by decide) (fun c_65 => ?_) (fun c_65 => ?_)
                      · exact absurd c_65 (by decide)
                      · refine lv_bipush (v := 97) hx hb dX10_advance_150 (by decide) ?_
                        refine lv_goto (tgt := 157) hx hb dX10_advance_152 (by decide) ?_
                        refine lv_istore (lv' := [(4, .int 97), (3, .int 0), (2, .int 1), (1, .int x_8), (0, .ref (ad 2))]) hx hb dX10_advance_157 hl (by decide) rfl (fun ls hl => ?_)
                        refine lv_iload_n hx hb dX10_advance_159 rfl (lv_at hl 2 rfl) ?_
                        refine lv_if_eq (tgt := 168) hx hb dX10_advance_160 (by decide) (fun c_66 => ?_) (fun c_66 => ?_)
                        · exact absurd c_66 (by decide)
                        · refine lv_bipush (v := 122) hx hb dX10_advance_163 (by decide) ?_
                          refine lv_goto (tgt := 170) hx hb dX10_advance_165 (by decide) ?_
                          refine lv_istore (lv' := [(5, .int 122), (4, .int 97), (3, .int 0), (2, .int 1), (1, .int x_8), (0, .ref (ad 2))]) hx hb dX10_advance_170 hl (by decide) rfl (fun ls hl => ?_)
                          refine (fun (h : ∀ (n : Nat)  (σ172x : gs) (d172 : Drawn) (H : Heap) (locs : List Loc) (ls : Array Slot), ((900 : Int32).toInt - ((σ172x 2).1 6).toInt).toNat < n → InvX σ172x → gFr [9] σ σ172x → s.drawn.sameBut d172 lw_cs → va_P (dC, dI) vwCl (wX ad cA σ172x) H → va_D A (wX ad cA σ172x) → va_S A s.heap H locs → lv_has ls 7 [(5, .int 122), (4, .int 97), (3, .int 0), (2, .int 1), (1, .int x_8), (0, .ref (ad 2))] → W p l e _ (s.setDrawn d172) m _ below meth c H locs _ _ _ (F0 m 172 ls [])) => h _  σ5 _ _ _ _ (Nat.lt_succ_self _)  hIσ5 frσ5 hd0 hP hD hS (lv_sub hl [0, 1, 2, 3, 4, 5] rfl)) ?_
                          intro n172
                          induction n172 with
                          | zero => intro  σ172x d172 H locs ls hm; exact absurd hm (Nat.not_lt_zero _)
                          | succ n172 ih172 =>
                            intro  σ172x d172 H locs ls hm172  hIσ172x frσ172x hd0 hP hD hS hl
                            have hts := dr_words hts0 (d172)
                            have hK := gKd hK0 (d172)
                            have hown : (s.setDrawn (d172)).vm.findClass RX10 = some m.cls := hown0
                            refine lv_aload_n hx hb dX10_advance_172 rfl (lv_at hl 5 rfl) ?_
                            have bd_67 := rd_9_6 (c := 2) hIσ172x rfl
                            refine va_get (D := (dC, dI)) (ci := 9) (v := .int ((σ172x 2).1 6)) (C := RX10) (T := TX10) (N := 7) hx hb hts hinX10 hown hK hP 2 (at_9 rfl) rfl 6 (by decide) (hts (.fieldLink RX10 29 "BondCalendars$Tape" "next" "I") (by decide +kernel)) (fun _ h9 => h9) rfl dX10_advance_173 ?_
                            refine lv_aload_n hx hb dX10_advance_176 rfl (lv_at hl 5 rfl) ?_
                            have bd_68 := rd_9_5 (c := 2) hIσ172x rfl
                            refine va_get (D := (dC, dI)) (ci := 9) (v := .int ((σ172x 2).1 5)) (C := RX10) (T := TX10) (N := 7) hx hb hts hinX10 hown hK hP 2 (at_9 rfl) rfl 5 (by decide) (hts (.fieldLink RX10 26 "BondCalendars$Tape" "limit" "I") (by decide +kernel)) (fun _ h9 => h9) rfl dX10_advance_177 ?_
                            refine lv_icmp_ge (tgt := 248) hx hb dX10_advance_180 (by decide) (fun c_69 => ?_) (fun c_69 => ?_)
                            · refine lv_iload_n hx hb dX10_advance_248 rfl (lv_at hl 3 rfl) ?_
                              refine lv_if_eq (tgt := 257) hx hb dX10_advance_249 (by decide) (fun c_70 => ?_) (fun c_70 => ?_)
                              · exact absurd c_70 (by decide)
                              · refine lv_bipush (v := 7) hx hb dX10_advance_252 (by decide) ?_
                                refine lv_goto (tgt := 259) hx hb dX10_advance_254 (by decide) ?_
                                refine lv_istore (lv' := [(6, .int 7), (5, .int 122), (4, .int 97), (3, .int 0), (2, .int 1), (1, .int x_8), (0, .ref (ad 2))]) hx hb dX10_advance_259 hl (by decide) rfl (fun ls hl => ?_)
                                refine lv_aload_n hx hb dX10_advance_261 rfl (lv_at hl 6 rfl) ?_
                                refine lv_aload_n hx hb dX10_advance_262 rfl (lv_at hl 6 rfl) ?_
                                refine va_get (D := (dC, dI)) (ci := 9) (v := .int ((σ172x 2).1 6)) (C := RX10) (T := TX10) (N := 7) hx hb hts hinX10 hown hK hP 2 (at_9 rfl) rfl 6 (by decide) (hts (.fieldLink RX10 29 "BondCalendars$Tape" "next" "I") (by decide +kernel)) (fun _ h9 => h9) rfl dX10_advance_263 ?_
                                refine lv_aload_n hx hb dX10_advance_266 rfl (lv_at hl 6 rfl) ?_
                                have bd_71 := rd_9_3 (c := 2) hIσ172x rfl
                                refine va_get (D := (dC, dI)) (ci := 9) (v := .int ((σ172x 2).1 3)) (C := RX10) (T := TX10) (N := 7) hx hb hts hinX10 hown hK hP 2 (at_9 rfl) rfl 3 (by decide) (hts (.fieldLink RX10 20 "BondCalendars$Tape" "start" "I") (by decide +kernel)) (fun _ h9 => h9) rfl dX10_advance_267 ?_
                                refine lv_isub hx hb dX10_advance_270 ?_
                                refine lv_topi (fun x_72 ex_72 => ?_)
                                refine lv_iload hx hb dX10_advance_271 (lv_at hl 0 rfl) ?_
                                refine lv_icmp_le (tgt := 280) hx hb dX10_advance_273 (by decide) (fun c_73 => ?_) (fun c_73 => ?_)
                                · refine lv_iload_n hx hb dX10_advance_280 rfl (lv_at hl 4 rfl) ?_
                                  refine lv_if_eq (tgt := 288) hx hb dX10_advance_281 (by decide) (fun c_74 => ?_) (fun c_74 => ?_)
                                  · exact absurd c_74 (by decide)
                                  · refine lv_iconst (v := 1) hx hb dX10_advance_284 (by decide) ?_
                                    refine lv_goto (tgt := 289) hx hb dX10_advance_285 (by decide) ?_
                                    refine va_put (D := (dC, dI)) (ci := 9) (v := .int 1) (C := RX10) (T := TX10) (N := 7) hx hb hts hinX10 tyX10 tyX10_ok nmX10 hown hK hP hD hS 2 (at_9 rfl) rfl 2 (by decide) (hts (.fieldLink RX10 17 "BondCalendars$Tape" "kind" "I") (by decide +kernel)) (fun _ h9 => h9) rfl (ty := .int) (by decide +kernel) rfl rfl (Nat.le_of_ble_eq_true rfl) dX10_advance_289 (fun H locs hP hD hS => ?_)
                                    obtain ⟨σ25, eσ25, hP, hD⟩ := gPut (se_9_2 rfl) hP hD
                                    have hIσ25 : InvX σ25 := by rw [eσ25]; exact inv_I hIσ172x (ok_9_2 rfl _)
                                    have frσ25 : gFr [9] σ σ25 := by rw [eσ25]; exact gFr.pI frσ172x rfl (by decide)
                                    refine lv_goto (tgt := 300) hx hb dX10_advance_292 (by decide) ?_
                                    refine W.endD hd0 ?_
                                    exact W.vret hx hb hr (fun t ht hW => ⟨⟨σ25, rfl, ⟨hIσ25, frσ25, trivial⟩, ⟨by rw [ht]; exact hP, hD⟩⟩, hS.F ht⟩) hS.2.2 dX10_advance_300
                                · refine lv_iconst (v := 4) hx hb dX10_advance_276 (by decide) ?_
                                  refine lv_goto (tgt := 289) hx hb dX10_advance_277 (by decide) ?_
                                  refine va_put (D := (dC, dI)) (ci := 9) (v := .int 4) (C := RX10) (T := TX10) (N := 7) hx hb hts hinX10 tyX10 tyX10_ok nmX10 hown hK hP hD hS 2 (at_9 rfl) rfl 2 (by decide) (hts (.fieldLink RX10 17 "BondCalendars$Tape" "kind" "I") (by decide +kernel)) (fun _ h9 => h9) rfl (ty := .int) (by decide +kernel) rfl rfl (Nat.le_of_ble_eq_true rfl) dX10_advance_289 (fun H locs hP hD hS => ?_)
                                  obtain ⟨σ26, eσ26, hP, hD⟩ := gPut (se_9_2 rfl) hP hD
                                  have hIσ26 : InvX σ26 := by rw [eσ26]; exact inv_I hIσ172x (ok_9_2 rfl _)
                                  have frσ26 : gFr [9] σ σ26 := by rw [eσ26]; exact gFr.pI frσ172x rfl (by decide)
                                  refine lv_goto (tgt := 300) hx hb dX10_advance_292 (by decide) ?_
                                  refine W.endD hd0 ?_
                                  exact W.vret hx hb hr (fun t ht hW => ⟨⟨σ26, rfl, ⟨hIσ26, frσ26, trivial⟩, ⟨by rw [ht]; exact hP, hD⟩⟩, hS.F ht⟩) hS.2.2 dX10_advance_300
                            · refine lv_aload_n hx hb dX10_advance_183 rfl (lv_at hl 5 rfl) ?_
                              refine va_get (D := (dC, dI)) (ci := 9) (v := .ref (ad 3)) (C := RX10) (T := TX10) (N := 7) hx hb hts hinX10 hown hK hP 2 (at_9 rfl) rfl 0 (by decide) (hts (.fieldLink RX10 9 "BondCalendars$Tape" "bytes" "[B") (by decide +kernel)) (fun _ h9 => h9) rfl dX10_advance_184 ?_
                              refine lv_aload_n hx hb dX10_advance_187 rfl (lv_at hl 5 rfl) ?_
                              refine va_get (D := (dC, dI)) (ci := 9) (v := .int ((σ172x 2).1 6)) (C := RX10) (T := TX10) (N := 7) hx hb hts hinX10 hown hK hP 2 (at_9 rfl) rfl 6 (by decide) (hts (.fieldLink RX10 29 "BondCalendars$Tape" "next" "I") (by decide +kernel)) (fun _ h9 => h9) rfl dX10_advance_188 ?_
                              refine va_bald hx hb hK hP 3 3 (at_20 rfl) (ty_20 rfl) (gin (N := 900) (by decide) bd_67 (Int32.lt_of_lt_of_le (Int32.not_le.mp c_69) bd_68)) dX10_advance_191 ?_
                              refine lv_topi (fun x_75 _ => ?_)
                              refine lv_iload hx hb dX10_advance_192 (lv_at hl 1 rfl) ?_
                              refine lv_icmp_lt (tgt := 248) hx hb dX10_advance_194 (by decide) (fun c_76 => ?_) (fun c_76 => ?_)
                              · refine lv_iload_n hx hb dX10_advance_248 rfl (lv_at hl 3 rfl) ?_
                                refine lv_if_eq (tgt := 257) hx hb dX10_advance_249 (by decide) (fun c_77 => ?_) (fun c_77 => ?_)
                                · exact absurd c_77 (by decide)
                                · refine lv_bipush (v := 7) hx hb dX10_advance_252 (by decide) ?_
                                  refine lv_goto (tgt := 259) hx hb dX10_advance_254 (by decide) ?_
                                  refine lv_istore (lv' := [(6, .int 7), (5, .int 122), (4, .int 97), (3, .int 0), (2, .int 1), (1, .int x_8), (0, .ref (ad 2))]) hx hb dX10_advance_259 hl (by decide) rfl (fun ls hl => ?_)
                                  refine lv_aload_n hx hb dX10_advance_261 rfl (lv_at hl 6 rfl) ?_
                                  refine lv_aload_n hx hb dX10_advance_262 rfl (lv_at hl 6 rfl) ?_
                                  refine va_get (D := (dC, dI)) (ci := 9) (v := .int ((σ172x 2).1 6)) (C := RX10) (T := TX10) (N := 7) hx hb hts hinX10 hown hK hP 2 (at_9 rfl) rfl 6 (by decide) (hts (.fieldLink RX10 29 "BondCalendars$Tape" "next" "I") (by decide +kernel)) (fun _ h9 => h9) rfl dX10_advance_263 ?_
                                  refine lv_aload_n hx hb dX10_advance_266 rfl (lv_at hl 6 rfl) ?_
                                  have bd_78 := rd_9_3 (c := 2) hIσ172x rfl
                                  refine va_get (D := (dC, dI)) (ci := 9) (v := .int ((σ172x 2).1 3)) (C := RX10) (T := TX10) (N := 7) hx hb hts hinX10 hown hK hP 2 (at_9 rfl) rfl 3 (by decide) (hts (.fieldLink RX10 20 "BondCalendars$Tape" "start" "I") (by decide +kernel)) (fun _ h9 => h9) rfl dX10_advance_267 ?_
                                  refine lv_isub hx hb dX10_advance_270 ?_
                                  refine lv_topi (fun x_79 ex_79 => ?_)
                                  refine lv_iload hx hb dX10_advance_271 (lv_at hl 0 rfl) ?_
                                  refine lv_icmp_le (tgt := 280) hx hb dX10_advance_273 (by decide) (fun c_80 => ?_) (fun c_80 => ?_)
                                  · refine lv_iload_n hx hb dX10_advance_280 rfl (lv_at hl 4 rfl) ?_
                                    refine lv_if_eq (tgt := 288) hx hb dX10_advance_281 (by decide) (fun c_81 => ?_) (fun c_81 => ?_)
                                    · exact absurd c_81 (by decide)
                                    · refine lv_iconst (v := 1) hx hb dX10_advance_284 (by decide) ?_
                                      refine lv_goto (tgt := 289) hx hb dX10_advance_285 (by decide) ?_
                                      refine va_put (D := (dC, dI)) (ci := 9) (v := .int 1) (C := RX10) (T := TX10) (N := 7) hx hb hts hinX10 tyX10 tyX10_ok nmX10 hown hK hP hD hS 2 (at_9 rfl) rfl 2 (by decide) (hts (.fieldLink RX10 17 "BondCalendars$Tape" "kind" "I") (by decide +kernel)) (fun _ h9 => h9) rfl (ty := .int) (by decide +kernel) rfl rfl (Nat.le_of_ble_eq_true rfl) dX10_advance_289 (fun H locs hP hD hS => ?_)
                                      obtain ⟨σ27, eσ27, hP, hD⟩ := gPut (se_9_2 rfl) hP hD
                                      have hIσ27 : InvX σ27 := by rw [eσ27]; exact inv_I hIσ172x (ok_9_2 rfl _)
                                      have frσ27 : gFr [9] σ σ27 := by rw [eσ27]; exact gFr.pI frσ172x rfl (by decide)
                                      refine lv_goto (tgt := 300) hx hb dX10_advance_292 (by decide) ?_
                                      refine W.endD hd0 ?_
                                      exact W.vret hx hb hr (fun t ht hW => ⟨⟨σ27, rfl, ⟨hIσ27, frσ27, trivial⟩, ⟨by rw [ht]; exact hP, hD⟩⟩, hS.F ht⟩) hS.2.2 dX10_advance_300
                                  · refine lv_iconst (v := 4) hx hb dX10_advance_276 (by decide) ?_
                                    refine lv_goto (tgt := 289) hx hb dX10_advance_277 (by decide) ?_
                                    refine va_put (D := (dC, dI)) (ci := 9) (v := .int 4) (C := RX10) (T := TX10) (N := 7) hx hb hts hinX10 tyX10 tyX10_ok nmX10 hown hK hP hD hS 2 (at_9 rfl) rfl 2 (by decide) (hts (.fieldLink RX10 17 "BondCalendars$Tape" "kind" "I") (by decide +kernel)) (fun _ h9 => h9) rfl (ty := .int) (by decide +kernel) rfl rfl (Nat.le_of_ble_eq_true rfl) dX10_advance_289 (fun H locs hP hD hS => ?_)
                                    obtain ⟨σ28, eσ28, hP, hD⟩ := gPut (se_9_2 rfl) hP hD
                                    have hIσ28 : InvX σ28 := by rw [eσ28]; exact inv_I hIσ172x (ok_9_2 rfl _)
                                    have frσ28 : gFr [9] σ σ28 := by rw [eσ28]; exact gFr.pI frσ172x rfl (by decide)
                                    refine lv_goto (tgt := 300) hx hb dX10_advance_292 (by decide) ?_
                                    refine W.endD hd0 ?_
                                    exact W.vret hx hb hr (fun t ht hW => ⟨⟨σ28, rfl, ⟨hIσ28, frσ28, trivial⟩, ⟨by rw [ht]; exact hP, hD⟩⟩, hS.F ht⟩) hS.2.2 dX10_advance_300
                              · refine lv_aload_n hx hb dX10_advance_197 rfl (lv_at hl 5 rfl) ?_
                                refine va_get (D := (dC, dI)) (ci := 9) (v := .ref (ad 3)) (C := RX10) (T := TX10) (N := 7) hx hb hts hinX10 hown hK hP 2 (at_9 rfl) rfl 0 (by decide) (hts (.fieldLink RX10 9 "BondCalendars$Tape" "bytes" "[B") (by decide +kernel)) (fun _ h9 => h9) rfl dX10_advance_198 ?_
                                refine lv_aload_n hx hb dX10_advance_201 rfl (lv_at hl 5 rfl) ?_
                                refine va_get (D := (dC, dI)) (ci := 9) (v := .int ((σ172x 2).1 6)) (C := RX10) (T := TX10) (N := 7) hx hb hts hinX10 hown hK hP 2 (at_9 rfl) rfl 6 (by decide) (hts (.fieldLink RX10 29 "BondCalendars$Tape" "next" "I") (by decide +kernel)) (fun _ h9 => h9) rfl dX10_advance_202 ?_
                                refine va_bald hx hb hK hP 3 3 (at_20 rfl) (ty_20 rfl) (gin (N := 900) (by decide) bd_67 (Int32.lt_of_lt_of_le (Int32.not_le.mp c_69) bd_68)) dX10_advance_205 ?_
                                refine lv_topi (fun x_82 _ => ?_)
                                refine lv_iload hx hb dX10_advance_206 (lv_at hl 0 rfl) ?_
                                refine lv_icmp_gt (tgt := 248) hx hb dX10_advance_208 (by decide) (fun c_83 => ?_) (fun c_83 => ?_)
                                · refine lv_iload_n hx hb dX10_advance_248 rfl (lv_at hl 3 rfl) ?_
                                  refine lv_if_eq (tgt := 257) hx hb dX10_advance_249 (by decide) (fun c_84 => ?_) (fun c_84 => ?_)
                                  · exact absurd c_84 (by decide)
                                  · refine lv_bipush (v := 7) hx hb dX10_advance_252 (by decide) ?_
                                    refine lv_goto (tgt := 259) hx hb dX10_advance_254 (by decide) ?_
                                    refine lv_istore (lv' := [(6, .int 7), (5, .int 122), (4, .int 97), (3, .int 0), (2, .int 1), (1, .int x_8), (0, .ref (ad 2))]) hx hb dX10_advance_259 hl (by decide) rfl (fun ls hl => ?_)
                                    refine lv_aload_n hx hb dX10_advance_261 rfl (lv_at hl 6 rfl) ?_
                                    refine lv_aload_n hx hb dX10_advance_262 rfl (lv_at hl 6 rfl) ?_
                                    refine va_get (D := (dC, dI)) (ci := 9) (v := .int ((σ172x 2).1 6)) (C := RX10) (T := TX10) (N := 7) hx hb hts hinX10 hown hK hP 2 (at_9 rfl) rfl 6 (by decide) (hts (.fieldLink RX10 29 "BondCalendars$Tape" "next" "I") (by decide +kernel)) (fun _ h9 => h9) rfl dX10_advance_263 ?_
                                    refine lv_aload_n hx hb dX10_advance_266 rfl (lv_at hl 6 rfl) ?_
                                    have bd_85 := rd_9_3 (c := 2) hIσ172x rfl
                                    refine va_get (D := (dC, dI)) (ci := 9) (v := .int ((σ172x 2).1 3)) (C := RX10) (T := TX10) (N := 7) hx hb hts hinX10 hown hK hP 2 (at_9 rfl) rfl 3 (by decide) (hts (.fieldLink RX10 20 "BondCalendars$Tape" "start" "I") (by decide +kernel)) (fun _ h9 => h9) rfl dX10_advance_267 ?_
                                    refine lv_isub hx hb dX10_advance_270 ?_
                                    refine lv_topi (fun x_86 ex_86 => ?_)
                                    refine lv_iload hx hb dX10_advance_271 (lv_at hl 0 rfl) ?_
                                    refine lv_icmp_le (tgt := 280) hx hb dX10_advance_273 (by decide) (fun c_87 => ?_) (fun c_87 => ?_)
                                    · refine lv_iload_n hx hb dX10_advance_280 rfl (lv_at hl 4 rfl) ?_
                                      refine lv_if_eq (tgt := 288) hx hb dX10_advance_281 (by decide) (fun c_88 => ?_) (fun c_88 => ?_)
                                      · exact absurd c_88 (by decide)
                                      · refine lv_iconst (v := 1) hx hb dX10_advance_284 (by decide) ?_
                                        refine lv_goto (tgt := 289) hx hb dX10_advance_285 (by decide) ?_
                                        refine va_put (D := (dC, dI)) (ci := 9) (v := .int 1) (C := RX10) (T := TX10) (N := 7) hx hb hts hinX10 tyX10 tyX10_ok nmX10 hown hK hP hD hS 2 (at_9 rfl) rfl 2 (by decide) (hts (.fieldLink RX10 17 "BondCalendars$Tape" "kind" "I") (by decide +kernel)) (fun _ h9 => h9) rfl (ty := .int) (by decide +kernel) rfl rfl (Nat.le_of_ble_eq_true rfl) dX10_advance_289 (fun H locs hP hD hS => ?_)
                                        obtain ⟨σ29, eσ29, hP, hD⟩ := gPut (se_9_2 rfl) hP hD
                                        have hIσ29 : InvX σ29 := by rw [eσ29]; exact inv_I hIσ172x (ok_9_2 rfl _)
                                        have frσ29 : gFr [9] σ σ29 := by rw [eσ29]; exact gFr.pI frσ172x rfl (by decide)
                                        refine lv_goto (tgt := 300) hx hb dX10_advance_292 (by decide) ?_
                                        refine W.endD hd0 ?_
                                        exact W.vret hx hb hr (fun t ht hW => ⟨⟨σ29, rfl, ⟨hIσ29, frσ29, trivial⟩, ⟨by rw [ht]; exact hP, hD⟩⟩, hS.F ht⟩) hS.2.2 dX10_advance_300
                                    · refine lv_iconst (v := 4) hx hb dX10_advance_276 (by decide) ?_
                                      refine lv_goto (tgt := 289) hx hb dX10_advance_277 (by decide) ?_
                                      refine va_put (D := (dC, dI)) (ci := 9) (v := .int 4) (C := RX10) (T := TX10) (N := 7) hx hb hts hinX10 tyX10 tyX10_ok nmX10 hown hK hP hD hS 2 (at_9 rfl) rfl 2 (by decide) (hts (.fieldLink RX10 17 "BondCalendars$Tape" "kind" "I") (by decide +kernel)) (fun _ h9 => h9) rfl (ty := .int) (by decide +kernel) rfl rfl (Nat.le_of_ble_eq_true rfl) dX10_advance_289 (fun H locs hP hD hS => ?_)
                                      obtain ⟨σ30, eσ30, hP, hD⟩ := gPut (se_9_2 rfl) hP hD
                                      have hIσ30 : InvX σ30 := by rw [eσ30]; exact inv_I hIσ172x (ok_9_2 rfl _)
                                      have frσ30 : gFr [9] σ σ30 := by rw [eσ30]; exact gFr.pI frσ172x rfl (by decide)
                                      refine lv_goto (tgt := 300) hx hb dX10_advance_292 (by decide) ?_
                                      refine W.endD hd0 ?_
                                      exact W.vret hx hb hr (fun t ht hW => ⟨⟨σ30, rfl, ⟨hIσ30, frσ30, trivial⟩, ⟨by rw [ht]; exact hP, hD⟩⟩, hS.F ht⟩) hS.2.2 dX10_advance_300
                                · refine lv_aload_n hx hb dX10_advance_211 rfl (lv_at hl 5 rfl) ?_
                                  refine lv_aload_n hx hb dX10_advance_212 rfl (lv_at hl 5 rfl) ?_
                                  refine va_get (D := (dC, dI)) (ci := 9) (v := .int ((σ172x 2).1 4)) (C := RX10) (T := TX10) (N := 7) hx hb hts hinX10 hown hK hP 2 (at_9 rfl) rfl 4 (by decide) (hts (.fieldLink RX10 23 "BondCalendars$Tape" "value" "I") (by decide +kernel)) (fun _ h9 => h9) rfl dX10_advance_213 ?_
                                  refine lv_bipush (v := 10) hx hb dX10_advance_216 (by decide) ?_
                                  refine lv_imul hx hb dX10_advance_218 ?_
                                  refine lv_topi (fun x_89 ex_89 => ?_)
                                  refine lv_aload_n hx hb dX10_advance_219 rfl (lv_at hl 5 rfl) ?_
                                  refine va_get (D := (dC, dI)) (ci := 9) (v := .ref (ad 3)) (C := RX10) (T := TX10) (N := 7) hx hb hts hinX10 hown hK hP 2 (at_9 rfl) rfl 0 (by decide) (hts (.fieldLink RX10 9 "BondCalendars$Tape" "bytes" "[B") (by decide +kernel)) (fun _ h9 => h9) rfl dX10_advance_220 ?_
                                  refine lv_aload_n hx hb dX10_advance_223 rfl (lv_at hl 5 rfl) ?_
                                  refine va_get (D := (dC, dI)) (ci := 9) (v := .int ((σ172x 2).1 6)) (C := RX10) (T := TX10) (N := 7) hx hb hts hinX10 hown hK hP 2 (at_9 rfl) rfl 6 (by decide) (hts (.fieldLink RX10 29 "BondCalendars$Tape" "next" "I") (by decide +kernel)) (fun _ h9 => h9) rfl dX10_advance_224 ?_
                                  refine va_bald hx hb hK hP 3 3 (at_20 rfl) (ty_20 rfl) (gin (N := 900) (by decide) bd_67 (Int32.lt_of_lt_of_le (Int32.not_le.mp c_69) bd_68)) dX10_advance_227 ?_
                                  refine lv_topi (fun x_90 _ => ?_)
                                  refine lv_iadd hx hb dX10_advance_228 ?_
                                  refine lv_topi (fun x_91 ex_91 => ?_)
                                  refine lv_bipush (v := 48) hx hb dX10_advance_229 (by decide) ?_
                                  refine lv_isub hx hb dX10_advance_231 ?_
                                  refine lv_topi (fun x_92 ex_92 => ?_)
                                  refine va_put (D := (dC, dI)) (ci := 9) (v := .int x_92) (C := RX10) (T := TX10) (N := 7) hx hb hts hinX10 tyX10 tyX10_ok nmX10 hown hK hP hD hS 2 (at_9 rfl) rfl 4 (by decide) (hts (.fieldLink RX10 23 "BondCalendars$Tape" "value" "I") (by decide +kernel)) (fun _ h9 => h9) rfl (ty := .int) (by decide +kernel) rfl rfl (Nat.le_of_ble_eq_true rfl) dX10_advance_232 (fun H locs hP hD hS => ?_)
                                  obtain ⟨σ31, eσ31, hP, hD⟩ := gPut (se_9_4 rfl) hP hD
                                  have hIσ31 : InvX σ31 := by rw [eσ31]; exact inv_I hIσ172x (ok_9_4 rfl _)
                                  have frσ31 : gFr [9] σ σ31 := by rw [eσ31]; exact gFr.pI frσ172x rfl (by decide)
                                  refine lv_aload_n hx hb dX10_advance_235 rfl (lv_at hl 5 rfl) ?_
                                  refine lv_dup hx hb dX10_advance_236 rfl ?_
                                  refine va_get (D := (dC, dI)) (ci := 9) (v := .int ((σ172x 2).1 6)) (C := RX10) (T := TX10) (N := 7) hx hb hts hinX10 hown hK hP 2 (at_9 rfl) rfl 6 (by decide) (hts (.fieldLink RX10 29 "BondCalendars$Tape" "next" "I") (by decide +kernel)) (fun _ h9 => h9) (congrArg (fun z => some (Value.int z)) (show (σ31 2).1 6 = ((σ172x 2).1 6) from by rw [eσ31, gI_oth _ _ _ (by decide)])) dX10_advance_237 ?_
                                  refine lv_iconst (v := 1) hx hb dX10_advance_240 (by decide) ?_
                                  refine lv_iadd hx hb dX10_advance_241 ?_
                                  refine lv_topi (fun x_93 ex_93 => ?_)
                                  refine va_put (D := (dC, dI)) (ci := 9) (v := .int x_93) (C := RX10) (T := TX10) (N := 7) hx hb hts hinX10 tyX10 tyX10_ok nmX10 hown hK hP hD hS 2 (at_9 rfl) rfl 6 (by decide) (hts (.fieldLink RX10 29 "BondCalendars$Tape" "next" "I") (by decide +kernel)) (fun _ h9 => h9) rfl (ty := .int) (by decide +kernel) rfl rfl (Nat.le_of_ble_eq_true rfl) dX10_advance_242 (fun H locs hP hD hS => ?_)
                                  obtain ⟨σ32, eσ32, hP, hD⟩ := gPut (se_9_6 rfl) hP hD
                                  have hIσ32 : InvX σ32 := by rw [eσ32]; exact inv_I hIσ31 (ok_9_6 rfl _ (cnt_0 bd_67 (Int32.lt_of_lt_of_le (Int32.not_le.mp c_69) bd_68) ex_93))
                                  have frσ32 : gFr [9] σ σ32 := by rw [eσ32]; exact gFr.pI frσ31 rfl (by decide)
                                  refine lv_goto (tgt := 172) hx hb dX10_advance_245 (by decide) ?_
                                  have nx_94 : (σ32 2).1 6 = x_93 := by rw [eσ32, gI_self]
                                  exact ih172  σ32 _ _ _ _ (by rw [nx_94]; exact cnt_m bd_67 (Int32.lt_of_lt_of_le (Int32.not_le.mp c_69) bd_68) hm172 ex_93)  hIσ32 frσ32 hd0 hP hD hS (lv_sub hl [0, 1, 2, 3, 4, 5] rfl)
                    · exact absurd c_64 (by decide)
                  · refine lv_aload_n hx hb dX10_advance_120 rfl (lv_at hl 3 rfl) ?_
                    refine lv_iconst (v := 3) hx hb dX10_advance_121 (by decide) ?_
                    refine va_put (D := (dC, dI)) (ci := 9) (v := .int 3) (C := RX10) (T := TX10) (N := 7) hx hb hts hinX10 tyX10 tyX10_ok nmX10 hown hK hP hD hS 2 (at_9 rfl) rfl 2 (by decide) (hts (.fieldLink RX10 17 "BondCalendars$Tape" "kind" "I") (by decide +kernel)) (fun _ h9 => h9) rfl (ty := .int) (by decide +kernel) rfl rfl (Nat.le_of_ble_eq_true rfl) dX10_advance_122 (fun H locs hP hD hS => ?_)
                    obtain ⟨σ33, eσ33, hP, hD⟩ := gPut (se_9_2 rfl) hP hD
                    have hIσ33 : InvX σ33 := by rw [eσ33]; exact inv_I hIσ5 (ok_9_2 rfl _)
                    have frσ33 : gFr [9] σ σ33 := by rw [eσ33]; exact gFr.pI frσ5 rfl (by decide)
                    refine lv_aload_n hx hb dX10_advance_125 rfl (lv_at hl 3 rfl) ?_
                    refine lv_dup hx hb dX10_advance_126 rfl ?_
                    refine va_get (D := (dC, dI)) (ci := 9) (v := .int ((σ0x 2).1 6)) (C := RX10) (T := TX10) (N := 7) hx hb hts hinX10 hown hK hP 2 (at_9 rfl) rfl 6 (by decide) (hts (.fieldLink RX10 29 "BondCalendars$Tape" "next" "I") (by decide +kernel)) (fun _ h9 => h9) (congrArg (fun z => some (Value.int z)) (show (σ33 2).1 6 = ((σ0x 2).1 6) from by rw [eσ33, gI_oth _ _ _ (by decide), eσ5, gI_oth _ _ _ (by decide), eσ4, gI_oth _ _ _ (by decide)])) dX10_advance_127 ?_
                    refine lv_iconst (v := 1) hx hb dX10_advance_130 (by decide) ?_
                    refine lv_iadd hx hb dX10_advance_131 ?_
                    refine lv_topi (fun x_95 ex_95 => ?_)
                    refine va_put (D := (dC, dI)) (ci := 9) (v := .int x_95) (C := RX10) (T := TX10) (N := 7) hx hb hts hinX10 tyX10 tyX10_ok nmX10 hown hK hP hD hS 2 (at_9 rfl) rfl 6 (by decide) (hts (.fieldLink RX10 29 "BondCalendars$Tape" "next" "I") (by decide +kernel)) (fun _ h9 => h9) rfl (ty := .int) (by decide +kernel) rfl rfl (Nat.le_of_ble_eq_true rfl) dX10_advance_132 (fun H locs hP hD hS => ?_)
                    obtain ⟨σ34, eσ34, hP, hD⟩ := gPut (se_9_6 rfl) hP hD
                    have hIσ34 : InvX σ34 := by rw [eσ34]; exact inv_I hIσ33 (ok_9_6 rfl _ (cnt_0 bd_1 (Int32.lt_of_lt_of_le (Int32.not_le.mp c_3) bd_2) ex_95))
                    have frσ34 : gFr [9] σ σ34 := by rw [eσ34]; exact gFr.pI frσ33 rfl (by decide)
                    refine lv_goto (tgt := 300) hx hb dX10_advance_135 (by decide) ?_
                    refine W.endD hd0 ?_
                    exact W.vret hx hb hr (fun t ht hW => ⟨⟨σ34, rfl, ⟨hIσ34, frσ34, trivial⟩, ⟨by rw [ht]; exact hP, hD⟩⟩, hS.F ht⟩) hS.2.2 dX10_advance_300
                · exact absurd (Int32.lt_of_lt_of_le (show (57 : Int32) < 97 by decide) (Int32.not_lt.mp c_9)) c_62
        · exact absurd (Int32.not_le.mp c_3) c_7
      · refine lv_aload_n hx hb dX10_advance_25 rfl (lv_at hl 0 rfl) ?_
        refine lv_dup hx hb dX10_advance_26 rfl ?_
        refine va_get (D := (dC, dI)) (ci := 9) (v := .int ((σ0x 2).1 6)) (C := RX10) (T := TX10) (N := 7) hx hb hts hinX10 hown hK hP 2 (at_9 rfl) rfl 6 (by decide) (hts (.fieldLink RX10 29 "BondCalendars$Tape" "next" "I") (by decide +kernel)) (fun _ h9 => h9) rfl dX10_advance_27 ?_
        refine lv_iconst (v := 1) hx hb dX10_advance_30 (by decide) ?_
        refine lv_iadd hx hb dX10_advance_31 ?_
        refine lv_topi (fun x_96 ex_96 => ?_)
        refine va_put (D := (dC, dI)) (ci := 9) (v := .int x_96) (C := RX10) (T := TX10) (N := 7) hx hb hts hinX10 tyX10 tyX10_ok nmX10 hown hK hP hD hS 2 (at_9 rfl) rfl 6 (by decide) (hts (.fieldLink RX10 29 "BondCalendars$Tape" "next" "I") (by decide +kernel)) (fun _ h9 => h9) rfl (ty := .int) (by decide +kernel) rfl rfl (Nat.le_of_ble_eq_true rfl) dX10_advance_32 (fun H locs hP hD hS => ?_)
        obtain ⟨σ35, eσ35, hP, hD⟩ := gPut (se_9_6 rfl) hP hD
        have hIσ35 : InvX σ35 := by rw [eσ35]; exact inv_I hIσ0x (ok_9_6 rfl _ (cnt_0 bd_1 (Int32.lt_of_lt_of_le (Int32.not_le.mp c_3) bd_2) ex_96))
        have frσ35 : gFr [9] σ σ35 := by rw [eσ35]; exact gFr.pI frσ0x rfl (by decide)
        refine lv_goto (tgt := 0) hx hb dX10_advance_35 (by decide) ?_
        have nx_97 : (σ35 2).1 6 = x_96 := by rw [eσ35, gI_self]
        exact ih0  σ35 _ _ _ _ (by rw [nx_97]; exact cnt_m bd_1 (Int32.lt_of_lt_of_le (Int32.not_le.mp c_3) bd_2) hm0 ex_96)  hIσ35 frσ35 hd0 hP hD hS (lv_sub hl [0] rfl)
set_option maxHeartbeats 8000000 in
set_option maxRecDepth 100000 in
theorem n_X10_rewind (l : Launch) (dC : Nat → ClassId) (dI : Nat → Nat → Nat) (ad : Nat → Nat) (cA : Nat → ClassId) (adK adV : Nat → Nat) (sz : Nat) (σ : gs) (hI : InvX σ) (p0 : Int32) : MetD lw_cs l yX10_rewind wsX10_rewind ({ frames := 1, cells := 0, slots := 0, locals := 26 }) (va_Pc [.ref (ad 2), .int p0] (gPre adK adV (dC, dI) (wX ad cA σ) (tX cA) sz)) (va_Qv (fun (τ : gs) => InvX τ ∧ gFr [9] σ τ ∧ (True)) (fun τ t => gPost (dC, dI) (va_A (wX ad cA σ) sz) (wX ad cA τ) t) (va_A (wX ad cA σ) sz)) 0 0 (va_A (wX ad cA σ) sz) := by
  refine MetD.ofW (cc := cX10_rewind) (maxL := 2) (ret := none) (by decide) rfl ?_
  intro p e s m args below meth c s₁ B hml hv hd0
  obtain ⟨rfl, hsz, hP, hK, hD0, hT⟩ := hv
  have hx := B.exec
  have hb := B.bytes
  have hr := B.returns
  have hts0 := atoms_spec (ws := wsX10_rewind) B.pre
  have hK0 := hK
  have hown0 : s.vm.findClass RX10 = some m.cls := findClass_of_methodNamed B.named
  have hlocks := B.notSynchronized
  have hinX10 : ∀ w ∈ u_ws RX10 TX10 7, w ∈ wsX10_rewind := (fun _ h9 => List.mem_cons_of_mem _ (List.mem_append_right _ h9))
  subst hsz
  have hD := hD0.self (sz := s.heap.size)
  generalize hAe : va_A (wX ad cA σ) s.heap.size = A at hD hT ⊢
  have hA : ∀ q : Nat, s.heap.size ≤ q → A q := fun q h => by rw [← hAe]; exact Or.inr h
  have hS : va_S A s.heap s.heap [] := va_S.rf
  have hl := lv_entry ([.ref (ad 2), .int p0]) (n := 2) (Nat.le_of_ble_eq_true rfl)
  rw [lg_entry_eq]
  generalize (lg_sl ([.ref (ad 2), .int p0]) ++ List.replicate (2 - (lg_sl ([.ref (ad 2), .int p0])).length) Slot.unset).toArray = ls at hl ⊢
  have hl : lv_has ls 2 [(0, .ref (ad 2)), (1, .int p0)] := hl
  have hts := dr_words hts0 (s.drawn)
  have hK := gKd hK0 (s.drawn)
  have hown : (s.setDrawn (s.drawn)).vm.findClass RX10 = some m.cls := hown0
  refine lv_aload_n hx hb dX10_rewind_0 rfl (lv_at hl 0 rfl) ?_
  refine lv_iload_n hx hb dX10_rewind_1 rfl (lv_at hl 1 rfl) ?_
  refine lv_aload_n hx hb dX10_rewind_2 rfl (lv_at hl 0 rfl) ?_
  refine va_get (D := (dC, dI)) (ci := 9) (v := .ref (ad 3)) (C := RX10) (T := TX10) (N := 7) hx hb hts hinX10 hown hK hP 2 (at_9 rfl) rfl 0 (by decide) (hts (.fieldLink RX10 9 "BondCalendars$Tape" "bytes" "[B") (by decide +kernel)) (fun _ h9 => h9) rfl dX10_rewind_3 ?_
  refine va_alen (v := 900) hx hb hK hP 3 3 (at_20 rfl) (ty_20 rfl) rfl dX10_rewind_6 ?_
  refine va_mmin hx hb (hml.trans hl.1.symm) hown (hts (.methodLink RX10 32 Lib.Math.min.name) (by decide +kernel)) (hts (.static Lib.Math.min.name) (by decide +kernel)) (hts (.initialized "java/lang/Math") (by decide +kernel)) (hts (.code Lib.Math.min.name Lib.Math.min.code 2 (some .int)) (by decide +kernel)) (Nat.le_of_ble_eq_true rfl) (Nat.le_of_ble_eq_true rfl) (Nat.zero_le _) (Nat.zero_le _) dX10_rewind_7 ?_
  refine lv_topi (fun x_1 ex_1 => ?_)
  refine va_put (D := (dC, dI)) (ci := 9) (v := .int x_1) (C := RX10) (T := TX10) (N := 7) hx hb hts hinX10 tyX10 tyX10_ok nmX10 hown hK hP hD hS 2 (at_9 rfl) rfl 5 (by decide) (hts (.fieldLink RX10 26 "BondCalendars$Tape" "limit" "I") (by decide +kernel)) (fun _ h9 => h9) rfl (ty := .int) (by decide +kernel) rfl rfl (Nat.le_of_ble_eq_true rfl) dX10_rewind_10 (fun H locs hP hD hS => ?_)
  obtain ⟨σ1, eσ1, hP, hD⟩ := gPut (se_9_5 rfl) hP hD
  have hIσ1 : InvX σ1 := by rw [eσ1]; exact inv_I hI (ok_9_5 rfl _ (min_r ex_1))
  have frσ1 : gFr [9] σ σ1 := by rw [eσ1]; exact gFr.pI (gFr.rfl (L := [9]) (σ := σ)) rfl (by decide)
  refine lv_aload_n hx hb dX10_rewind_13 rfl (lv_at hl 0 rfl) ?_
  refine lv_iconst (v := 0) hx hb dX10_rewind_14 (by decide) ?_
  refine va_put (D := (dC, dI)) (ci := 9) (v := .int 0) (C := RX10) (T := TX10) (N := 7) hx hb hts hinX10 tyX10 tyX10_ok nmX10 hown hK hP hD hS 2 (at_9 rfl) rfl 6 (by decide) (hts (.fieldLink RX10 29 "BondCalendars$Tape" "next" "I") (by decide +kernel)) (fun _ h9 => h9) rfl (ty := .int) (by decide +kernel) rfl rfl (Nat.le_of_ble_eq_true rfl) dX10_rewind_15 (fun H locs hP hD hS => ?_)
  obtain ⟨σ2, eσ2, hP, hD⟩ := gPut (se_9_6 rfl) hP hD
  have hIσ2 : InvX σ2 := by rw [eσ2]; exact inv_I hIσ1 (ok_9_6 rfl _ (show (0 : Int32) ≤ 0 by decide))
  have frσ2 : gFr [9] σ σ2 := by rw [eσ2]; exact gFr.pI frσ1 rfl (by decide)
  refine lv_aload_n hx hb dX10_rewind_18 rfl (lv_at hl 0 rfl) ?_
  have hF := gFree hD hS hA
  refine va_callvD hd0 (va_runV_D (As := []) (rest := []) ⟨hx, hb, hml, hown, hts⟩ (n_X10_advance l dC dI ad cA adK adV H.size σ2 hIσ2 ) (cwV 0 hts gX10_rewind_X10_advance rfl rfl rfl (by decide +kernel) ⟨Nat.le_of_ble_eq_true rfl, Nat.le_of_ble_eq_true rfl⟩) ⟨gBlind, va_recv hK hP (ci := 9) (q0 := 2) rfl (at_9 rfl), gStart (As := [.ref (ad 2)]) hP hD hK0 hT hS hF (s.drawn)⟩ rfl rfl hl.1 rfl (lv_room (Nat.le_of_ble_eq_true rfl)) dX10_rewind_19 ⟨Nat.le_of_ble_eq_true rfl, Nat.le_of_ble_eq_true rfl⟩) hS (fun q _ h => hF q h) hF (fun σ3 t H locs ht hvm hw hB hz1 hk1 hS d_3 hd0 => ?_)
  have hts := dr_words hts0 (d_3)
  have hK := gKd hK0 (d_3)
  have hown : (s.setDrawn (d_3)).vm.findClass RX10 = some m.cls := hown0
  obtain ⟨hP, hD⟩ := gBack hF ht hB
  obtain ⟨hIσ3, fcσ3, hp_4⟩ := hw
  refine W.endD hd0 ?_
  exact W.vret hx hb hr (fun t ht hW => ⟨⟨σ3, rfl, ⟨hIσ3, (gFr.tr frσ2 fcσ3 (by decide)), trivial⟩, ⟨by rw [ht]; exact hP, hD⟩⟩, hS.F ht⟩) hS.2.2 dX10_rewind_22
