set_option maxHeartbeats 8000000 in
set_option maxRecDepth 100000 in
theorem n_X12_takesOver (l : Launch) (dC : Nat → ClassId) (dI : Nat → Nat → Nat) (ad : Nat → Nat) (cA : Nat → ClassId) (adK adV : Nat → Nat) (sz : Nat) (σ : gs) (hI : InvM σ) (hh0 : mRead σ) (hh1 : (σ 0).1 37 ≤ 0) (hh2 : 1 ≤ (σ 0).1 29) : MetD lw_cs l yX12_takesOver wsX12_takesOver ({ frames := 7, cells := 0, slots := 0, locals := 156 }) (va_Pc [.ref (ad 0)] (gPre adK adV (dC, dI) (wM ad cA σ) (tM cA) sz)) (va_Qv (fun (τ : gs) => InvM τ ∧ mFr [41, 42, 43, 44, 45, 46, 47, 48, 49, 50, 51, 52, 53, 54, 57, 58, 59, 60, 61, 62, 65, 66] [20, 21, 22, 28, 64, 68] σ τ ∧ (Deep τ)) (fun τ t => gPost (dC, dI) (va_A (wM ad cA σ) sz) (wM ad cA τ) t) (va_A (wM ad cA σ) sz)) 0 0 (va_A (wM ad cA σ) sz) := by
  refine MetD.ofW (cc := cX12_takesOver) (maxL := 2) (ret := none) (by decide) rfl ?_
  intro p e s m args below meth c s₁ B hml hv hd0
  obtain ⟨rfl, hsz, hP, hK, hD0, hT⟩ := hv
  have hx := B.exec
  have hb := B.bytes
  have hr := B.returns
  have hts0 := atoms_spec (ws := wsX12_takesOver) B.pre
  have hK0 := hK
  have hown0 : s.vm.findClass RX12 = some m.cls := findClass_of_methodNamed B.named
  have hlocks := B.notSynchronized
  have hinX12 : ∀ w ∈ u_ws RX12 TX12 69, w ∈ wsX12_takesOver := (fun _ h9 => List.mem_cons_of_mem _ (List.mem_append_right _ h9))
  subst hsz
  have hD := hD0.self (sz := s.heap.size)
  generalize hAe : va_A (wM ad cA σ) s.heap.size = A at hD hT ⊢
  have hA : ∀ q : Nat, s.heap.size ≤ q → A q := fun q h => by rw [← hAe]; exact Or.inr h
  have hS : va_S A s.heap s.heap [] := va_S.rf
  have hl := lv_entry ([.ref (ad 0)]) (n := 2) (Nat.le_of_ble_eq_true rfl)
  rw [lg_entry_eq]
  generalize (lg_sl ([.ref (ad 0)]) ++ List.replicate (2 - (lg_sl ([.ref (ad 0)])).length) Slot.unset).toArray = ls at hl ⊢
  have hl : lv_has ls 2 [(0, .ref (ad 0))] := hl
  have hts := dr_words hts0 (s.drawn)
  have hK := gKd hK0 (s.drawn)
  have hown : (s.setDrawn (s.drawn)).vm.findClass RX12 = some m.cls := hown0
  refine lv_aload_n hx hb dX12_takesOver_0 rfl (lv_at hl 0 rfl) ?_
  refine lv_iconst (v := 1) hx hb dX12_takesOver_1 (by decide) ?_
  refine va_put (D := (dC, dI)) (ci := 11) (v := .int 1) (C := RX12) (T := TX12) (N := 69) hx hb hts hinX12 tyX12 tyX12_ok nmX12 hown hK hP hD hS 0 (mat_11 rfl) rfl 28 (by decide) (hts (.fieldLink RX12 361 "BondCalendarsModel" "isThere" "Z") (by decide +kernel)) (fun _ h9 => h9) rfl (ty := .boolean) (by decide +kernel) (by decide +kernel) (by decide +kernel) (Nat.le_of_ble_eq_true rfl) dX12_takesOver_2 (fun H locs hP hD hS => ?_)
  obtain ⟨σ1, eσ1, hP, hD⟩ := gPut (mse_11_28 rfl) hP hD
  have hIσ1 : InvM σ1 := by rw [eσ1]; exact minv_I hI (mok_11_28 rfl _ ⟨(show (0 : Int32) ≤ 1 by decide), (show (1 : Int32) ≤ 1 by decide)⟩)
  have frσ1 : mFr [41, 42, 43, 44, 45, 46, 47, 48, 49, 50, 51, 52, 53, 54, 57, 58, 59, 60, 61, 62, 65, 66] [20, 21, 22, 28, 64, 68] σ σ1 := by rw [eσ1]; exact mFr.oI (mFr.rfl (L := [41, 42, 43, 44, 45, 46, 47, 48, 49, 50, 51, 52, 53, 54, 57, 58, 59, 60, 61, 62, 65, 66]) (F := [20, 21, 22, 28, 64, 68]) (σ := σ)) (by decide)
  refine lv_aload_n hx hb dX12_takesOver_5 rfl (lv_at hl 0 rfl) ?_
  refine lv_aload_n hx hb dX12_takesOver_6 rfl (lv_at hl 0 rfl) ?_
  have bd_1 := mrd_11_23 (c := 0) hI rfl
  refine va_get (D := (dC, dI)) (ci := 11) (v := .int ((σ 0).1 23)) (C := RX12) (T := TX12) (N := 69) hx hb hts hinX12 hown hK hP 0 (mat_11 rfl) rfl 23 (by decide) (hts (.fieldLink RX12 260 "BondCalendarsModel" "readBonds" "I") (by decide +kernel)) (fun _ h9 => h9) (congrArg (fun z => some (Value.int z)) (show (σ1 0).1 23 = ((σ 0).1 23) from by rw [eσ1, gI_oth _ _ _ (by decide)])) dX12_takesOver_7 ?_
  refine va_put (D := (dC, dI)) (ci := 11) (v := .int ((σ 0).1 23)) (C := RX12) (T := TX12) (N := 69) hx hb hts hinX12 tyX12 tyX12_ok nmX12 hown hK hP hD hS 0 (mat_11 rfl) rfl 20 (by decide) (hts (.fieldLink RX12 358 "BondCalendarsModel" "bonds" "I") (by decide +kernel)) (fun _ h9 => h9) rfl (ty := .int) (by decide +kernel) rfl rfl (Nat.le_of_ble_eq_true rfl) dX12_takesOver_10 (fun H locs hP hD hS => ?_)
  obtain ⟨σ2, eσ2, hP, hD⟩ := gPut (mse_11_20 rfl) hP hD
  have hIσ2 : InvM σ2 := by rw [eσ2]; exact minv_I hIσ1 (mok_11_20 rfl _ ⟨bd_1.1, bd_1.2⟩)
  have frσ2 : mFr [41, 42, 43, 44, 45, 46, 47, 48, 49, 50, 51, 52, 53, 54, 57, 58, 59, 60, 61, 62, 65, 66] [20, 21, 22, 28, 64, 68] σ σ2 := by rw [eσ2]; exact mFr.oI frσ1 (by decide)
  refine lv_aload_n hx hb dX12_takesOver_13 rfl (lv_at hl 0 rfl) ?_
  refine lv_aload_n hx hb dX12_takesOver_14 rfl (lv_at hl 0 rfl) ?_
  have bd_2 := mrd_11_24 (c := 0) hI rfl
  refine va_get (D := (dC, dI)) (ci := 11) (v := .int ((σ 0).1 24)) (C := RX12) (T := TX12) (N := 69) hx hb hts hinX12 hown hK hP 0 (mat_11 rfl) rfl 24 (by decide) (hts (.fieldLink RX12 263 "BondCalendarsModel" "readQuotes" "I") (by decide +kernel)) (fun _ h9 => h9) (congrArg (fun z => some (Value.int z)) (show (σ2 0).1 24 = ((σ 0).1 24) from by rw [eσ2, gI_oth _ _ _ (by decide), eσ1, gI_oth _ _ _ (by decide)])) dX12_takesOver_15 ?_
  refine va_put (D := (dC, dI)) (ci := 11) (v := .int ((σ 0).1 24)) (C := RX12) (T := TX12) (N := 69) hx hb hts hinX12 tyX12 tyX12_ok nmX12 hown hK hP hD hS 0 (mat_11 rfl) rfl 21 (by decide) (hts (.fieldLink RX12 364 "BondCalendarsModel" "quotes" "I") (by decide +kernel)) (fun _ h9 => h9) rfl (ty := .int) (by decide +kernel) rfl rfl (Nat.le_of_ble_eq_true rfl) dX12_takesOver_18 (fun H locs hP hD hS => ?_)
  obtain ⟨σ3, eσ3, hP, hD⟩ := gPut (mse_11_21 rfl) hP hD
  have hIσ3 : InvM σ3 := by rw [eσ3]; exact minv_I hIσ2 (mok_11_21 rfl _ ⟨bd_2.1, bd_2.2⟩)
  have frσ3 : mFr [41, 42, 43, 44, 45, 46, 47, 48, 49, 50, 51, 52, 53, 54, 57, 58, 59, 60, 61, 62, 65, 66] [20, 21, 22, 28, 64, 68] σ σ3 := by rw [eσ3]; exact mFr.oI frσ2 (by decide)
  refine lv_aload_n hx hb dX12_takesOver_21 rfl (lv_at hl 0 rfl) ?_
  refine lv_aload_n hx hb dX12_takesOver_22 rfl (lv_at hl 0 rfl) ?_
  have bd_3 := mrd_11_25 (c := 0) hI rfl
  refine va_get (D := (dC, dI)) (ci := 11) (v := .int ((σ 0).1 25)) (C := RX12) (T := TX12) (N := 69) hx hb hts hinX12 hown hK hP 0 (mat_11 rfl) rfl 25 (by decide) (hts (.fieldLink RX12 266 "BondCalendarsModel" "readFrees" "I") (by decide +kernel)) (fun _ h9 => h9) (congrArg (fun z => some (Value.int z)) (show (σ3 0).1 25 = ((σ 0).1 25) from by rw [eσ3, gI_oth _ _ _ (by decide), eσ2, gI_oth _ _ _ (by decide), eσ1, gI_oth _ _ _ (by decide)])) dX12_takesOver_23 ?_
  refine va_put (D := (dC, dI)) (ci := 11) (v := .int ((σ 0).1 25)) (C := RX12) (T := TX12) (N := 69) hx hb hts hinX12 tyX12 tyX12_ok nmX12 hown hK hP hD hS 0 (mat_11 rfl) rfl 22 (by decide) (hts (.fieldLink RX12 150 "BondCalendarsModel" "freeMany" "I") (by decide +kernel)) (fun _ h9 => h9) rfl (ty := .int) (by decide +kernel) rfl rfl (Nat.le_of_ble_eq_true rfl) dX12_takesOver_26 (fun H locs hP hD hS => ?_)
  obtain ⟨σ4, eσ4, hP, hD⟩ := gPut (mse_11_22 rfl) hP hD
  have hIσ4 : InvM σ4 := by rw [eσ4]; exact minv_I hIσ3 (mok_11_22 rfl _ ⟨bd_3.1, bd_3.2⟩)
  have frσ4 : mFr [41, 42, 43, 44, 45, 46, 47, 48, 49, 50, 51, 52, 53, 54, 57, 58, 59, 60, 61, 62, 65, 66] [20, 21, 22, 28, 64, 68] σ σ4 := by rw [eσ4]; exact mFr.oI frσ3 (by decide)
  refine lv_iconst (v := 0) hx hb dX12_takesOver_29 (by decide) ?_
  refine lv_istore_n (lv' := [(1, .int 0), (0, .ref (ad 0))]) hx hb dX12_takesOver_30 rfl hl (by decide) rfl (fun ls hl => ?_)
  refine (fun (h : ∀ (n : Nat) (i0 : Int32) (σ31x : gs) (d31 : Drawn) (H : Heap) (locs : List Loc) (ls : Array Slot), ((10 : Int32).toInt - i0.toInt).toNat < n → 0 ≤ i0 → mT0 σ31x → InvM σ31x → mFr [41, 42, 43, 44, 45, 46, 47, 48, 49, 50, 51, 52, 53, 54, 57, 58, 59, 60, 61, 62, 65, 66] [20, 21, 22, 28, 64, 68] σ σ31x → s.drawn.sameBut d31 lw_cs → va_P (dC, dI) vwCl (wM ad cA σ31x) H → va_D A (wM ad cA σ31x) → va_S A s.heap H locs → lv_has ls 2 [(1, .int i0), (0, .ref (ad 0))] → W p l e _ (s.setDrawn d31) m _ below meth c H locs _ _ _ (F0 m 31 ls [])) => h _ 0 σ4 _ _ _ _ (Nat.lt_succ_self _) (by decide) (mT0_of hh0 hh1 (fun j => ⟨by rw [eσ4, gI_ne _ _ _ (by decide), eσ3, gI_ne _ _ _ (by decide), eσ2, gI_ne _ _ _ (by decide), eσ1, gI_ne _ _ _ (by decide)], by rw [eσ4, gI_ne _ _ _ (by decide), eσ3, gI_ne _ _ _ (by decide), eσ2, gI_ne _ _ _ (by decide), eσ1, gI_ne _ _ _ (by decide)], by rw [eσ4, gI_ne _ _ _ (by decide), eσ3, gI_ne _ _ _ (by decide), eσ2, gI_ne _ _ _ (by decide), eσ1, gI_ne _ _ _ (by decide)], by rw [eσ4, gI_ne _ _ _ (by decide), eσ3, gI_ne _ _ _ (by decide), eσ2, gI_ne _ _ _ (by decide), eσ1, gI_ne _ _ _ (by decide)], by rw [eσ4, gI_ne _ _ _ (by decide), eσ3, gI_ne _ _ _ (by decide), eσ2, gI_ne _ _ _ (by decide), eσ1, gI_ne _ _ _ (by decide)], by rw [eσ4, gI_ne _ _ _ (by decide), eσ3, gI_ne _ _ _ (by decide), eσ2, gI_ne _ _ _ (by decide), eσ1, gI_ne _ _ _ (by decide)]⟩) (by rw [eσ4, gI_ne _ _ _ (by decide), eσ3, gI_ne _ _ _ (by decide), eσ2, gI_ne _ _ _ (by decide), eσ1, gI_ne _ _ _ (by decide)]) (by rw [eσ4, gI_ne _ _ _ (by decide), eσ3, gI_ne _ _ _ (by decide), eσ2, gI_ne _ _ _ (by decide), eσ1, gI_ne _ _ _ (by decide)]) (by rw [eσ4, gI_oth _ _ _ (by decide), eσ3, gI_oth _ _ _ (by decide), eσ2, gI_self]) (by rw [eσ4, gI_oth _ _ _ (by decide), eσ3, gI_self])) hIσ4 frσ4 hd0 hP hD hS (lv_sub hl [0, 1] rfl)) ?_
  intro n31
  induction n31 with
  | zero => intro i0 σ31x d31 H locs ls hm; exact absurd hm (Nat.not_lt_zero _)
  | succ n31 ih31 =>
    intro i0 σ31x d31 H locs ls hm31 iv31_0 iv31_1 hIσ31x frσ31x hd0 hP hD hS hl
    have hts := dr_words hts0 (d31)
    have hK := gKd hK0 (d31)
    have hown : (s.setDrawn (d31)).vm.findClass RX12 = some m.cls := hown0
    refine lv_iload_n hx hb dX12_takesOver_31 rfl (lv_at hl 0 rfl) ?_
    refine lv_aload_n hx hb dX12_takesOver_32 rfl (lv_at hl 1 rfl) ?_
    have bd_4 := mrd_11_22 (c := 0) hIσ31x rfl
    refine va_get (D := (dC, dI)) (ci := 11) (v := .int ((σ31x 0).1 22)) (C := RX12) (T := TX12) (N := 69) hx hb hts hinX12 hown hK hP 0 (mat_11 rfl) rfl 22 (by decide) (hts (.fieldLink RX12 150 "BondCalendarsModel" "freeMany" "I") (by decide +kernel)) (fun _ h9 => h9) rfl dX12_takesOver_33 ?_
    refine lv_icmp_ge (tgt := 57) hx hb dX12_takesOver_36 (by decide) (fun c_5 => ?_) (fun c_5 => ?_)
    · refine lv_iconst (v := 0) hx hb dX12_takesOver_57 (by decide) ?_
      refine lv_istore_n (lv' := [(1, .int 0), (0, .ref (ad 0))]) hx hb dX12_takesOver_58 rfl hl (by decide) rfl (fun ls hl => ?_)
      refine (fun (h : ∀ (n : Nat) (i1 : Int32) (σ59x : gs) (d59 : Drawn) (H : Heap) (locs : List Loc) (ls : Array Slot), ((6 : Int32).toInt - i1.toInt).toNat < n → 0 ≤ i1 → mT0 σ59x → mQl σ59x i1 → InvM σ59x → mFr [41, 42, 43, 44, 45, 46, 47, 48, 49, 50, 51, 52, 53, 54, 57, 58, 59, 60, 61, 62, 65, 66] [20, 21, 22, 28, 64, 68] σ σ59x → s.drawn.sameBut d59 lw_cs → va_P (dC, dI) vwCl (wM ad cA σ59x) H → va_D A (wM ad cA σ59x) → va_S A s.heap H locs → lv_has ls 2 [(1, .int i1), (0, .ref (ad 0))] → W p l e _ (s.setDrawn d59) m _ below meth c H locs _ _ _ (F0 m 59 ls [])) => h _ 0 σ31x _ _ _ _ (Nat.lt_succ_self _) (by decide) iv31_1 ql_0 hIσ31x frσ31x hd0 hP hD hS (lv_sub hl [0, 1] rfl)) ?_
      intro n59
      induction n59 with
      | zero => intro i1 σ59x d59 H locs ls hm; exact absurd hm (Nat.not_lt_zero _)
      | succ n59 ih59 =>
        intro i1 σ59x d59 H locs ls hm59 iv59_0 iv59_1 iv59_2 hIσ59x frσ59x hd0 hP hD hS hl
        have hts := dr_words hts0 (d59)
        have hK := gKd hK0 (d59)
        have hown : (s.setDrawn (d59)).vm.findClass RX12 = some m.cls := hown0
        refine lv_iload_n hx hb dX12_takesOver_59 rfl (lv_at hl 0 rfl) ?_
        refine lv_aload_n hx hb dX12_takesOver_60 rfl (lv_at hl 1 rfl) ?_
        have bd_6 := mrd_11_21 (c := 0) hIσ59x rfl
        refine va_get (D := (dC, dI)) (ci := 11) (v := .int ((σ59x 0).1 21)) (C := RX12) (T := TX12) (N := 69) hx hb hts hinX12 hown hK hP 0 (mat_11 rfl) rfl 21 (by decide) (hts (.fieldLink RX12 364 "BondCalendarsModel" "quotes" "I") (by decide +kernel)) (fun _ h9 => h9) rfl dX12_takesOver_61 ?_
        refine lv_icmp_ge (tgt := 118) hx hb dX12_takesOver_64 (by decide) (fun c_7 => ?_) (fun c_7 => ?_)
        · refine lv_iconst (v := 0) hx hb dX12_takesOver_118 (by decide) ?_
          refine lv_istore_n (lv' := [(1, .int 0), (0, .ref (ad 0))]) hx hb dX12_takesOver_119 rfl hl (by decide) rfl (fun ls hl => ?_)
          refine (fun (h : ∀ (n : Nat) (j1 : Int32) (σ120x : gs) (d120 : Drawn) (H : Heap) (locs : List Loc) (ls : Array Slot), ((4 : Int32).toInt - j1.toInt).toNat < n → 0 ≤ j1 → mT0 σ120x → mQl σ120x ((σ120x 0).1 21) → mDR σ120x j1 → InvM σ120x → mFr [41, 42, 43, 44, 45, 46, 47, 48, 49, 50, 51, 52, 53, 54, 57, 58, 59, 60, 61, 62, 65, 66] [20, 21, 22, 28, 64, 68] σ σ120x → s.drawn.sameBut d120 lw_cs → va_P (dC, dI) vwCl (wM ad cA σ120x) H → va_D A (wM ad cA σ120x) → va_S A s.heap H locs → lv_has ls 2 [(1, .int j1), (0, .ref (ad 0))] → W p l e _ (s.setDrawn d120) m _ below meth c H locs _ _ _ (F0 m 120 ls [])) => h _ 0 σ59x _ _ _ _ (Nat.lt_succ_self _) (by decide) iv59_1 (ql_all iv59_2 c_7) dr_0 hIσ59x frσ59x hd0 hP hD hS (lv_sub hl [0, 1] rfl)) ?_
          intro n120
          induction n120 with
          | zero => intro j1 σ120x d120 H locs ls hm; exact absurd hm (Nat.not_lt_zero _)
          | succ n120 ih120 =>
            intro j1 σ120x d120 H locs ls hm120 iv120_0 iv120_1 iv120_2 iv120_3 hIσ120x frσ120x hd0 hP hD hS hl
            have hts := dr_words hts0 (d120)
            have hK := gKd hK0 (d120)
            have hown : (s.setDrawn (d120)).vm.findClass RX12 = some m.cls := hown0
            refine lv_iload_n hx hb dX12_takesOver_120 rfl (lv_at hl 0 rfl) ?_
            refine lv_aload_n hx hb dX12_takesOver_121 rfl (lv_at hl 1 rfl) ?_
            have bd_8 := mrd_11_20 (c := 0) hIσ120x rfl
            refine va_get (D := (dC, dI)) (ci := 11) (v := .int ((σ120x 0).1 20)) (C := RX12) (T := TX12) (N := 69) hx hb hts hinX12 hown hK hP 0 (mat_11 rfl) rfl 20 (by decide) (hts (.fieldLink RX12 358 "BondCalendarsModel" "bonds" "I") (by decide +kernel)) (fun _ h9 => h9) rfl dX12_takesOver_122 ?_
            refine lv_icmp_ge (tgt := 152) hx hb dX12_takesOver_125 (by decide) (fun c_9 => ?_) (fun c_9 => ?_)
            · refine lv_aload_n hx hb dX12_takesOver_152 rfl (lv_at hl 1 rfl) ?_
              refine lv_aload_n hx hb dX12_takesOver_153 rfl (lv_at hl 1 rfl) ?_
              refine va_get (D := (dC, dI)) (ci := 11) (v := .int ((σ 0).1 26)) (C := RX12) (T := TX12) (N := 69) hx hb hts hinX12 hown hK hP 0 (mat_11 rfl) rfl 26 (by decide) (hts (.fieldLink RX12 304 "BondCalendarsModel" "readFrom" "I") (by decide +kernel)) (fun _ h9 => h9) (congrArg (fun z => some (Value.int z)) (show (σ120x 0).1 26 = ((σ 0).1 26) from by rw [frσ120x.2 26 (by decide)])) dX12_takesOver_154 ?_
              refine va_put (D := (dC, dI)) (ci := 11) (v := .int ((σ 0).1 26)) (C := RX12) (T := TX12) (N := 69) hx hb hts hinX12 tyX12 tyX12_ok nmX12 hown hK hP hD hS 0 (mat_11 rfl) rfl 64 (by decide) (hts (.fieldLink RX12 377 "BondCalendarsModel" "now" "I") (by decide +kernel)) (fun _ h9 => h9) rfl (ty := .int) (by decide +kernel) rfl rfl (Nat.le_of_ble_eq_true rfl) dX12_takesOver_157 (fun H locs hP hD hS => ?_)
              obtain ⟨σ5, eσ5, hP, hD⟩ := gPut (mse_11_64 rfl) hP hD
              have hIσ5 : InvM σ5 := by rw [eσ5]; exact minv_I hIσ120x (mok_11_64 rfl _)
              have frσ5 : mFr [41, 42, 43, 44, 45, 46, 47, 48, 49, 50, 51, 52, 53, 54, 57, 58, 59, 60, 61, 62, 65, 66] [20, 21, 22, 28, 64, 68] σ σ5 := by rw [eσ5]; exact mFr.oI frσ120x (by decide)
              refine lv_aload_n hx hb dX12_takesOver_160 rfl (lv_at hl 1 rfl) ?_
              refine lv_aload_n hx hb dX12_takesOver_161 rfl (lv_at hl 1 rfl) ?_
              refine va_get (D := (dC, dI)) (ci := 11) (v := .int ((σ 0).1 27)) (C := RX12) (T := TX12) (N := 69) hx hb hts hinX12 hown hK hP 0 (mat_11 rfl) rfl 27 (by decide) (hts (.fieldLink RX12 307 "BondCalendarsModel" "readCash" "I") (by decide +kernel)) (fun _ h9 => h9) (congrArg (fun z => some (Value.int z)) (show (σ5 0).1 27 = ((σ 0).1 27) from by rw [eσ5, gI_oth _ _ _ (by decide), frσ120x.2 27 (by decide)])) dX12_takesOver_162 ?_
              refine lv_i2l hx hb dX12_takesOver_165 rfl ?_
              refine lv_topl (fun x_10 ex_10 => ?_)
              refine va_put (D := (dC, dI)) (ci := 11) (v := .long x_10) (C := RX12) (T := TX12) (N := 69) hx hb hts hinX12 tyX12 tyX12_ok nmX12 hown hK hP hD hS 0 (mat_11 rfl) rfl 66 (by decide) (hts (.fieldLink RX12 380 "BondCalendarsModel" "cash" "J") (by decide +kernel)) (fun _ h9 => h9) rfl (ty := .long) (by decide +kernel) rfl rfl (Nat.le_of_ble_eq_true rfl) dX12_takesOver_166 (fun H locs hP hD hS => ?_)
              obtain ⟨σ6, eσ6, hP, hD⟩ := gPut (mse_11_66 rfl) hP hD
              have hIσ6 : InvM σ6 := by rw [eσ6]; exact minv_L hIσ5
              have frσ6 : mFr [41, 42, 43, 44, 45, 46, 47, 48, 49, 50, 51, 52, 53, 54, 57, 58, 59, 60, 61, 62, 65, 66] [20, 21, 22, 28, 64, 68] σ σ6 := by rw [eσ6]; exact mFr.oL frσ5
              refine lv_aload_n hx hb dX12_takesOver_169 rfl (lv_at hl 1 rfl) ?_
              refine lv_iconst (v := 0) hx hb dX12_takesOver_170 (by decide) ?_
              refine va_put (D := (dC, dI)) (ci := 11) (v := .int 0) (C := RX12) (T := TX12) (N := 69) hx hb hts hinX12 tyX12 tyX12_ok nmX12 hown hK hP hD hS 0 (mat_11 rfl) rfl 68 (by decide) (hts (.fieldLink RX12 382 "BondCalendarsModel" "isKept" "Z") (by decide +kernel)) (fun _ h9 => h9) rfl (ty := .boolean) (by decide +kernel) (by decide +kernel) (by decide +kernel) (Nat.le_of_ble_eq_true rfl) dX12_takesOver_171 (fun H locs hP hD hS => ?_)
              obtain ⟨σ7, eσ7, hP, hD⟩ := gPut (mse_11_68 rfl) hP hD
              have hIσ7 : InvM σ7 := by rw [eσ7]; exact minv_I hIσ6 (mok_11_68 rfl _ ⟨(show (0 : Int32) ≤ 0 by decide), (show (0 : Int32) ≤ 1 by decide)⟩)
              have frσ7 : mFr [41, 42, 43, 44, 45, 46, 47, 48, 49, 50, 51, 52, 53, 54, 57, 58, 59, 60, 61, 62, 65, 66] [20, 21, 22, 28, 64, 68] σ σ7 := by rw [eσ7]; exact mFr.oI frσ6 (by decide)
              refine lv_iconst (v := 0) hx hb dX12_takesOver_174 (by decide) ?_
              refine lv_istore_n (lv' := [(1, .int 0), (0, .ref (ad 0))]) hx hb dX12_takesOver_175 rfl hl (by decide) rfl (fun ls hl => ?_)
              refine (fun (h : ∀ (n : Nat) (k1 : Int32) (σ176x : gs) (d176 : Drawn) (H : Heap) (locs : List Loc) (ls : Array Slot), ((4 : Int32).toInt - k1.toInt).toNat < n → 0 ≤ k1 → Deep σ176x → InvM σ176x → mFr [41, 42, 43, 44, 45, 46, 47, 48, 49, 50, 51, 52, 53, 54, 57, 58, 59, 60, 61, 62, 65, 66] [20, 21, 22, 28, 64, 68] σ σ176x → s.drawn.sameBut d176 lw_cs → va_P (dC, dI) vwCl (wM ad cA σ176x) H → va_D A (wM ad cA σ176x) → va_S A s.heap H locs → lv_has ls 2 [(1, .int k1), (0, .ref (ad 0))] → W p l e _ (s.setDrawn d176) m _ below meth c H locs _ _ _ (F0 m 176 ls [])) => h _ 0 σ7 _ _ _ _ (Nat.lt_succ_self _) (by decide) (deep_of iv120_2 iv120_3 hIσ120x c_9 (by rw [eσ7, gI_ne _ _ _ (by decide), eσ6, gL_ne _ _ _ (by decide), eσ5, gI_ne _ _ _ (by decide)]) (by rw [eσ7, gI_ne _ _ _ (by decide), eσ6, gL_ne _ _ _ (by decide), eσ5, gI_ne _ _ _ (by decide)]) (by rw [eσ7, gI_ne _ _ _ (by decide), eσ6, gL_ne _ _ _ (by decide), eσ5, gI_ne _ _ _ (by decide)]) (by rw [eσ7, gI_ne _ _ _ (by decide), eσ6, gL_ne _ _ _ (by decide), eσ5, gI_ne _ _ _ (by decide)]) (by rw [eσ7, gI_ne _ _ _ (by decide), eσ6, gL_ne _ _ _ (by decide), eσ5, gI_ne _ _ _ (by decide)]) (by rw [eσ7, gI_ne _ _ _ (by decide), eσ6, gL_ne _ _ _ (by decide), eσ5, gI_ne _ _ _ (by decide)]) (by rw [eσ7, gI_ne _ _ _ (by decide), eσ6, gL_ne _ _ _ (by decide), eσ5, gI_ne _ _ _ (by decide)]) (by rw [eσ7, gI_oth _ _ _ (by decide), eσ6, gL_i, eσ5, gI_oth _ _ _ (by decide)]) (by rw [eσ7, gI_oth _ _ _ (by decide), eσ6, gL_i, eσ5, gI_oth _ _ _ (by decide)]) (by rw [eσ7, gI_oth _ _ _ (by decide), eσ6, gL_i, eσ5, gI_self]; exact now_date ((hh0 hh1).2.2.resolve_left (fun h9 => absurd hh2 (by rw [h9]; decide)))) (by rw [eσ7, gI_self])) hIσ7 frσ7 hd0 hP hD hS (lv_sub hl [0, 1] rfl)) ?_
              intro n176
              induction n176 with
              | zero => intro k1 σ176x d176 H locs ls hm; exact absurd hm (Nat.not_lt_zero _)
              | succ n176 ih176 =>
                intro k1 σ176x d176 H locs ls hm176 iv176_0 iv176_1 hIσ176x frσ176x hd0 hP hD hS hl
                have hts := dr_words hts0 (d176)
                have hK := gKd hK0 (d176)
                have hown : (s.setDrawn (d176)).vm.findClass RX12 = some m.cls := hown0
                refine lv_iload_n hx hb dX12_takesOver_176 rfl (lv_at hl 0 rfl) ?_
                refine lv_iconst (v := 4) hx hb dX12_takesOver_177 (by decide) ?_
                refine lv_icmp_ge (tgt := 194) hx hb dX12_takesOver_178 (by decide) (fun c_11 => ?_) (fun c_11 => ?_)
                · refine lv_iconst (v := 0) hx hb dX12_takesOver_194 (by decide) ?_
                  refine lv_istore_n (lv' := [(1, .int 0), (0, .ref (ad 0))]) hx hb dX12_takesOver_195 rfl hl (by decide) rfl (fun ls hl => ?_)
                  refine (fun (h : ∀ (n : Nat) (l1 : Int32) (σ196x : gs) (d196 : Drawn) (H : Heap) (locs : List Loc) (ls : Array Slot), ((328 : Int32).toInt - l1.toInt).toNat < n → 0 ≤ l1 → Deep σ196x → InvM σ196x → mFr [41, 42, 43, 44, 45, 46, 47, 48, 49, 50, 51, 52, 53, 54, 57, 58, 59, 60, 61, 62, 65, 66] [20, 21, 22, 28, 64, 68] σ σ196x → s.drawn.sameBut d196 lw_cs → va_P (dC, dI) vwCl (wM ad cA σ196x) H → va_D A (wM ad cA σ196x) → va_S A s.heap H locs → lv_has ls 2 [(1, .int l1), (0, .ref (ad 0))] → W p l e _ (s.setDrawn d196) m _ below meth c H locs _ _ _ (F0 m 196 ls [])) => h _ 0 σ176x _ _ _ _ (Nat.lt_succ_self _) (by decide) iv176_1 hIσ176x frσ176x hd0 hP hD hS (lv_sub hl [0, 1] rfl)) ?_
                  intro n196
                  induction n196 with
                  | zero => intro l1 σ196x d196 H locs ls hm; exact absurd hm (Nat.not_lt_zero _)
                  | succ n196 ih196 =>
                    intro l1 σ196x d196 H locs ls hm196 iv196_0 iv196_1 hIσ196x frσ196x hd0 hP hD hS hl
                    have hts := dr_words hts0 (d196)
                    have hK := gKd hK0 (d196)
                    have hown : (s.setDrawn (d196)).vm.findClass RX12 = some m.cls := hown0
                    refine lv_iload_n hx hb dX12_takesOver_196 rfl (lv_at hl 0 rfl) ?_
                    refine lv_sipush (v := 328) hx hb dX12_takesOver_197 (by decide) ?_
                    refine lv_icmp_ge (tgt := 216) hx hb dX12_takesOver_200 (by decide) (fun c_12 => ?_) (fun c_12 => ?_)
                    · refine W.endD hd0 ?_
                      exact W.vret hx hb hr (fun t ht hW => ⟨⟨σ196x, rfl, ⟨hIσ196x, frσ196x, iv196_1⟩, ⟨by rw [ht]; exact hP, hD⟩⟩, hS.F ht⟩) hS.2.2 dX12_takesOver_216
                    · refine lv_aload_n hx hb dX12_takesOver_203 rfl (lv_at hl 1 rfl) ?_
                      refine va_get (D := (dC, dI)) (ci := 11) (v := .ref (ad 26)) (C := RX12) (T := TX12) (N := 69) hx hb hts hinX12 hown hK hP 0 (mat_11 rfl) rfl 59 (by decide) (hts (.fieldLink RX12 92 "BondCalendarsModel" "entitled" "[I") (by decide +kernel)) (fun _ h9 => h9) rfl dX12_takesOver_204 ?_
                      refine lv_iload_n hx hb dX12_takesOver_207 rfl (lv_at hl 0 rfl) ?_
                      refine lv_iconst (v := 0) hx hb dX12_takesOver_208 (by decide) ?_
                      refine va_iast hx hb hK hP hD hS 26 26 (mat_66 rfl) (mty_66 rfl) (gin (N := 328) (by decide) iv196_0 (Int32.not_le.mp c_12)) dX12_takesOver_209 (fun H locs hP hD hS => ?_)
                      obtain ⟨σ8, eσ8, hP, hD⟩ := gPut (mse_66 rfl) hP hD
                      have hIσ8 : InvM σ8 := by rw [eσ8]; exact minv_I hIσ196x (mok_66 rfl _ _)
                      have frσ8 : mFr [41, 42, 43, 44, 45, 46, 47, 48, 49, 50, 51, 52, 53, 54, 57, 58, 59, 60, 61, 62, 65, 66] [20, 21, 22, 28, 64, 68] σ σ8 := by rw [eσ8]; exact mFr.aI frσ196x (by decide) (by decide)
                      obtain ⟨x_13, ex_13⟩ : ∃ zz : Int32, zz = l1 + 1 := ⟨_, rfl⟩
                      refine lv_iinc (v := x_13) (lv' := [(1, .int x_13), (0, .ref (ad 0))]) hx hb dX12_takesOver_210 hl (k := 0) rfl (by rw [ex_13]; rfl) (by decide) rfl (fun ls hl => ?_)
                      refine lv_goto (tgt := 196) hx hb dX12_takesOver_213 (by decide) ?_
                      exact ih196 x_13 σ8 _ _ _ _ (cnt_m iv196_0 (Int32.not_le.mp c_12) hm196 ex_13) (cnt_0 iv196_0 (Int32.not_le.mp c_12) ex_13) (Deep.fr iv196_1 (by rw [eσ8, gI_ne _ _ _ (by decide)]) (by rw [eσ8, gI_ne _ _ _ (by decide)]) (by rw [eσ8, gI_ne _ _ _ (by decide)]) (by rw [eσ8, gI_ne _ _ _ (by decide)]) (by rw [eσ8, gI_ne _ _ _ (by decide)]) (by rw [eσ8, gI_ne _ _ _ (by decide)]) (by rw [eσ8, gI_ne _ _ _ (by decide)]) (by rw [eσ8, gI_ne _ _ _ (by decide)]) (by rw [eσ8, gI_ne _ _ _ (by decide)]) (by rw [eσ8, gI_ne _ _ _ (by decide)]) (by rw [eσ8, gI_ne _ _ _ (by decide)]) (by rw [eσ8, gI_ne _ _ _ (by decide)]) (by rw [eσ8, gI_ne _ _ _ (by decide)])) hIσ8 frσ8 hd0 hP hD hS (lv_sub hl [0, 1] rfl)
                · refine lv_aload_n hx hb dX12_takesOver_181 rfl (lv_at hl 1 rfl) ?_
                  refine va_get (D := (dC, dI)) (ci := 11) (v := .ref (ad 25)) (C := RX12) (T := TX12) (N := 69) hx hb hts hinX12 hown hK hP 0 (mat_11 rfl) rfl 58 (by decide) (hts (.fieldLink RX12 89 "BondCalendarsModel" "held" "[I") (by decide +kernel)) (fun _ h9 => h9) rfl dX12_takesOver_182 ?_
                  refine lv_iload_n hx hb dX12_takesOver_185 rfl (lv_at hl 0 rfl) ?_
                  refine lv_iconst (v := 0) hx hb dX12_takesOver_186 (by decide) ?_
                  refine va_iast hx hb hK hP hD hS 25 25 (mat_65 rfl) (mty_65 rfl) (gin (N := 4) (by decide) iv176_0 (Int32.not_le.mp c_11)) dX12_takesOver_187 (fun H locs hP hD hS => ?_)
                  obtain ⟨σ9, eσ9, hP, hD⟩ := gPut (mse_65 rfl) hP hD
                  have hIσ9 : InvM σ9 := by rw [eσ9]; exact minv_I hIσ176x (mok_65 rfl _ _)
                  have frσ9 : mFr [41, 42, 43, 44, 45, 46, 47, 48, 49, 50, 51, 52, 53, 54, 57, 58, 59, 60, 61, 62, 65, 66] [20, 21, 22, 28, 64, 68] σ σ9 := by rw [eσ9]; exact mFr.aI frσ176x (by decide) (by decide)
                  obtain ⟨x_14, ex_14⟩ : ∃ zz : Int32, zz = k1 + 1 := ⟨_, rfl⟩
                  refine lv_iinc (v := x_14) (lv' := [(1, .int x_14), (0, .ref (ad 0))]) hx hb dX12_takesOver_188 hl (k := 0) rfl (by rw [ex_14]; rfl) (by decide) rfl (fun ls hl => ?_)
                  refine lv_goto (tgt := 176) hx hb dX12_takesOver_191 (by decide) ?_
                  exact ih176 x_14 σ9 _ _ _ _ (cnt_m iv176_0 (Int32.not_le.mp c_11) hm176 ex_14) (cnt_0 iv176_0 (Int32.not_le.mp c_11) ex_14) (Deep.fr iv176_1 (by rw [eσ9, gI_ne _ _ _ (by decide)]) (by rw [eσ9, gI_ne _ _ _ (by decide)]) (by rw [eσ9, gI_ne _ _ _ (by decide)]) (by rw [eσ9, gI_ne _ _ _ (by decide)]) (by rw [eσ9, gI_ne _ _ _ (by decide)]) (by rw [eσ9, gI_ne _ _ _ (by decide)]) (by rw [eσ9, gI_ne _ _ _ (by decide)]) (by rw [eσ9, gI_ne _ _ _ (by decide)]) (by rw [eσ9, gI_ne _ _ _ (by decide)]) (by rw [eσ9, gI_ne _ _ _ (by decide)]) (by rw [eσ9, gI_ne _ _ _ (by decide)]) (by rw [eσ9, gI_ne _ _ _ (by decide)]) (by rw [eσ9, gI_ne _ _ _ (by decide)])) hIσ9 frσ9 hd0 hP hD hS (lv_sub hl [0, 1] rfl)
            · refine lv_aload_n hx hb dX12_takesOver_128 rfl (lv_at hl 1 rfl) ?_
              refine lv_iload_n hx hb dX12_takesOver_129 rfl (lv_at hl 0 rfl) ?_
              refine lv_iconst (v := 4) hx hb dX12_takesOver_130 (by decide) ?_
              refine lv_iload_n hx hb dX12_takesOver_131 rfl (lv_at hl 0 rfl) ?_
              refine lv_iadd hx hb dX12_takesOver_132 ?_
              refine lv_topi (fun x_15 ex_15 => ?_)
              have hF := gFree hD hS hA
              refine va_callvD hd0 (va_runV_D (As := [.int j1, .int x_15]) (rest := []) ⟨hx, hb, hml, hown, hts⟩ (n_X12_takesBond l dC dI ad cA adK adV H.size σ120x hIσ120x j1 x_15 iv120_0 (Int32.lt_trans (Int32.lt_of_lt_of_le (Int32.not_le.mp c_9) bd_8.2) (show (4 : Int32) < 8 by decide)) (Int32.le_of_lt (Int32.lt_of_lt_of_le (show (0 : Int32) < 4 by decide) (cadd (a := 0) (m := 3) (b := 4) (d := 7) iv120_0 (gl2 (b := 3) (Int32.lt_of_lt_of_le (Int32.not_le.mp c_9) bd_8.2) (by decide)) ex_15 (by decide) (by decide)).1)) (Int32.lt_of_le_of_lt (cadd (a := 0) (m := 3) (b := 4) (d := 7) iv120_0 (gl2 (b := 3) (Int32.lt_of_lt_of_le (Int32.not_le.mp c_9) bd_8.2) (by decide)) ex_15 (by decide) (by decide)).2 (show (7 : Int32) < 8 by decide))) (cwV 2 hts gX12_takesOver_X12_takesBond rfl rfl rfl (by decide +kernel) ⟨Nat.le_of_ble_eq_true rfl, Nat.le_of_ble_eq_true rfl⟩) ⟨gBlind, va_recv hK hP (ci := 11) (q0 := 0) rfl (mat_11 rfl), gStart (As := [.ref (ad 0), .int j1, .int x_15]) hP hD hK0 hT hS hF (d120)⟩ rfl rfl hl.1 rfl (lv_room (Nat.le_of_ble_eq_true rfl)) dX12_takesOver_133 ⟨Nat.le_of_ble_eq_true rfl, Nat.le_of_ble_eq_true rfl⟩) hS (fun q _ h => hF q h) hF (fun σ10 t H locs ht hvm hw hB hz1 hk1 hS d_17 hd0 => ?_)
              have hts := dr_words hts0 (d_17)
              have hK := gKd hK0 (d_17)
              have hown : (s.setDrawn (d_17)).vm.findClass RX12 = some m.cls := hown0
              obtain ⟨hP, hD⟩ := gBack hF ht hB
              obtain ⟨hIσ10, fcσ10, hp_18⟩ := hw
              refine lv_aload_n hx hb dX12_takesOver_136 rfl (lv_at hl 1 rfl) ?_
              refine lv_iload_n hx hb dX12_takesOver_137 rfl (lv_at hl 0 rfl) ?_
              have hF := gFree hD hS hA
              refine va_callvD hd0 (va_runV_D (As := [.int j1]) (rest := []) ⟨hx, hb, hml, hown, hts⟩ (n_X12_laysGrid l dC dI ad cA adK adV H.size σ10 hIσ10 j1 iv120_0 (Int32.lt_of_lt_of_le (Int32.not_le.mp c_9) bd_8.2) ((TB.row hp_18.1 (show mRow σ120x x_15.toNatClampNeg from (nc_c (c := 4) (x := j1) (y := x_15) (n := 4) (by decide) iv120_0 (Int32.le_of_lt (Int32.lt_trans (Int32.lt_of_lt_of_le (Int32.not_le.mp c_9) bd_8.2) (show (4 : Int32) < 1000 by decide))) (by decide) ex_15) ▸ iv120_1.1 _ (nc_lt iv120_0 (Int32.not_le.mp c_9)))).1) ((TB.row hp_18.1 (show mRow σ120x x_15.toNatClampNeg from (nc_c (c := 4) (x := j1) (y := x_15) (n := 4) (by decide) iv120_0 (Int32.le_of_lt (Int32.lt_trans (Int32.lt_of_lt_of_le (Int32.not_le.mp c_9) bd_8.2) (show (4 : Int32) < 1000 by decide))) (by decide) ex_15) ▸ iv120_1.1 _ (nc_lt iv120_0 (Int32.not_le.mp c_9)))).2.1)) (cwV 1 hts gX12_takesOver_X12_laysGrid rfl rfl rfl (by decide +kernel) ⟨Nat.le_of_ble_eq_true rfl, Nat.le_of_ble_eq_true rfl⟩) ⟨gBlind, va_recv hK hP (ci := 11) (q0 := 0) rfl (mat_11 rfl), gStart (As := [.ref (ad 0), .int j1]) hP hD hK0 hT hS hF (d_17)⟩ rfl rfl hl.1 rfl (lv_room (Nat.le_of_ble_eq_true rfl)) dX12_takesOver_138 ⟨Nat.le_of_ble_eq_true rfl, Nat.le_of_ble_eq_true rfl⟩) hS (fun q _ h => hF q h) hF (fun σ11 t H locs ht hvm hw hB hz1 hk1 hS d_20 hd0 => ?_)
              have hts := dr_words hts0 (d_20)
              have hK := gKd hK0 (d_20)
              have hown : (s.setDrawn (d_20)).vm.findClass RX12 = some m.cls := hown0
              obtain ⟨hP, hD⟩ := gBack hF ht hB
              obtain ⟨hIσ11, fcσ11, hp_21⟩ := hw
              refine lv_aload_n hx hb dX12_takesOver_141 rfl (lv_at hl 1 rfl) ?_
              refine lv_iload_n hx hb dX12_takesOver_142 rfl (lv_at hl 0 rfl) ?_
              have hF := gFree hD hS hA
              refine va_callvD hd0 (va_runV_D (As := [.int j1]) (rest := []) ⟨hx, hb, hml, hown, hts⟩ (n_X12_laysPeriods l dC dI ad cA adK adV H.size σ11 hIσ11 j1 iv120_0 (Int32.lt_of_lt_of_le (Int32.not_le.mp c_9) bd_8.2) hp_21.1 (mRow.same (TB.row hp_18.1 (show mRow σ120x x_15.toNatClampNeg from (nc_c (c := 4) (x := j1) (y := x_15) (n := 4) (by decide) iv120_0 (Int32.le_of_lt (Int32.lt_trans (Int32.lt_of_lt_of_le (Int32.not_le.mp c_9) bd_8.2) (show (4 : Int32) < 1000 by decide))) (by decide) ex_15) ▸ iv120_1.1 _ (nc_lt iv120_0 (Int32.not_le.mp c_9)))) ((fun j => ⟨by rw [fcσ11.1 2 (by decide) (by decide)], by rw [fcσ11.1 4 (by decide) (by decide)], by rw [fcσ11.1 5 (by decide) (by decide)], by rw [fcσ11.1 6 (by decide) (by decide)], by rw [fcσ11.1 7 (by decide) (by decide)], by rw [fcσ11.1 8 (by decide) (by decide)]⟩) _))) (cwV 1 hts gX12_takesOver_X12_laysPeriods rfl rfl rfl (by decide +kernel) ⟨Nat.le_of_ble_eq_true rfl, Nat.le_of_ble_eq_true rfl⟩) ⟨gBlind, va_recv hK hP (ci := 11) (q0 := 0) rfl (mat_11 rfl), gStart (As := [.ref (ad 0), .int j1]) hP hD hK0 hT hS hF (d_20)⟩ rfl rfl hl.1 rfl (lv_room (Nat.le_of_ble_eq_true rfl)) dX12_takesOver_143 ⟨Nat.le_of_ble_eq_true rfl, Nat.le_of_ble_eq_true rfl⟩) hS (fun q _ h => hF q h) hF (fun σ12 t H locs ht hvm hw hB hz1 hk1 hS d_23 hd0 => ?_)
              have hts := dr_words hts0 (d_23)
              have hK := gKd hK0 (d_23)
              have hown : (s.setDrawn (d_23)).vm.findClass RX12 = some m.cls := hown0
              obtain ⟨hP, hD⟩ := gBack hF ht hB
              obtain ⟨hIσ12, fcσ12, hp_24⟩ := hw
              obtain ⟨x_25, ex_25⟩ : ∃ zz : Int32, zz = j1 + 1 := ⟨_, rfl⟩
              refine lv_iinc (v := x_25) (lv' := [(1, .int x_25), (0, .ref (ad 0))]) hx hb dX12_takesOver_146 hl (k := 0) rfl (by rw [ex_25]; rfl) (by decide) rfl (fun ls hl => ?_)
              refine lv_goto (tgt := 120) hx hb dX12_takesOver_149 (by decide) ?_
              exact ih120 x_25 σ12 _ _ _ _ (cnt_m iv120_0 (Int32.lt_of_lt_of_le (Int32.not_le.mp c_9) bd_8.2) hm120 ex_25) (cnt_0 iv120_0 (Int32.lt_of_lt_of_le (Int32.not_le.mp c_9) bd_8.2) ex_25) (dr_s (f := x_15) iv120_1 iv120_2 iv120_3 hIσ120x iv120_0 (Int32.not_le.mp c_9) ex_15 ex_25 hp_18 (by rw [fcσ10.1 9 (by decide) (by decide)]) (by rw [fcσ10.1 11 (by decide) (by decide)]) (by rw [fcσ10.1 12 (by decide) (by decide)]) (by rw [fcσ10.1 17 (by decide) (by decide)]) (by rw [fcσ10.1 18 (by decide) (by decide)]) (by rw [fcσ10.2 20 (by decide)]) (by rw [fcσ10.2 21 (by decide)]) hp_21 (by rw [fcσ11.1 2 (by decide) (by decide)]) (by rw [fcσ11.1 4 (by decide) (by decide)]) (by rw [fcσ11.1 5 (by decide) (by decide)]) (by rw [fcσ11.1 6 (by decide) (by decide)]) (by rw [fcσ11.1 7 (by decide) (by decide)]) (by rw [fcσ11.1 8 (by decide) (by decide)]) (by rw [fcσ11.1 11 (by decide) (by decide)]) (by rw [fcσ11.1 12 (by decide) (by decide)]) (by rw [fcσ11.1 17 (by decide) (by decide)]) (by rw [fcσ11.1 18 (by decide) (by decide)]) (by rw [fcσ11.2 20 (by decide)]) (by rw [fcσ11.2 21 (by decide)]) hp_24 (by rw [fcσ12.1 2 (by decide) (by decide)]) (by rw [fcσ12.1 4 (by decide) (by decide)]) (by rw [fcσ12.1 5 (by decide) (by decide)]) (by rw [fcσ12.1 6 (by decide) (by decide)]) (by rw [fcσ12.1 7 (by decide) (by decide)]) (by rw [fcσ12.1 8 (by decide) (by decide)]) (by rw [fcσ12.1 9 (by decide) (by decide)]) (by rw [fcσ12.1 11 (by decide) (by decide)]) (by rw [fcσ12.1 12 (by decide) (by decide)]) (by rw [fcσ12.2 20 (by decide)]) (by rw [fcσ12.2 21 (by decide)])).1 (dr_s (f := x_15) iv120_1 iv120_2 iv120_3 hIσ120x iv120_0 (Int32.not_le.mp c_9) ex_15 ex_25 hp_18 (by rw [fcσ10.1 9 (by decide) (by decide)]) (by rw [fcσ10.1 11 (by decide) (by decide)]) (by rw [fcσ10.1 12 (by decide) (by decide)]) (by rw [fcσ10.1 17 (by decide) (by decide)]) (by rw [fcσ10.1 18 (by decide) (by decide)]) (by rw [fcσ10.2 20 (by decide)]) (by rw [fcσ10.2 21 (by decide)]) hp_21 (by rw [fcσ11.1 2 (by decide) (by decide)]) (by rw [fcσ11.1 4 (by decide) (by decide)]) (by rw [fcσ11.1 5 (by decide) (by decide)]) (by rw [fcσ11.1 6 (by decide) (by decide)]) (by rw [fcσ11.1 7 (by decide) (by decide)]) (by rw [fcσ11.1 8 (by decide) (by decide)]) (by rw [fcσ11.1 11 (by decide) (by decide)]) (by rw [fcσ11.1 12 (by decide) (by decide)]) (by rw [fcσ11.1 17 (by decide) (by decide)]) (by rw [fcσ11.1 18 (by decide) (by decide)]) (by rw [fcσ11.2 20 (by decide)]) (by rw [fcσ11.2 21 (by decide)]) hp_24 (by rw [fcσ12.1 2 (by decide) (by decide)]) (by rw [fcσ12.1 4 (by decide) (by decide)]) (by rw [fcσ12.1 5 (by decide) (by decide)]) (by rw [fcσ12.1 6 (by decide) (by decide)]) (by rw [fcσ12.1 7 (by decide) (by decide)]) (by rw [fcσ12.1 8 (by decide) (by decide)]) (by rw [fcσ12.1 9 (by decide) (by decide)]) (by rw [fcσ12.1 11 (by decide) (by decide)]) (by rw [fcσ12.1 12 (by decide) (by decide)]) (by rw [fcσ12.2 20 (by decide)]) (by rw [fcσ12.2 21 (by decide)])).2.1 (dr_s (f := x_15) iv120_1 iv120_2 iv120_3 hIσ120x iv120_0 (Int32.not_le.mp c_9) ex_15 ex_25 hp_18 (by rw [fcσ10.1 9 (by decide) (by decide)]) (by rw [fcσ10.1 11 (by decide) (by decide)]) (by rw [fcσ10.1 12 (by decide) (by decide)]) (by rw [fcσ10.1 17 (by decide) (by decide)]) (by rw [fcσ10.1 18 (by decide) (by decide)]) (by rw [fcσ10.2 20 (by decide)]) (by rw [fcσ10.2 21 (by decide)]) hp_21 (by rw [fcσ11.1 2 (by decide) (by decide)]) (by rw [fcσ11.1 4 (by decide) (by decide)]) (by rw [fcσ11.1 5 (by decide) (by decide)]) (by rw [fcσ11.1 6 (by decide) (by decide)]) (by rw [fcσ11.1 7 (by decide) (by decide)]) (by rw [fcσ11.1 8 (by decide) (by decide)]) (by rw [fcσ11.1 11 (by decide) (by decide)]) (by rw [fcσ11.1 12 (by decide) (by decide)]) (by rw [fcσ11.1 17 (by decide) (by decide)]) (by rw [fcσ11.1 18 (by decide) (by decide)]) (by rw [fcσ11.2 20 (by decide)]) (by rw [fcσ11.2 21 (by decide)]) hp_24 (by rw [fcσ12.1 2 (by decide) (by decide)]) (by rw [fcσ12.1 4 (by decide) (by decide)]) (by rw [fcσ12.1 5 (by decide) (by decide)]) (by rw [fcσ12.1 6 (by decide) (by decide)]) (by rw [fcσ12.1 7 (by decide) (by decide)]) (by rw [fcσ12.1 8 (by decide) (by decide)]) (by rw [fcσ12.1 9 (by decide) (by decide)]) (by rw [fcσ12.1 11 (by decide) (by decide)]) (by rw [fcσ12.1 12 (by decide) (by decide)]) (by rw [fcσ12.2 20 (by decide)]) (by rw [fcσ12.2 21 (by decide)])).2.2 hIσ12 (mFr.tr (mFr.tr (mFr.tr frσ120x fcσ10 (by decide) (by decide)) fcσ11 (by decide) (by decide)) fcσ12 (by decide) (by decide)) hd0 hP hD hS (lv_sub hl [0, 1] rfl)
        · refine lv_aload_n hx hb dX12_takesOver_67 rfl (lv_at hl 1 rfl) ?_
          refine va_get (D := (dC, dI)) (ci := 11) (v := .ref (ad 11)) (C := RX12) (T := TX12) (N := 69) hx hb hts hinX12 hown hK hP 0 (mat_11 rfl) rfl 15 (by decide) (hts (.fieldLink RX12 45 "BondCalendarsModel" "quoteBond" "[I") (by decide +kernel)) (fun _ h9 => h9) rfl dX12_takesOver_68 ?_
          refine lv_iload_n hx hb dX12_takesOver_71 rfl (lv_at hl 0 rfl) ?_
          refine lv_aload_n hx hb dX12_takesOver_72 rfl (lv_at hl 1 rfl) ?_
          refine va_get (D := (dC, dI)) (ci := 11) (v := .ref (ad 11)) (C := RX12) (T := TX12) (N := 69) hx hb hts hinX12 hown hK hP 0 (mat_11 rfl) rfl 15 (by decide) (hts (.fieldLink RX12 45 "BondCalendarsModel" "quoteBond" "[I") (by decide +kernel)) (fun _ h9 => h9) rfl dX12_takesOver_73 ?_
          refine lv_bipush (v := 6) hx hb dX12_takesOver_76 (by decide) ?_
          refine lv_iload_n hx hb dX12_takesOver_78 rfl (lv_at hl 0 rfl) ?_
          refine lv_iadd hx hb dX12_takesOver_79 ?_
          refine lv_topi (fun x_26 ex_26 => ?_)
          refine va_iald hx hb hK hP 11 11 (mat_51 rfl) (mty_51 rfl) (gin (N := 12) (by decide) (Int32.le_of_lt (Int32.lt_of_lt_of_le (show (0 : Int32) < 6 by decide) (cadd (a := 0) (m := 5) (b := 6) (d := 11) iv59_0 (gl2 (b := 5) (Int32.lt_of_lt_of_le (Int32.not_le.mp c_7) bd_6.2) (by decide)) ex_26 (by decide) (by decide)).1)) (Int32.lt_of_le_of_lt (cadd (a := 0) (m := 5) (b := 6) (d := 11) iv59_0 (gl2 (b := 5) (Int32.lt_of_lt_of_le (Int32.not_le.mp c_7) bd_6.2) (by decide)) ex_26 (by decide) (by decide)).2 (show (11 : Int32) < 12 by decide))) dX12_takesOver_80 ?_
          refine lv_topi (fun x_27 ex_27 => ?_)
          refine va_iast hx hb hK hP hD hS 11 11 (mat_51 rfl) (mty_51 rfl) (gin (N := 12) (by decide) iv59_0 (Int32.lt_trans (Int32.lt_of_lt_of_le (Int32.not_le.mp c_7) bd_6.2) (show (6 : Int32) < 12 by decide))) dX12_takesOver_81 (fun H locs hP hD hS => ?_)
          obtain ⟨σ13, eσ13, hP, hD⟩ := gPut (mse_51 rfl) hP hD
          have hIσ13 : InvM σ13 := by rw [eσ13]; exact minv_I hIσ59x (mok_51 rfl _ _)
          have frσ13 : mFr [41, 42, 43, 44, 45, 46, 47, 48, 49, 50, 51, 52, 53, 54, 57, 58, 59, 60, 61, 62, 65, 66] [20, 21, 22, 28, 64, 68] σ σ13 := by rw [eσ13]; exact mFr.aI frσ59x (by decide) (by decide)
          refine lv_aload_n hx hb dX12_takesOver_82 rfl (lv_at hl 1 rfl) ?_
          refine va_get (D := (dC, dI)) (ci := 11) (v := .ref (ad 12)) (C := RX12) (T := TX12) (N := 69) hx hb hts hinX12 hown hK hP 0 (mat_11 rfl) rfl 16 (by decide) (hts (.fieldLink RX12 48 "BondCalendarsModel" "quoteDate" "[I") (by decide +kernel)) (fun _ h9 => h9) rfl dX12_takesOver_83 ?_
          refine lv_iload_n hx hb dX12_takesOver_86 rfl (lv_at hl 0 rfl) ?_
          refine lv_aload_n hx hb dX12_takesOver_87 rfl (lv_at hl 1 rfl) ?_
          refine va_get (D := (dC, dI)) (ci := 11) (v := .ref (ad 12)) (C := RX12) (T := TX12) (N := 69) hx hb hts hinX12 hown hK hP 0 (mat_11 rfl) rfl 16 (by decide) (hts (.fieldLink RX12 48 "BondCalendarsModel" "quoteDate" "[I") (by decide +kernel)) (fun _ h9 => h9) rfl dX12_takesOver_88 ?_
          refine lv_bipush (v := 6) hx hb dX12_takesOver_91 (by decide) ?_
          refine lv_iload_n hx hb dX12_takesOver_93 rfl (lv_at hl 0 rfl) ?_
          refine lv_iadd hx hb dX12_takesOver_94 ?_
          refine lv_topi (fun x_28 ex_28 => ?_)
          refine va_iald hx hb hK hP 12 12 (mat_52 rfl) (mty_52 rfl) (gin (N := 12) (by decide) (Int32.le_of_lt (Int32.lt_of_lt_of_le (show (0 : Int32) < 6 by decide) (cadd (a := 0) (m := 5) (b := 6) (d := 11) iv59_0 (gl2 (b := 5) (Int32.lt_of_lt_of_le (Int32.not_le.mp c_7) bd_6.2) (by decide)) ex_28 (by decide) (by decide)).1)) (Int32.lt_of_le_of_lt (cadd (a := 0) (m := 5) (b := 6) (d := 11) iv59_0 (gl2 (b := 5) (Int32.lt_of_lt_of_le (Int32.not_le.mp c_7) bd_6.2) (by decide)) ex_28 (by decide) (by decide)).2 (show (11 : Int32) < 12 by decide))) dX12_takesOver_95 ?_
          refine lv_topi (fun x_29 ex_29 => ?_)
          have ex_29 : x_29 = ((σ59x 12).1 x_28.toNatClampNeg) := by rw [ex_29, eσ13, gI_ne _ _ _ (by decide)]
          refine va_iast hx hb hK hP hD hS 12 12 (mat_52 rfl) (mty_52 rfl) (gin (N := 12) (by decide) iv59_0 (Int32.lt_trans (Int32.lt_of_lt_of_le (Int32.not_le.mp c_7) bd_6.2) (show (6 : Int32) < 12 by decide))) dX12_takesOver_96 (fun H locs hP hD hS => ?_)
          obtain ⟨σ14, eσ14, hP, hD⟩ := gPut (mse_52 rfl) hP hD
          have hIσ14 : InvM σ14 := by rw [eσ14]; exact minv_I hIσ13 (mok_52 rfl _ _)
          have frσ14 : mFr [41, 42, 43, 44, 45, 46, 47, 48, 49, 50, 51, 52, 53, 54, 57, 58, 59, 60, 61, 62, 65, 66] [20, 21, 22, 28, 64, 68] σ σ14 := by rw [eσ14]; exact mFr.aI frσ13 (by decide) (by decide)
          refine lv_aload_n hx hb dX12_takesOver_97 rfl (lv_at hl 1 rfl) ?_
          refine va_get (D := (dC, dI)) (ci := 11) (v := .ref (ad 13)) (C := RX12) (T := TX12) (N := 69) hx hb hts hinX12 hown hK hP 0 (mat_11 rfl) rfl 17 (by decide) (hts (.fieldLink RX12 51 "BondCalendarsModel" "quotePrice" "[I") (by decide +kernel)) (fun _ h9 => h9) rfl dX12_takesOver_98 ?_
          refine lv_iload_n hx hb dX12_takesOver_101 rfl (lv_at hl 0 rfl) ?_
          refine lv_aload_n hx hb dX12_takesOver_102 rfl (lv_at hl 1 rfl) ?_
          refine va_get (D := (dC, dI)) (ci := 11) (v := .ref (ad 13)) (C := RX12) (T := TX12) (N := 69) hx hb hts hinX12 hown hK hP 0 (mat_11 rfl) rfl 17 (by decide) (hts (.fieldLink RX12 51 "BondCalendarsModel" "quotePrice" "[I") (by decide +kernel)) (fun _ h9 => h9) rfl dX12_takesOver_103 ?_
          refine lv_bipush (v := 6) hx hb dX12_takesOver_106 (by decide) ?_
          refine lv_iload_n hx hb dX12_takesOver_108 rfl (lv_at hl 0 rfl) ?_
          refine lv_iadd hx hb dX12_takesOver_109 ?_
          refine lv_topi (fun x_30 ex_30 => ?_)
          refine va_iald hx hb hK hP 13 13 (mat_53 rfl) (mty_53 rfl) (gin (N := 12) (by decide) (Int32.le_of_lt (Int32.lt_of_lt_of_le (show (0 : Int32) < 6 by decide) (cadd (a := 0) (m := 5) (b := 6) (d := 11) iv59_0 (gl2 (b := 5) (Int32.lt_of_lt_of_le (Int32.not_le.mp c_7) bd_6.2) (by decide)) ex_30 (by decide) (by decide)).1)) (Int32.lt_of_le_of_lt (cadd (a := 0) (m := 5) (b := 6) (d := 11) iv59_0 (gl2 (b := 5) (Int32.lt_of_lt_of_le (Int32.not_le.mp c_7) bd_6.2) (by decide)) ex_30 (by decide) (by decide)).2 (show (11 : Int32) < 12 by decide))) dX12_takesOver_110 ?_
          refine lv_topi (fun x_31 ex_31 => ?_)
          have ex_31 : x_31 = ((σ59x 13).1 x_30.toNatClampNeg) := by rw [ex_31, eσ14, gI_ne _ _ _ (by decide), eσ13, gI_ne _ _ _ (by decide)]
          refine va_iast hx hb hK hP hD hS 13 13 (mat_53 rfl) (mty_53 rfl) (gin (N := 12) (by decide) iv59_0 (Int32.lt_trans (Int32.lt_of_lt_of_le (Int32.not_le.mp c_7) bd_6.2) (show (6 : Int32) < 12 by decide))) dX12_takesOver_111 (fun H locs hP hD hS => ?_)
          obtain ⟨σ15, eσ15, hP, hD⟩ := gPut (mse_53 rfl) hP hD
          have hIσ15 : InvM σ15 := by rw [eσ15]; exact minv_I hIσ14 (mok_53 rfl _ _)
          have frσ15 : mFr [41, 42, 43, 44, 45, 46, 47, 48, 49, 50, 51, 52, 53, 54, 57, 58, 59, 60, 61, 62, 65, 66] [20, 21, 22, 28, 64, 68] σ σ15 := by rw [eσ15]; exact mFr.aI frσ14 (by decide) (by decide)
          obtain ⟨x_32, ex_32⟩ : ∃ zz : Int32, zz = i1 + 1 := ⟨_, rfl⟩
          refine lv_iinc (v := x_32) (lv' := [(1, .int x_32), (0, .ref (ad 0))]) hx hb dX12_takesOver_112 hl (k := 0) rfl (by rw [ex_32]; rfl) (by decide) rfl (fun ls hl => ?_)
          refine lv_goto (tgt := 59) hx hb dX12_takesOver_115 (by decide) ?_
          exact ih59 x_32 σ15 _ _ _ _ (cnt_m iv59_0 (Int32.lt_of_lt_of_le (Int32.not_le.mp c_7) bd_6.2) hm59 ex_32) (cnt_0 iv59_0 (Int32.lt_of_lt_of_le (Int32.not_le.mp c_7) bd_6.2) ex_32) (ql_s (j := x_26) (j' := x_28) (v := x_27) (v' := x_29) iv59_1 iv59_2 iv59_0 (Int32.not_le.mp c_7) bd_6.2 ex_26 ex_28 ex_27 ex_29 (by rw [eσ15, gI_ne _ _ _ (by decide), eσ14, gI_ne _ _ _ (by decide), eσ13, gI_at]) (by rw [eσ15, gI_ne _ _ _ (by decide), eσ14, gI_at, eσ13, gI_ne _ _ _ (by decide)]) (fun j => ⟨by rw [eσ15, gI_ne _ _ _ (by decide), eσ14, gI_ne _ _ _ (by decide), eσ13, gI_ne _ _ _ (by decide)], by rw [eσ15, gI_ne _ _ _ (by decide), eσ14, gI_ne _ _ _ (by decide), eσ13, gI_ne _ _ _ (by decide)], by rw [eσ15, gI_ne _ _ _ (by decide), eσ14, gI_ne _ _ _ (by decide), eσ13, gI_ne _ _ _ (by decide)], by rw [eσ15, gI_ne _ _ _ (by decide), eσ14, gI_ne _ _ _ (by decide), eσ13, gI_ne _ _ _ (by decide)], by rw [eσ15, gI_ne _ _ _ (by decide), eσ14, gI_ne _ _ _ (by decide), eσ13, gI_ne _ _ _ (by decide)], by rw [eσ15, gI_ne _ _ _ (by decide), eσ14, gI_ne _ _ _ (by decide), eσ13, gI_ne _ _ _ (by decide)]⟩) (by rw [eσ15, gI_ne _ _ _ (by decide), eσ14, gI_ne _ _ _ (by decide), eσ13, gI_ne _ _ _ (by decide)]) (by rw [eσ15, gI_ne _ _ _ (by decide), eσ14, gI_ne _ _ _ (by decide), eσ13, gI_ne _ _ _ (by decide)]) ex_32).1 (ql_s (j := x_26) (j' := x_28) (v := x_27) (v' := x_29) iv59_1 iv59_2 iv59_0 (Int32.not_le.mp c_7) bd_6.2 ex_26 ex_28 ex_27 ex_29 (by rw [eσ15, gI_ne _ _ _ (by decide), eσ14, gI_ne _ _ _ (by decide), eσ13, gI_at]) (by rw [eσ15, gI_ne _ _ _ (by decide), eσ14, gI_at, eσ13, gI_ne _ _ _ (by decide)]) (fun j => ⟨by rw [eσ15, gI_ne _ _ _ (by decide), eσ14, gI_ne _ _ _ (by decide), eσ13, gI_ne _ _ _ (by decide)], by rw [eσ15, gI_ne _ _ _ (by decide), eσ14, gI_ne _ _ _ (by decide), eσ13, gI_ne _ _ _ (by decide)], by rw [eσ15, gI_ne _ _ _ (by decide), eσ14, gI_ne _ _ _ (by decide), eσ13, gI_ne _ _ _ (by decide)], by rw [eσ15, gI_ne _ _ _ (by decide), eσ14, gI_ne _ _ _ (by decide), eσ13, gI_ne _ _ _ (by decide)], by rw [eσ15, gI_ne _ _ _ (by decide), eσ14, gI_ne _ _ _ (by decide), eσ13, gI_ne _ _ _ (by decide)], by rw [eσ15, gI_ne _ _ _ (by decide), eσ14, gI_ne _ _ _ (by decide), eσ13, gI_ne _ _ _ (by decide)]⟩) (by rw [eσ15, gI_ne _ _ _ (by decide), eσ14, gI_ne _ _ _ (by decide), eσ13, gI_ne _ _ _ (by decide)]) (by rw [eσ15, gI_ne _ _ _ (by decide), eσ14, gI_ne _ _ _ (by decide), eσ13, gI_ne _ _ _ (by decide)]) ex_32).2 hIσ15 frσ15 hd0 hP hD hS (lv_sub hl [0, 1] rfl)
    · refine lv_aload_n hx hb dX12_takesOver_39 rfl (lv_at hl 1 rfl) ?_
      refine va_get (D := (dC, dI)) (ci := 11) (v := .ref (ad 14)) (C := RX12) (T := TX12) (N := 69) hx hb hts hinX12 hown hK hP 0 (mat_11 rfl) rfl 18 (by decide) (hts (.fieldLink RX12 54 "BondCalendarsModel" "free" "[I") (by decide +kernel)) (fun _ h9 => h9) rfl dX12_takesOver_40 ?_
      refine lv_iload_n hx hb dX12_takesOver_43 rfl (lv_at hl 0 rfl) ?_
      refine lv_aload_n hx hb dX12_takesOver_44 rfl (lv_at hl 1 rfl) ?_
      refine va_get (D := (dC, dI)) (ci := 11) (v := .ref (ad 15)) (C := RX12) (T := TX12) (N := 69) hx hb hts hinX12 hown hK hP 0 (mat_11 rfl) rfl 19 (by decide) (hts (.fieldLink RX12 57 "BondCalendarsModel" "readFree" "[I") (by decide +kernel)) (fun _ h9 => h9) rfl dX12_takesOver_45 ?_
      refine lv_iload_n hx hb dX12_takesOver_48 rfl (lv_at hl 0 rfl) ?_
      refine va_iald hx hb hK hP 15 15 (mat_55 rfl) (mty_55 rfl) (gin (N := 10) (by decide) iv31_0 (Int32.lt_of_lt_of_le (Int32.not_le.mp c_5) bd_4.2)) dX12_takesOver_49 ?_
      refine lv_topi (fun x_33 ex_33 => ?_)
      have ex_33 : x_33 = ((σ 15).1 i0.toNatClampNeg) := by rw [ex_33, frσ31x.1 15 (by decide) (by decide)]
      have bd_34 := mrd_55 (c := 15) hI rfl i0.toNatClampNeg
      refine va_iast hx hb hK hP hD hS 14 14 (mat_54 rfl) (mty_54 rfl) (gin (N := 10) (by decide) iv31_0 (Int32.lt_of_lt_of_le (Int32.not_le.mp c_5) bd_4.2)) dX12_takesOver_50 (fun H locs hP hD hS => ?_)
      obtain ⟨σ16, eσ16, hP, hD⟩ := gPut (mse_54 rfl) hP hD
      have hIσ16 : InvM σ16 := by rw [eσ16]; exact minv_I hIσ31x (mok_54 rfl _ _ ⟨(Int32.le_trans bd_34.1 (eq_le ex_33.symm)), (Int32.le_trans (eq_le ex_33) bd_34.2)⟩)
      have frσ16 : mFr [41, 42, 43, 44, 45, 46, 47, 48, 49, 50, 51, 52, 53, 54, 57, 58, 59, 60, 61, 62, 65, 66] [20, 21, 22, 28, 64, 68] σ σ16 := by rw [eσ16]; exact mFr.aI frσ31x (by decide) (by decide)
      obtain ⟨x_35, ex_35⟩ : ∃ zz : Int32, zz = i0 + 1 := ⟨_, rfl⟩
      refine lv_iinc (v := x_35) (lv' := [(1, .int x_35), (0, .ref (ad 0))]) hx hb dX12_takesOver_51 hl (k := 0) rfl (by rw [ex_35]; rfl) (by decide) rfl (fun ls hl => ?_)
      refine lv_goto (tgt := 31) hx hb dX12_takesOver_54 (by decide) ?_
      exact ih31 x_35 σ16 _ _ _ _ (cnt_m iv31_0 (Int32.lt_of_lt_of_le (Int32.not_le.mp c_5) bd_4.2) hm31 ex_35) (cnt_0 iv31_0 (Int32.lt_of_lt_of_le (Int32.not_le.mp c_5) bd_4.2) ex_35) (mT0.fr iv31_1 (fun j => ⟨by rw [eσ16, gI_ne _ _ _ (by decide)], by rw [eσ16, gI_ne _ _ _ (by decide)], by rw [eσ16, gI_ne _ _ _ (by decide)], by rw [eσ16, gI_ne _ _ _ (by decide)], by rw [eσ16, gI_ne _ _ _ (by decide)], by rw [eσ16, gI_ne _ _ _ (by decide)]⟩) (by rw [eσ16, gI_ne _ _ _ (by decide)]) (by rw [eσ16, gI_ne _ _ _ (by decide)]) (by rw [eσ16, gI_ne _ _ _ (by decide)]) (by rw [eσ16, gI_ne _ _ _ (by decide)])) hIσ16 frσ16 hd0 hP hD hS (lv_sub hl [0, 1] rfl)
set_option maxHeartbeats 8000000 in
set_option maxRecDepth 100000 in
theorem n_X12_desk (l : Launch) (dC : Nat → ClassId) (dI : Nat → Nat → Nat) (ad : Nat → Nat) (cA : Nat → ClassId) (adK adV : Nat → Nat) (sz : Nat) (σ : gs) (hI : InvM σ) (p0 : Int32) (hh0 : Deep σ) : MetD lw_cs l yX12_desk wsX12_desk ({ frames := 11, cells := 0, slots := 0, locals := 233 }) (va_Pc [.ref (ad 0), .int p0] (gPre adK adV (dC, dI) (wM ad cA σ) (tM cA) sz)) (va_Qi (fun (r : Int32) (τ : gs) => InvM τ ∧ mFr [41, 42, 43, 44, 45, 46, 47, 48, 49, 50, 51, 52, 53, 54, 55, 57, 58, 59, 60, 61, 62, 65, 66] [0, 1, 2, 20, 21, 22, 23, 24, 25, 26, 27, 28, 29, 31, 32, 33, 34, 35, 36, 37, 64, 68] σ τ ∧ (Deep τ)) (fun τ t => gPost (dC, dI) (va_A (wM ad cA σ) sz) (wM ad cA τ) t) (va_A (wM ad cA σ) sz)) 0 0 (va_A (wM ad cA σ) sz) := by
  refine MetD.ofW (cc := cX12_desk) (maxL := 2) (ret := (some .int)) (by decide) rfl ?_
  intro p e s m args below meth c s₁ B hml hv hd0
  obtain ⟨rfl, hsz, hP, hK, hD0, hT⟩ := hv
  have hx := B.exec
  have hb := B.bytes
  have hr := B.returns
  have hts0 := atoms_spec (ws := wsX12_desk) B.pre
  have hK0 := hK
  have hown0 : s.vm.findClass RX12 = some m.cls := findClass_of_methodNamed B.named
  have hlocks := B.notSynchronized
  have hinX12 : ∀ w ∈ u_ws RX12 TX12 69, w ∈ wsX12_desk := (fun _ h9 => List.mem_cons_of_mem _ (List.mem_append_right _ h9))
  subst hsz
  have hD := hD0.self (sz := s.heap.size)
  generalize hAe : va_A (wM ad cA σ) s.heap.size = A at hD hT ⊢
  have hA : ∀ q : Nat, s.heap.size ≤ q → A q := fun q h => by rw [← hAe]; exact Or.inr h
  have hS : va_S A s.heap s.heap [] := va_S.rf
  have hl := lv_entry ([.ref (ad 0), .int p0]) (n := 2) (Nat.le_of_ble_eq_true rfl)
  rw [lg_entry_eq]
  generalize (lg_sl ([.ref (ad 0), .int p0]) ++ List.replicate (2 - (lg_sl ([.ref (ad 0), .int p0])).length) Slot.unset).toArray = ls at hl ⊢
  have hl : lv_has ls 2 [(0, .ref (ad 0)), (1, .int p0)] := hl
  have hts := dr_words hts0 (s.drawn)
  have hK := gKd hK0 (s.drawn)
  have hown : (s.setDrawn (s.drawn)).vm.findClass RX12 = some m.cls := hown0
  refine lv_aload_n hx hb dX12_desk_0 rfl (lv_at hl 0 rfl) ?_
  refine lv_iconst (v := 0) hx hb dX12_desk_1 (by decide) ?_
  refine va_put (D := (dC, dI)) (ci := 11) (v := .int 0) (C := RX12) (T := TX12) (N := 69) hx hb hts hinX12 tyX12 tyX12_ok nmX12 hown hK hP hD hS 0 (mat_11 rfl) rfl 0 (by decide) (hts (.fieldLink RX12 107 "BondCalendarsModel" "thrown" "I") (by decide +kernel)) (fun _ h9 => h9) rfl (ty := .int) (by decide +kernel) rfl rfl (Nat.le_of_ble_eq_true rfl) dX12_desk_2 (fun H locs hP hD hS => ?_)
  obtain ⟨σ1, eσ1, hP, hD⟩ := gPut (mse_11_0 rfl) hP hD
  have hIσ1 : InvM σ1 := by rw [eσ1]; exact minv_I hI (mok_11_0 rfl _)
  have frσ1 : mFr [41, 42, 43, 44, 45, 46, 47, 48, 49, 50, 51, 52, 53, 54, 55, 57, 58, 59, 60, 61, 62, 65, 66] [0, 1, 2, 20, 21, 22, 23, 24, 25, 26, 27, 28, 29, 31, 32, 33, 34, 35, 36, 37, 64, 68] σ σ1 := by rw [eσ1]; exact mFr.oI (mFr.rfl (L := [41, 42, 43, 44, 45, 46, 47, 48, 49, 50, 51, 52, 53, 54, 55, 57, 58, 59, 60, 61, 62, 65, 66]) (F := [0, 1, 2, 20, 21, 22, 23, 24, 25, 26, 27, 28, 29, 31, 32, 33, 34, 35, 36, 37, 64, 68]) (σ := σ)) (by decide)
  refine lv_iload_n hx hb dX12_desk_5 rfl (lv_at hl 1 rfl) ?_
  refine lv_if_lt (tgt := 17) hx hb dX12_desk_6 (by decide) (fun c_1 => ?_) (fun c_1 => ?_)
  · refine lv_aload_n hx hb dX12_desk_17 rfl (lv_at hl 0 rfl) ?_
    refine lv_iconst (v := 2) hx hb dX12_desk_18 (by decide) ?_
    have hF := gFree hD hS hA
    refine va_calliD hd0 (va_runV_D (As := [.int 2]) (rest := []) ⟨hx, hb, hml, hown, hts⟩ (n_X12_refused l dC dI ad cA adK adV H.size σ1 hIσ1 2) (cwV 1 hts gX12_desk_X12_refused rfl rfl rfl (by decide +kernel) ⟨Nat.le_of_ble_eq_true rfl, Nat.le_of_ble_eq_true rfl⟩) ⟨gBlind, va_recv hK hP (ci := 11) (q0 := 0) rfl (mat_11 rfl), gStart (As := [.ref (ad 0), .int 2]) hP hD hK0 hT hS hF (s.drawn)⟩ rfl rfl hl.1 rfl (lv_room (Nat.le_of_ble_eq_true rfl)) dX12_desk_19 ⟨Nat.le_of_ble_eq_true rfl, Nat.le_of_ble_eq_true rfl⟩) hS (fun q _ h => hF q h) hF (fun r_2 σ2 t H locs ht hvm hw hB hz1 hk1 hS d_3 hd0 => ?_)
    have hts := dr_words hts0 (d_3)
    have hK := gKd hK0 (d_3)
    have hown : (s.setDrawn (d_3)).vm.findClass RX12 = some m.cls := hown0
    obtain ⟨hP, hD⟩ := gBack hF ht hB
    obtain ⟨hIσ2, fcσ2, hp_4⟩ := hw
    refine W.endD hd0 ?_
    exact W.iret (v := r_2) hx hb hr (fun t ht hW => ⟨⟨r_2, σ2, rfl, ⟨hIσ2, (mFr.tr frσ1 fcσ2 (by decide) (by decide)), (Deep.fr hh0 (by rw [fcσ2.1 2 (by decide) (by decide), eσ1, gI_ne _ _ _ (by decide)]) (by rw [fcσ2.1 4 (by decide) (by decide), eσ1, gI_ne _ _ _ (by decide)]) (by rw [fcσ2.1 9 (by decide) (by decide), eσ1, gI_ne _ _ _ (by decide)]) (by rw [fcσ2.1 11 (by decide) (by decide), eσ1, gI_ne _ _ _ (by decide)]) (by rw [fcσ2.1 12 (by decide) (by decide), eσ1, gI_ne _ _ _ (by decide)]) (by rw [fcσ2.1 17 (by decide) (by decide), eσ1, gI_ne _ _ _ (by decide)]) (by rw [fcσ2.1 18 (by decide) (by decide), eσ1, gI_ne _ _ _ (by decide)]) (by rw [fcσ2.2 20 (by decide), eσ1, gI_oth _ _ _ (by decide)]) (by rw [fcσ2.2 21 (by decide), eσ1, gI_oth _ _ _ (by decide)]) (by rw [fcσ2.2 28 (by decide), eσ1, gI_oth _ _ _ (by decide)]) (by rw [fcσ2.2 64 (by decide), eσ1, gI_oth _ _ _ (by decide)]) (by rw [fcσ2.2 65 (by decide), eσ1, gI_oth _ _ _ (by decide)]) (by rw [fcσ2.2 68 (by decide), eσ1, gI_oth _ _ _ (by decide)]))⟩, ⟨by rw [ht]; exact hP, hD⟩⟩, hS.F ht⟩) hS.2.2 dX12_desk_22
  · refine lv_iload_n hx hb dX12_desk_9 rfl (lv_at hl 1 rfl) ?_
    refine lv_aload_n hx hb dX12_desk_10 rfl (lv_at hl 0 rfl) ?_
    have bd_5 := mrd_11_31 (c := 0) hI rfl
    refine va_get (D := (dC, dI)) (ci := 11) (v := .int ((σ 0).1 31)) (C := RX12) (T := TX12) (N := 69) hx hb hts hinX12 hown hK hP 0 (mat_11 rfl) rfl 31 (by decide) (hts (.fieldLink RX12 349 "BondCalendarsModel" "taped" "I") (by decide +kernel)) (fun _ h9 => h9) (congrArg (fun z => some (Value.int z)) (show (σ1 0).1 31 = ((σ 0).1 31) from by rw [eσ1, gI_oth _ _ _ (by decide)])) dX12_desk_11 ?_
    refine lv_icmp_le (tgt := 23) hx hb dX12_desk_14 (by decide) (fun c_6 => ?_) (fun c_6 => ?_)
    · refine lv_aload_n hx hb dX12_desk_23 rfl (lv_at hl 0 rfl) ?_
      refine lv_iload_n hx hb dX12_desk_24 rfl (lv_at hl 1 rfl) ?_
      refine va_put (D := (dC, dI)) (ci := 11) (v := .int p0) (C := RX12) (T := TX12) (N := 69) hx hb hts hinX12 tyX12 tyX12_ok nmX12 hown hK hP hD hS 0 (mat_11 rfl) rfl 32 (by decide) (hts (.fieldLink RX12 189 "BondCalendarsModel" "size" "I") (by decide +kernel)) (fun _ h9 => h9) rfl (ty := .int) (by decide +kernel) rfl rfl (Nat.le_of_ble_eq_true rfl) dX12_desk_25 (fun H locs hP hD hS => ?_)
      obtain ⟨σ3, eσ3, hP, hD⟩ := gPut (mse_11_32 rfl) hP hD
      have hIσ3 : InvM σ3 := by rw [eσ3]; exact minv_I hIσ1 (mok_11_32 rfl _ ⟨(Int32.not_lt.mp c_1), (Int32.le_trans c_6 bd_5.2)⟩)
      have frσ3 : mFr [41, 42, 43, 44, 45, 46, 47, 48, 49, 50, 51, 52, 53, 54, 55, 57, 58, 59, 60, 61, 62, 65, 66] [0, 1, 2, 20, 21, 22, 23, 24, 25, 26, 27, 28, 29, 31, 32, 33, 34, 35, 36, 37, 64, 68] σ σ3 := by rw [eσ3]; exact mFr.oI frσ1 (by decide)
      refine lv_aload_n hx hb dX12_desk_28 rfl (lv_at hl 0 rfl) ?_
      refine lv_iconst (v := 0) hx hb dX12_desk_29 (by decide) ?_
      refine va_put (D := (dC, dI)) (ci := 11) (v := .int 0) (C := RX12) (T := TX12) (N := 69) hx hb hts hinX12 tyX12 tyX12_ok nmX12 hown hK hP hD hS 0 (mat_11 rfl) rfl 31 (by decide) (hts (.fieldLink RX12 349 "BondCalendarsModel" "taped" "I") (by decide +kernel)) (fun _ h9 => h9) rfl (ty := .int) (by decide +kernel) rfl rfl (Nat.le_of_ble_eq_true rfl) dX12_desk_30 (fun H locs hP hD hS => ?_)
      obtain ⟨σ4, eσ4, hP, hD⟩ := gPut (mse_11_31 rfl) hP hD
      have hIσ4 : InvM σ4 := by rw [eσ4]; exact minv_I hIσ3 (mok_11_31 rfl _ ⟨(show (0 : Int32) ≤ 0 by decide), (show (0 : Int32) ≤ 900 by decide)⟩)
      have frσ4 : mFr [41, 42, 43, 44, 45, 46, 47, 48, 49, 50, 51, 52, 53, 54, 55, 57, 58, 59, 60, 61, 62, 65, 66] [0, 1, 2, 20, 21, 22, 23, 24, 25, 26, 27, 28, 29, 31, 32, 33, 34, 35, 36, 37, 64, 68] σ σ4 := by rw [eσ4]; exact mFr.oI frσ3 (by decide)
      refine lv_aload_n hx hb dX12_desk_33 rfl (lv_at hl 0 rfl) ?_
      refine lv_iconst (v := 0) hx hb dX12_desk_34 (by decide) ?_
      refine va_put (D := (dC, dI)) (ci := 11) (v := .int 0) (C := RX12) (T := TX12) (N := 69) hx hb hts hinX12 tyX12 tyX12_ok nmX12 hown hK hP hD hS 0 (mat_11 rfl) rfl 33 (by decide) (hts (.fieldLink RX12 195 "BondCalendarsModel" "spot" "I") (by decide +kernel)) (fun _ h9 => h9) rfl (ty := .int) (by decide +kernel) rfl rfl (Nat.le_of_ble_eq_true rfl) dX12_desk_35 (fun H locs hP hD hS => ?_)
      obtain ⟨σ5, eσ5, hP, hD⟩ := gPut (mse_11_33 rfl) hP hD
      have hIσ5 : InvM σ5 := by rw [eσ5]; exact minv_I hIσ4 (mok_11_33 rfl _ ⟨(show (0 : Int32) ≤ 0 by decide), (show (0 : Int32) ≤ 900 by decide)⟩)
      have frσ5 : mFr [41, 42, 43, 44, 45, 46, 47, 48, 49, 50, 51, 52, 53, 54, 55, 57, 58, 59, 60, 61, 62, 65, 66] [0, 1, 2, 20, 21, 22, 23, 24, 25, 26, 27, 28, 29, 31, 32, 33, 34, 35, 36, 37, 64, 68] σ σ5 := by rw [eσ5]; exact mFr.oI frσ4 (by decide)
      refine lv_aload_n hx hb dX12_desk_38 rfl (lv_at hl 0 rfl) ?_
      refine lv_iconst (v := 0) hx hb dX12_desk_39 (by decide) ?_
      refine va_put (D := (dC, dI)) (ci := 11) (v := .int 0) (C := RX12) (T := TX12) (N := 69) hx hb hts hinX12 tyX12 tyX12_ok nmX12 hown hK hP hD hS 0 (mat_11 rfl) rfl 37 (by decide) (hts (.fieldLink RX12 192 "BondCalendarsModel" "fault" "I") (by decide +kernel)) (fun _ h9 => h9) rfl (ty := .int) (by decide +kernel) rfl rfl (Nat.le_of_ble_eq_true rfl) dX12_desk_40 (fun H locs hP hD hS => ?_)
      obtain ⟨σ6, eσ6, hP, hD⟩ := gPut (mse_11_37 rfl) hP hD
      have hIσ6 : InvM σ6 := by rw [eσ6]; exact minv_I hIσ5 (mok_11_37 rfl _ (show (0 : Int32) ≤ 0 by decide))
      have frσ6 : mFr [41, 42, 43, 44, 45, 46, 47, 48, 49, 50, 51, 52, 53, 54, 55, 57, 58, 59, 60, 61, 62, 65, 66] [0, 1, 2, 20, 21, 22, 23, 24, 25, 26, 27, 28, 29, 31, 32, 33, 34, 35, 36, 37, 64, 68] σ σ6 := by rw [eσ6]; exact mFr.oI frσ5 (by decide)
      refine lv_aload_n hx hb dX12_desk_43 rfl (lv_at hl 0 rfl) ?_
      have hF := gFree hD hS hA
      refine va_callvD hd0 (va_runV_D (As := []) (rest := []) ⟨hx, hb, hml, hown, hts⟩ (n_X12_readAll l dC dI ad cA adK adV H.size σ6 hIσ6 (le_ch (show ((σ6 0).1 37 : Int32) = (0 : Int32) from by rw [eσ6, gI_self]) (Eq.refl _) (show (0 : Int32) ≤ 0 by decide))) (cwV 0 hts gX12_desk_X12_readAll rfl rfl rfl (by decide +kernel) ⟨Nat.le_of_ble_eq_true rfl, Nat.le_of_ble_eq_true rfl⟩) ⟨gBlind, va_recv hK hP (ci := 11) (q0 := 0) rfl (mat_11 rfl), gStart (As := [.ref (ad 0)]) hP hD hK0 hT hS hF (s.drawn)⟩ rfl rfl hl.1 rfl (lv_room (Nat.le_of_ble_eq_true rfl)) dX12_desk_44 ⟨Nat.le_of_ble_eq_true rfl, Nat.le_of_ble_eq_true rfl⟩) hS (fun q _ h => hF q h) hF (fun σ7 t H locs ht hvm hw hB hz1 hk1 hS d_8 hd0 => ?_)
      have hts := dr_words hts0 (d_8)
      have hK := gKd hK0 (d_8)
      have hown : (s.setDrawn (d_8)).vm.findClass RX12 = some m.cls := hown0
      obtain ⟨hP, hD⟩ := gBack hF ht hB
      obtain ⟨hIσ7, fcσ7, hp_9⟩ := hw
      have lw_10 : LOW σ σ7 := LOW.tr (LOW.cells (by rw [eσ6, gI_ne _ _ _ (by decide), eσ5, gI_ne _ _ _ (by decide), eσ4, gI_ne _ _ _ (by decide), eσ3, gI_ne _ _ _ (by decide), eσ1, gI_ne _ _ _ (by decide)]) (by rw [eσ6, gI_ne _ _ _ (by decide), eσ5, gI_ne _ _ _ (by decide), eσ4, gI_ne _ _ _ (by decide), eσ3, gI_ne _ _ _ (by decide), eσ1, gI_ne _ _ _ (by decide)]) (by rw [eσ6, gI_ne _ _ _ (by decide), eσ5, gI_ne _ _ _ (by decide), eσ4, gI_ne _ _ _ (by decide), eσ3, gI_ne _ _ _ (by decide), eσ1, gI_ne _ _ _ (by decide)]) (by rw [eσ6, gI_ne _ _ _ (by decide), eσ5, gI_ne _ _ _ (by decide), eσ4, gI_ne _ _ _ (by decide), eσ3, gI_ne _ _ _ (by decide), eσ1, gI_ne _ _ _ (by decide)])) hp_9.2.1
      refine lv_aload_n hx hb dX12_desk_47 rfl (lv_at hl 0 rfl) ?_
      have bd_11 := mrd_11_37 (c := 0) hIσ7 rfl
      refine va_get (D := (dC, dI)) (ci := 11) (v := .int ((σ7 0).1 37)) (C := RX12) (T := TX12) (N := 69) hx hb hts hinX12 hown hK hP 0 (mat_11 rfl) rfl 37 (by decide) (hts (.fieldLink RX12 192 "BondCalendarsModel" "fault" "I") (by decide +kernel)) (fun _ h9 => h9) rfl dX12_desk_48 ?_
      refine lv_if_le (tgt := 69) hx hb dX12_desk_51 (by decide) (fun c_12 => ?_) (fun c_12 => ?_)
      · refine lv_aload_n hx hb dX12_desk_69 rfl (lv_at hl 0 rfl) ?_
        have hF := gFree hD hS hA
        refine va_callvD hd0 (va_runV_D (As := []) (rest := []) ⟨hx, hb, hml, hown, hts⟩ (n_X12_takesOver l dC dI ad cA adK adV H.size σ7 hIσ7 hp_9.1 c_12 ((hp_9.2.2) c_12)) (cwV 0 hts gX12_desk_X12_takesOver rfl rfl rfl (by decide +kernel) ⟨Nat.le_of_ble_eq_true rfl, Nat.le_of_ble_eq_true rfl⟩) ⟨gBlind, va_recv hK hP (ci := 11) (q0 := 0) rfl (mat_11 rfl), gStart (As := [.ref (ad 0)]) hP hD hK0 hT hS hF (d_8)⟩ rfl rfl hl.1 rfl (lv_room (Nat.le_of_ble_eq_true rfl)) dX12_desk_70 ⟨Nat.le_of_ble_eq_true rfl, Nat.le_of_ble_eq_true rfl⟩) hS (fun q _ h => hF q h) hF (fun σ8 t H locs ht hvm hw hB hz1 hk1 hS d_14 hd0 => ?_)
        have hts := dr_words hts0 (d_14)
        have hK := gKd hK0 (d_14)
        have hown : (s.setDrawn (d_14)).vm.findClass RX12 = some m.cls := hown0
        obtain ⟨hP, hD⟩ := gBack hF ht hB
        obtain ⟨hIσ8, fcσ8, hp_15⟩ := hw
        refine lv_aload_n hx hb dX12_desk_73 rfl (lv_at hl 0 rfl) ?_
        refine lv_aload_n hx hb dX12_desk_74 rfl (lv_at hl 0 rfl) ?_
        have bd_16 := mrd_11_20 (c := 0) hIσ8 rfl
        refine va_get (D := (dC, dI)) (ci := 11) (v := .int ((σ8 0).1 20)) (C := RX12) (T := TX12) (N := 69) hx hb hts hinX12 hown hK hP 0 (mat_11 rfl) rfl 20 (by decide) (hts (.fieldLink RX12 358 "BondCalendarsModel" "bonds" "I") (by decide +kernel)) (fun _ h9 => h9) rfl dX12_desk_75 ?_
        have hF := gFree hD hS hA
        refine va_calliD hd0 (va_runV_D (As := [.int ((σ8 0).1 20)]) (rest := []) ⟨hx, hb, hml, hown, hts⟩ (n_X12_good l dC dI ad cA adK adV H.size σ8 hIσ8 ((σ8 0).1 20)) (cwV 1 hts gX12_desk_X12_good rfl rfl rfl (by decide +kernel) ⟨Nat.le_of_ble_eq_true rfl, Nat.le_of_ble_eq_true rfl⟩) ⟨gBlind, va_recv hK hP (ci := 11) (q0 := 0) rfl (mat_11 rfl), gStart (As := [.ref (ad 0), .int ((σ8 0).1 20)]) hP hD hK0 hT hS hF (d_14)⟩ rfl rfl hl.1 rfl (lv_room (Nat.le_of_ble_eq_true rfl)) dX12_desk_78 ⟨Nat.le_of_ble_eq_true rfl, Nat.le_of_ble_eq_true rfl⟩) hS (fun q _ h => hF q h) hF (fun r_17 σ9 t H locs ht hvm hw hB hz1 hk1 hS d_18 hd0 => ?_)
        have hts := dr_words hts0 (d_18)
        have hK := gKd hK0 (d_18)
        have hown : (s.setDrawn (d_18)).vm.findClass RX12 = some m.cls := hown0
        obtain ⟨hP, hD⟩ := gBack hF ht hB
        obtain ⟨hIσ9, fcσ9, hp_19⟩ := hw
        refine W.endD hd0 ?_
        exact W.iret (v := r_17) hx hb hr (fun t ht hW => ⟨⟨r_17, σ9, rfl, ⟨hIσ9, (mFr.tr (mFr.tr (mFr.tr frσ6 fcσ7 (by decide) (by decide)) fcσ8 (by decide) (by decide)) fcσ9 (by decide) (by decide)), (Deep.fr hp_15 (by rw [fcσ9.1 2 (by decide) (by decide)]) (by rw [fcσ9.1 4 (by decide) (by decide)]) (by rw [fcσ9.1 9 (by decide) (by decide)]) (by rw [fcσ9.1 11 (by decide) (by decide)]) (by rw [fcσ9.1 12 (by decide) (by decide)]) (by rw [fcσ9.1 17 (by decide) (by decide)]) (by rw [fcσ9.1 18 (by decide) (by decide)]) (by rw [fcσ9.2 20 (by decide)]) (by rw [fcσ9.2 21 (by decide)]) (by rw [fcσ9.2 28 (by decide)]) (by rw [fcσ9.2 64 (by decide)]) (by rw [fcσ9.2 65 (by decide)]) (by rw [fcσ9.2 68 (by decide)]))⟩, ⟨by rw [ht]; exact hP, hD⟩⟩, hS.F ht⟩) hS.2.2 dX12_desk_81
      · refine lv_aload_n hx hb dX12_desk_54 rfl (lv_at hl 0 rfl) ?_
        refine lv_iconst (v := 4) hx hb dX12_desk_55 (by decide) ?_
        refine va_put (D := (dC, dI)) (ci := 11) (v := .int 4) (C := RX12) (T := TX12) (N := 69) hx hb hts hinX12 tyX12 tyX12_ok nmX12 hown hK hP hD hS 0 (mat_11 rfl) rfl 1 (by decide) (hts (.fieldLink RX12 110 "BondCalendarsModel" "trouble" "I") (by decide +kernel)) (fun _ h9 => h9) rfl (ty := .int) (by decide +kernel) rfl rfl (Nat.le_of_ble_eq_true rfl) dX12_desk_56 (fun H locs hP hD hS => ?_)
        obtain ⟨σ10, eσ10, hP, hD⟩ := gPut (mse_11_1 rfl) hP hD
        have hIσ10 : InvM σ10 := by rw [eσ10]; exact minv_I hIσ7 (mok_11_1 rfl _)
        have frσ10 : mFr [41, 42, 43, 44, 45, 46, 47, 48, 49, 50, 51, 52, 53, 54, 55, 57, 58, 59, 60, 61, 62, 65, 66] [0, 1, 2, 20, 21, 22, 23, 24, 25, 26, 27, 28, 29, 31, 32, 33, 34, 35, 36, 37, 64, 68] σ σ10 := by rw [eσ10]; exact mFr.oI (mFr.tr frσ6 fcσ7 (by decide) (by decide)) (by decide)
        refine lv_aload_n hx hb dX12_desk_59 rfl (lv_at hl 0 rfl) ?_
        refine lv_aload_n hx hb dX12_desk_60 rfl (lv_at hl 0 rfl) ?_
        refine va_get (D := (dC, dI)) (ci := 11) (v := .int ((σ7 0).1 35)) (C := RX12) (T := TX12) (N := 69) hx hb hts hinX12 hown hK hP 0 (mat_11 rfl) rfl 35 (by decide) (hts (.fieldLink RX12 201 "BondCalendarsModel" "at" "I") (by decide +kernel)) (fun _ h9 => h9) (congrArg (fun z => some (Value.int z)) (show (σ10 0).1 35 = ((σ7 0).1 35) from by rw [eσ10, gI_oth _ _ _ (by decide)])) dX12_desk_61 ?_
        refine va_put (D := (dC, dI)) (ci := 11) (v := .int ((σ7 0).1 35)) (C := RX12) (T := TX12) (N := 69) hx hb hts hinX12 tyX12 tyX12_ok nmX12 hown hK hP hD hS 0 (mat_11 rfl) rfl 2 (by decide) (hts (.fieldLink RX12 9 "BondCalendarsModel" "wrongAt" "I") (by decide +kernel)) (fun _ h9 => h9) rfl (ty := .int) (by decide +kernel) rfl rfl (Nat.le_of_ble_eq_true rfl) dX12_desk_64 (fun H locs hP hD hS => ?_)
        obtain ⟨σ11, eσ11, hP, hD⟩ := gPut (mse_11_2 rfl) hP hD
        have hIσ11 : InvM σ11 := by rw [eσ11]; exact minv_I hIσ10 (mok_11_2 rfl _)
        have frσ11 : mFr [41, 42, 43, 44, 45, 46, 47, 48, 49, 50, 51, 52, 53, 54, 55, 57, 58, 59, 60, 61, 62, 65, 66] [0, 1, 2, 20, 21, 22, 23, 24, 25, 26, 27, 28, 29, 31, 32, 33, 34, 35, 36, 37, 64, 68] σ σ11 := by rw [eσ11]; exact mFr.oI frσ10 (by decide)
        refine lv_iconst (v := (-1)) hx hb dX12_desk_67 (by decide) ?_
        refine W.endD hd0 ?_
        exact W.iret (v := (-1)) hx hb hr (fun t ht hW => ⟨⟨(-1), σ11, rfl, ⟨hIσ11, frσ11, (Deep.low hh0 hI (LOW.tr lw_10 (LOW.cells (by rw [eσ11, gI_ne _ _ _ (by decide), eσ10, gI_ne _ _ _ (by decide)]) (by rw [eσ11, gI_ne _ _ _ (by decide), eσ10, gI_ne _ _ _ (by decide)]) (by rw [eσ11, gI_ne _ _ _ (by decide), eσ10, gI_ne _ _ _ (by decide)]) (by rw [eσ11, gI_ne _ _ _ (by decide), eσ10, gI_ne _ _ _ (by decide)]))) (by rw [eσ11, gI_ne _ _ _ (by decide), eσ10, gI_ne _ _ _ (by decide), fcσ7.1 9 (by decide) (by decide), eσ6, gI_ne _ _ _ (by decide), eσ5, gI_ne _ _ _ (by decide), eσ4, gI_ne _ _ _ (by decide), eσ3, gI_ne _ _ _ (by decide), eσ1, gI_ne _ _ _ (by decide)]) (by rw [eσ11, gI_ne _ _ _ (by decide), eσ10, gI_ne _ _ _ (by decide), fcσ7.1 17 (by decide) (by decide), eσ6, gI_ne _ _ _ (by decide), eσ5, gI_ne _ _ _ (by decide), eσ4, gI_ne _ _ _ (by decide), eσ3, gI_ne _ _ _ (by decide), eσ1, gI_ne _ _ _ (by decide)]) (by rw [eσ11, gI_ne _ _ _ (by decide), eσ10, gI_ne _ _ _ (by decide), fcσ7.1 18 (by decide) (by decide), eσ6, gI_ne _ _ _ (by decide), eσ5, gI_ne _ _ _ (by decide), eσ4, gI_ne _ _ _ (by decide), eσ3, gI_ne _ _ _ (by decide), eσ1, gI_ne _ _ _ (by decide)]) (by rw [eσ11, gI_oth _ _ _ (by decide), eσ10, gI_oth _ _ _ (by decide), fcσ7.2 20 (by decide), eσ6, gI_oth _ _ _ (by decide), eσ5, gI_oth _ _ _ (by decide), eσ4, gI_oth _ _ _ (by decide), eσ3, gI_oth _ _ _ (by decide), eσ1, gI_oth _ _ _ (by decide)]) (by rw [eσ11, gI_oth _ _ _ (by decide), eσ10, gI_oth _ _ _ (by decide), fcσ7.2 21 (by decide), eσ6, gI_oth _ _ _ (by decide), eσ5, gI_oth _ _ _ (by decide), eσ4, gI_oth _ _ _ (by decide), eσ3, gI_oth _ _ _ (by decide), eσ1, gI_oth _ _ _ (by decide)]) (by rw [eσ11, gI_oth _ _ _ (by decide), eσ10, gI_oth _ _ _ (by decide), fcσ7.2 28 (by decide), eσ6, gI_oth _ _ _ (by decide), eσ5, gI_oth _ _ _ (by decide), eσ4, gI_oth _ _ _ (by decide), eσ3, gI_oth _ _ _ (by decide), eσ1, gI_oth _ _ _ (by decide)]) (by rw [eσ11, gI_oth _ _ _ (by decide), eσ10, gI_oth _ _ _ (by decide), fcσ7.2 64 (by decide), eσ6, gI_oth _ _ _ (by decide), eσ5, gI_oth _ _ _ (by decide), eσ4, gI_oth _ _ _ (by decide), eσ3, gI_oth _ _ _ (by decide), eσ1, gI_oth _ _ _ (by decide)]) (by rw [eσ11, gI_oth _ _ _ (by decide), eσ10, gI_oth _ _ _ (by decide), fcσ7.2 65 (by decide), eσ6, gI_oth _ _ _ (by decide), eσ5, gI_oth _ _ _ (by decide), eσ4, gI_oth _ _ _ (by decide), eσ3, gI_oth _ _ _ (by decide), eσ1, gI_oth _ _ _ (by decide)]) (by rw [eσ11, gI_oth _ _ _ (by decide), eσ10, gI_oth _ _ _ (by decide), fcσ7.2 68 (by decide), eσ6, gI_oth _ _ _ (by decide), eσ5, gI_oth _ _ _ (by decide), eσ4, gI_oth _ _ _ (by decide), eσ3, gI_oth _ _ _ (by decide), eσ1, gI_oth _ _ _ (by decide)]))⟩, ⟨by rw [ht]; exact hP, hD⟩⟩, hS.F ht⟩) hS.2.2 dX12_desk_68
    · refine lv_aload_n hx hb dX12_desk_17 rfl (lv_at hl 0 rfl) ?_
      refine lv_iconst (v := 2) hx hb dX12_desk_18 (by decide) ?_
      have hF := gFree hD hS hA
      refine va_calliD hd0 (va_runV_D (As := [.int 2]) (rest := []) ⟨hx, hb, hml, hown, hts⟩ (n_X12_refused l dC dI ad cA adK adV H.size σ1 hIσ1 2) (cwV 1 hts gX12_desk_X12_refused rfl rfl rfl (by decide +kernel) ⟨Nat.le_of_ble_eq_true rfl, Nat.le_of_ble_eq_true rfl⟩) ⟨gBlind, va_recv hK hP (ci := 11) (q0 := 0) rfl (mat_11 rfl), gStart (As := [.ref (ad 0), .int 2]) hP hD hK0 hT hS hF (s.drawn)⟩ rfl rfl hl.1 rfl (lv_room (Nat.le_of_ble_eq_true rfl)) dX12_desk_19 ⟨Nat.le_of_ble_eq_true rfl, Nat.le_of_ble_eq_true rfl⟩) hS (fun q _ h => hF q h) hF (fun r_20 σ12 t H locs ht hvm hw hB hz1 hk1 hS d_21 hd0 => ?_)
      have hts := dr_words hts0 (d_21)
      have hK := gKd hK0 (d_21)
      have hown : (s.setDrawn (d_21)).vm.findClass RX12 = some m.cls := hown0
      obtain ⟨hP, hD⟩ := gBack hF ht hB
      obtain ⟨hIσ12, fcσ12, hp_22⟩ := hw
      refine W.endD hd0 ?_
      exact W.iret (v := r_20) hx hb hr (fun t ht hW => ⟨⟨r_20, σ12, rfl, ⟨hIσ12, (mFr.tr frσ1 fcσ12 (by decide) (by decide)), (Deep.fr hh0 (by rw [fcσ12.1 2 (by decide) (by decide), eσ1, gI_ne _ _ _ (by decide)]) (by rw [fcσ12.1 4 (by decide) (by decide), eσ1, gI_ne _ _ _ (by decide)]) (by rw [fcσ12.1 9 (by decide) (by decide), eσ1, gI_ne _ _ _ (by decide)]) (by rw [fcσ12.1 11 (by decide) (by decide), eσ1, gI_ne _ _ _ (by decide)]) (by rw [fcσ12.1 12 (by decide) (by decide), eσ1, gI_ne _ _ _ (by decide)]) (by rw [fcσ12.1 17 (by decide) (by decide), eσ1, gI_ne _ _ _ (by decide)]) (by rw [fcσ12.1 18 (by decide) (by decide), eσ1, gI_ne _ _ _ (by decide)]) (by rw [fcσ12.2 20 (by decide), eσ1, gI_oth _ _ _ (by decide)]) (by rw [fcσ12.2 21 (by decide), eσ1, gI_oth _ _ _ (by decide)]) (by rw [fcσ12.2 28 (by decide), eσ1, gI_oth _ _ _ (by decide)]) (by rw [fcσ12.2 64 (by decide), eσ1, gI_oth _ _ _ (by decide)]) (by rw [fcσ12.2 65 (by decide), eσ1, gI_oth _ _ _ (by decide)]) (by rw [fcσ12.2 68 (by decide), eσ1, gI_oth _ _ _ (by decide)]))⟩, ⟨by rw [ht]; exact hP, hD⟩⟩, hS.F ht⟩) hS.2.2 dX12_desk_22
