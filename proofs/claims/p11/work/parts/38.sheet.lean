set_option maxHeartbeats 8000000 in
set_option maxRecDepth 100000 in
theorem n_X9_putSign (l : Launch) (dC : Nat → ClassId) (dI : Nat → Nat → Nat) (ad : Nat → Nat) (cA : Nat → ClassId) (adK adV : Nat → Nat) (sz : Nat) (σ : gs) (hI : InvX σ) (p0 : Int32) : MetD lw_cs l yX9_putSign wsX9_putSign ({ frames := 0, cells := 0, slots := 0, locals := 0 }) (va_Pc [.ref (ad 10), .int p0] (gPre adK adV (dC, dI) (wX ad cA σ) (tX cA) sz)) (va_Qv (fun (τ : gs) => InvX τ ∧ gFr [8, 21] σ τ ∧ (True)) (fun τ t => gPost (dC, dI) (va_A (wX ad cA σ) sz) (wX ad cA τ) t) (va_A (wX ad cA σ) sz)) 0 0 (va_A (wX ad cA σ) sz) := by
  refine MetD.ofW (cc := cX9_putSign) (maxL := 2) (ret := none) (by decide) rfl ?_
  intro p e s m args below meth c s₁ B hml hv hd0
  obtain ⟨rfl, hsz, hP, hK, hD0, hT⟩ := hv
  have hx := B.exec
  have hb := B.bytes
  have hr := B.returns
  have hts0 := atoms_spec (ws := wsX9_putSign) B.pre
  have hK0 := hK
  have hown0 : s.vm.findClass RX9 = some m.cls := findClass_of_methodNamed B.named
  have hlocks := B.notSynchronized
  have hinX9 : ∀ w ∈ u_ws RX9 TX9 2, w ∈ wsX9_putSign := (fun _ h9 => List.mem_cons_of_mem _ (List.mem_append_right _ h9))
  subst hsz
  have hD := hD0.self (sz := s.heap.size)
  generalize hAe : va_A (wX ad cA σ) s.heap.size = A at hD hT ⊢
  have hA : ∀ q : Nat, s.heap.size ≤ q → A q := fun q h => by rw [← hAe]; exact Or.inr h
  have hS : va_S A s.heap s.heap [] := va_S.rf
  have hl := lv_entry ([.ref (ad 10), .int p0]) (n := 2) (Nat.le_of_ble_eq_true rfl)
  rw [lg_entry_eq]
  generalize (lg_sl ([.ref (ad 10), .int p0]) ++ List.replicate (2 - (lg_sl ([.ref (ad 10), .int p0])).length) Slot.unset).toArray = ls at hl ⊢
  have hl : lv_has ls 2 [(0, .ref (ad 10)), (1, .int p0)] := hl
  have hts := dr_words hts0 (s.drawn)
  have hK := gKd hK0 (s.drawn)
  have hown : (s.setDrawn (s.drawn)).vm.findClass RX9 = some m.cls := hown0
  refine lv_aload_n hx hb dX9_putSign_0 rfl (lv_at hl 0 rfl) ?_
  have bd_1 := rd_8_1 (c := 10) hI rfl
  refine va_get (D := (dC, dI)) (ci := 8) (v := .int ((σ 10).1 1)) (C := RX9) (T := TX9) (N := 2) hx hb hts hinX9 hown hK hP 10 (at_8 rfl) rfl 1 (by decide) (hts (.fieldLink RX9 13 "BondCalendars$Sheet" "length" "I") (by decide +kernel)) (fun _ h9 => h9) rfl dX9_putSign_1 ?_
  refine lv_bipush (v := 64) hx hb dX9_putSign_4 (by decide) ?_
  refine lv_icmp_ge (tgt := 29) hx hb dX9_putSign_6 (by decide) (fun c_2 => ?_) (fun c_2 => ?_)
  · refine W.endD hd0 ?_
    exact W.vret hx hb hr (fun t ht hW => ⟨⟨σ, rfl, ⟨hI, (gFr.rfl (L := [8, 21]) (σ := σ)), trivial⟩, ⟨by rw [ht]; exact hP, hD⟩⟩, hS.F ht⟩) hS.2.2 dX9_putSign_29
  · refine lv_aload_n hx hb dX9_putSign_9 rfl (lv_at hl 0 rfl) ?_
    refine va_get (D := (dC, dI)) (ci := 8) (v := .ref (ad 11)) (C := RX9) (T := TX9) (N := 2) hx hb hts hinX9 hown hK hP 10 (at_8 rfl) rfl 0 (by decide) (hts (.fieldLink RX9 9 "BondCalendars$Sheet" "signs" "[C") (by decide +kernel)) (fun _ h9 => h9) rfl dX9_putSign_10 ?_
    refine lv_aload_n hx hb dX9_putSign_13 rfl (lv_at hl 0 rfl) ?_
    refine va_get (D := (dC, dI)) (ci := 8) (v := .int ((σ 10).1 1)) (C := RX9) (T := TX9) (N := 2) hx hb hts hinX9 hown hK hP 10 (at_8 rfl) rfl 1 (by decide) (hts (.fieldLink RX9 13 "BondCalendars$Sheet" "length" "I") (by decide +kernel)) (fun _ h9 => h9) rfl dX9_putSign_14 ?_
    refine lv_iload_n hx hb dX9_putSign_17 rfl (lv_at hl 1 rfl) ?_
    refine va_cast hx hb hK hP hD hS 11 11 (at_21 rfl) (ty_21 rfl) (gin (N := 64) (by decide) bd_1.1 (Int32.not_le.mp c_2)) dX9_putSign_18 (fun H locs hP hD hS => ?_)
    obtain ⟨σ1, eσ1, hP, hD⟩ := gPut (se_21 rfl) hP hD
    have hIσ1 : InvX σ1 := by rw [eσ1]; exact inv_I hI (ok_21 rfl _ _)
    have frσ1 : gFr [8, 21] σ σ1 := by rw [eσ1]; exact gFr.pI (gFr.rfl (L := [8, 21]) (σ := σ)) rfl (by decide)
    refine lv_aload_n hx hb dX9_putSign_19 rfl (lv_at hl 0 rfl) ?_
    refine lv_dup hx hb dX9_putSign_20 rfl ?_
    refine va_get (D := (dC, dI)) (ci := 8) (v := .int ((σ 10).1 1)) (C := RX9) (T := TX9) (N := 2) hx hb hts hinX9 hown hK hP 10 (at_8 rfl) rfl 1 (by decide) (hts (.fieldLink RX9 13 "BondCalendars$Sheet" "length" "I") (by decide +kernel)) (fun _ h9 => h9) (congrArg (fun z => some (Value.int z)) (show (σ1 10).1 1 = ((σ 10).1 1) from by rw [eσ1, gI_ne _ _ _ (by decide)])) dX9_putSign_21 ?_
    refine lv_iconst (v := 1) hx hb dX9_putSign_24 (by decide) ?_
    refine lv_iadd hx hb dX9_putSign_25 ?_
    refine lv_topi (fun x_3 ex_3 => ?_)
    refine va_put (D := (dC, dI)) (ci := 8) (v := .int x_3) (C := RX9) (T := TX9) (N := 2) hx hb hts hinX9 tyX9 tyX9_ok nmX9 hown hK hP hD hS 10 (at_8 rfl) rfl 1 (by decide) (hts (.fieldLink RX9 13 "BondCalendars$Sheet" "length" "I") (by decide +kernel)) (fun _ h9 => h9) rfl (ty := .int) (by decide +kernel) rfl rfl (Nat.le_of_ble_eq_true rfl) dX9_putSign_26 (fun H locs hP hD hS => ?_)
    obtain ⟨σ2, eσ2, hP, hD⟩ := gPut (se_8_1 rfl) hP hD
    have hIσ2 : InvX σ2 := by rw [eσ2]; exact inv_I hIσ1 (ok_8_1 rfl _ ⟨(cnt_0 bd_1.1 (Int32.not_le.mp c_2) ex_3), (cnt_N bd_1.1 (Int32.not_le.mp c_2) ex_3)⟩)
    have frσ2 : gFr [8, 21] σ σ2 := by rw [eσ2]; exact gFr.pI frσ1 rfl (by decide)
    refine W.endD hd0 ?_
    exact W.vret hx hb hr (fun t ht hW => ⟨⟨σ2, rfl, ⟨hIσ2, frσ2, trivial⟩, ⟨by rw [ht]; exact hP, hD⟩⟩, hS.F ht⟩) hS.2.2 dX9_putSign_29
set_option maxHeartbeats 8000000 in
set_option maxRecDepth 100000 in
theorem n_X9_putNumber (l : Launch) (dC : Nat → ClassId) (dI : Nat → Nat → Nat) (ad : Nat → Nat) (cA : Nat → ClassId) (adK adV : Nat → Nat) (sz : Nat) (σ : gs) (hI : InvX σ) (p0 : Int64) (p1 : Int32) : MetD lw_cs l yX9_putNumber wsX9_putNumber ({ frames := 1, cells := 0, slots := 0, locals := 21 }) (va_Pc [.ref (ad 10), .long p0, .int p1] (gPre adK adV (dC, dI) (wX ad cA σ) (tX cA) sz)) (va_Qv (fun (τ : gs) => InvX τ ∧ gFr [8, 21] σ τ ∧ (True)) (fun τ t => gPost (dC, dI) (va_A (wX ad cA σ) sz) (wX ad cA τ) t) (va_A (wX ad cA σ) sz)) 0 0 (va_A (wX ad cA σ) sz) := by
  refine MetD.ofW (cc := cX9_putNumber) (maxL := 8) (ret := none) (by decide) rfl ?_
  intro p e s m args below meth c s₁ B hml hv hd0
  obtain ⟨rfl, hsz, hP, hK, hD0, hT⟩ := hv
  have hx := B.exec
  have hb := B.bytes
  have hr := B.returns
  have hts0 := atoms_spec (ws := wsX9_putNumber) B.pre
  have hK0 := hK
  have hown0 : s.vm.findClass RX9 = some m.cls := findClass_of_methodNamed B.named
  have hlocks := B.notSynchronized
  subst hsz
  have hD := hD0.self (sz := s.heap.size)
  generalize hAe : va_A (wX ad cA σ) s.heap.size = A at hD hT ⊢
  have hA : ∀ q : Nat, s.heap.size ≤ q → A q := fun q h => by rw [← hAe]; exact Or.inr h
  have hS : va_S A s.heap s.heap [] := va_S.rf
  have hl := lv_entry ([.ref (ad 10), .long p0, .int p1]) (n := 8) (Nat.le_of_ble_eq_true rfl)
  rw [lg_entry_eq]
  generalize (lg_sl ([.ref (ad 10), .long p0, .int p1]) ++ List.replicate (8 - (lg_sl ([.ref (ad 10), .long p0, .int p1])).length) Slot.unset).toArray = ls at hl ⊢
  have hl : lv_has ls 8 [(0, .ref (ad 10)), (1, .long p0), (3, .int p1)] := hl
  have hts := dr_words hts0 (s.drawn)
  have hK := gKd hK0 (s.drawn)
  have hown : (s.setDrawn (s.drawn)).vm.findClass RX9 = some m.cls := hown0
  refine lv_lconst (v := 1) hx hb dX9_putNumber_0 (by decide) ?_
  refine lv_lstore (lv' := [(4, .long 1), (0, .ref (ad 10)), (1, .long p0), (3, .int p1)]) hx hb dX9_putNumber_1 hl (by decide) rfl (fun ls hl => ?_)
  refine lv_iconst (v := 1) hx hb dX9_putNumber_3 (by decide) ?_
  refine lv_istore (lv' := [(6, .int 1), (4, .long 1), (0, .ref (ad 10)), (1, .long p0), (3, .int p1)]) hx hb dX9_putNumber_4 hl (by decide) rfl (fun ls hl => ?_)
  refine (fun (h : ∀ (n : Nat) (sc : Int64) (dg : Int32) (σ6x : gs) (d6 : Drawn) (H : Heap) (locs : List Loc) (ls : Array Slot), ((18 : Int32).toInt - dg.toInt).toNat < n → 1 ≤ dg → p10 dg sc → InvX σ6x → gFr [8, 21] σ σ6x → s.drawn.sameBut d6 lw_cs → va_P (dC, dI) vwCl (wX ad cA σ6x) H → va_D A (wX ad cA σ6x) → va_S A s.heap H locs → lv_has ls 8 [(6, .int dg), (4, .long sc), (0, .ref (ad 10)), (1, .long p0), (3, .int p1)] → W p l e _ (s.setDrawn d6) m _ below meth c H locs _ _ _ (F0 m 6 ls [])) => h _ 1 1 σ _ _ _ _ (Nat.lt_succ_self _) (by decide) p10_1 hI (gFr.rfl (L := [8, 21]) (σ := σ)) hd0 hP hD hS (lv_sub hl [0, 1, 2, 3, 4] rfl)) ?_
  intro n6
  induction n6 with
  | zero => intro sc dg σ6x d6 H locs ls hm; exact absurd hm (Nat.not_lt_zero _)
  | succ n6 ih6 =>
    intro sc dg σ6x d6 H locs ls hm6 iv6_0 iv6_1 hIσ6x frσ6x hd0 hP hD hS hl
    have hts := dr_words hts0 (d6)
    have hK := gKd hK0 (d6)
    have hown : (s.setDrawn (d6)).vm.findClass RX9 = some m.cls := hown0
    refine lv_iload hx hb dX9_putNumber_6 (lv_at hl 0 rfl) ?_
    refine lv_bipush (v := 18) hx hb dX9_putNumber_8 (by decide) ?_
    refine lv_icmp_ge (tgt := 44) hx hb dX9_putNumber_10 (by decide) (fun c_1 => ?_) (fun c_1 => ?_)
    · refine lv_iconst (v := 0) hx hb dX9_putNumber_44 (by decide) ?_
      refine lv_istore (lv' := [(7, .int 0), (6, .int dg), (4, .long sc), (0, .ref (ad 10)), (1, .long p0), (3, .int p1)]) hx hb dX9_putNumber_45 hl (by decide) rfl (fun ls hl => ?_)
      refine (fun (h : ∀ (n : Nat) (i7 : Int32) (sc2 : Int64) (σ47x : gs) (d47 : Drawn) (H : Heap) (locs : List Loc) (ls : Array Slot), ((dg : Int32).toInt - i7.toInt).toNat < n → 0 ≤ i7 → InvX σ47x → gFr [8, 21] σ σ47x → s.drawn.sameBut d47 lw_cs → va_P (dC, dI) vwCl (wX ad cA σ47x) H → va_D A (wX ad cA σ47x) → va_S A s.heap H locs → lv_has ls 8 [(7, .int i7), (6, .int dg), (4, .long sc2), (0, .ref (ad 10)), (1, .long p0), (3, .int p1)] → W p l e _ (s.setDrawn d47) m _ below meth c H locs _ _ _ (F0 m 47 ls [])) => h _ 0 sc σ6x _ _ _ _ (Nat.lt_succ_self _) (by decide) hIσ6x frσ6x hd0 hP hD hS (lv_sub hl [0, 1, 2, 3, 4, 5] rfl)) ?_
      intro n47
      induction n47 with
      | zero => intro i7 sc2 σ47x d47 H locs ls hm; exact absurd hm (Nat.not_lt_zero _)
      | succ n47 ih47 =>
        intro i7 sc2 σ47x d47 H locs ls hm47 iv47_0 hIσ47x frσ47x hd0 hP hD hS hl
        have hts := dr_words hts0 (d47)
        have hK := gKd hK0 (d47)
        have hown : (s.setDrawn (d47)).vm.findClass RX9 = some m.cls := hown0
        refine lv_iload hx hb dX9_putNumber_47 (lv_at hl 0 rfl) ?_
        refine lv_iload hx hb dX9_putNumber_49 (lv_at hl 1 rfl) ?_
        refine lv_icmp_ge (tgt := 93) hx hb dX9_putNumber_51 (by decide) (fun c_2 => ?_) (fun c_2 => ?_)
        · refine W.endD hd0 ?_
          exact W.vret hx hb hr (fun t ht hW => ⟨⟨σ47x, rfl, ⟨hIσ47x, frσ47x, trivial⟩, ⟨by rw [ht]; exact hP, hD⟩⟩, hS.F ht⟩) hS.2.2 dX9_putNumber_93
        · refine lv_lload hx hb dX9_putNumber_54 (lv_at hl 2 rfl) ?_
          refine lv_lconst (v := 0) hx hb dX9_putNumber_56 (by decide) ?_
          refine W.lcmp hx hb dX9_putNumber_57 ?_
          refine lv_if_le (tgt := 93) hx hb dX9_putNumber_58 (by decide) (fun c_3 => ?_) (fun c_3 => ?_)
          · refine W.endD hd0 ?_
            exact W.vret hx hb hr (fun t ht hW => ⟨⟨σ47x, rfl, ⟨hIσ47x, frσ47x, trivial⟩, ⟨by rw [ht]; exact hP, hD⟩⟩, hS.F ht⟩) hS.2.2 dX9_putNumber_93
          · refine lv_aload_n hx hb dX9_putNumber_61 rfl (lv_at hl 3 rfl) ?_
            refine lv_ldc2 (v := 48) hx hb hown (hts (.constantLong RX9 19 (48)) (by decide +kernel)) dX9_putNumber_62 ?_
            refine lv_lload_n hx hb dX9_putNumber_65 rfl (lv_at hl 4 rfl) ?_
            refine lv_lload hx hb dX9_putNumber_66 (lv_at hl 2 rfl) ?_
            refine lv_ldiv hx hb dX9_putNumber_68 (ne_0 c_3) ?_
            refine lv_topl (fun x_4 ex_4 => ?_)
            refine lv_ldc2 (v := 10) hx hb hown (hts (.constantLong RX9 17 (10)) (by decide +kernel)) dX9_putNumber_69 ?_
            refine lv_lrem hx hb dX9_putNumber_72 (by decide) ?_
            refine lv_topl (fun x_5 ex_5 => ?_)
            refine lv_ladd hx hb dX9_putNumber_73 ?_
            refine lv_topl (fun x_6 ex_6 => ?_)
            refine lv_l2i hx hb dX9_putNumber_74 rfl ?_
            refine lv_topi (fun x_7 _ => ?_)
            refine lv_i2c hx hb dX9_putNumber_75 rfl ?_
            refine lv_topi (fun x_8 _ => ?_)
            have hF := gFree hD hS hA
            refine va_callvD hd0 (va_runV_D (As := [.int x_8]) (rest := []) ⟨hx, hb, hml, hown, hts⟩ (n_X9_putSign l dC dI ad cA adK adV H.size σ47x hIσ47x x_8) (cwV 1 hts gX9_putNumber_X9_putSign rfl rfl rfl (by decide +kernel) ⟨Nat.le_of_ble_eq_true rfl, Nat.le_of_ble_eq_true rfl⟩) ⟨gBlind, va_recv hK hP (ci := 8) (q0 := 10) rfl (at_8 rfl), gStart (As := [.ref (ad 10), .int x_8]) hP hD hK0 hT hS hF (d47)⟩ rfl rfl hl.1 rfl (lv_room (Nat.le_of_ble_eq_true rfl)) dX9_putNumber_76 ⟨Nat.le_of_ble_eq_true rfl, Nat.le_of_ble_eq_true rfl⟩) hS (fun q _ h => hF q h) hF (fun σ1 t H locs ht hvm hw hB hz1 hk1 hS d_10 hd0 => ?_)
            have hts := dr_words hts0 (d_10)
            have hK := gKd hK0 (d_10)
            have hown : (s.setDrawn (d_10)).vm.findClass RX9 = some m.cls := hown0
            obtain ⟨hP, hD⟩ := gBack hF ht hB
            obtain ⟨hIσ1, fcσ1, hp_11⟩ := hw
            refine lv_lload hx hb dX9_putNumber_79 (lv_at hl 2 rfl) ?_
            refine lv_ldc2 (v := 10) hx hb hown (hts (.constantLong RX9 17 (10)) (by decide +kernel)) dX9_putNumber_81 ?_
            refine lv_ldiv hx hb dX9_putNumber_84 (by decide) ?_
            refine lv_topl (fun x_12 ex_12 => ?_)
            refine lv_lstore (lv' := [(4, .long x_12), (7, .int i7), (6, .int dg), (0, .ref (ad 10)), (1, .long p0), (3, .int p1)]) hx hb dX9_putNumber_85 hl (by decide) rfl (fun ls hl => ?_)
            obtain ⟨x_13, ex_13⟩ : ∃ zz : Int32, zz = i7 + 1 := ⟨_, rfl⟩
            refine lv_iinc (v := x_13) (lv' := [(7, .int x_13), (4, .long x_12), (6, .int dg), (0, .ref (ad 10)), (1, .long p0), (3, .int p1)]) hx hb dX9_putNumber_87 hl (k := 1) rfl (by rw [ex_13]; rfl) (by decide) rfl (fun ls hl => ?_)
            refine lv_goto (tgt := 47) hx hb dX9_putNumber_90 (by decide) ?_
            exact ih47 x_13 x_12 σ1 _ _ _ _ (cnt_m iv47_0 (Int32.not_le.mp c_2) hm47 ex_13) (cnt_0 iv47_0 (Int32.not_le.mp c_2) ex_13) hIσ1 (gFr.tr frσ47x fcσ1 (by decide)) hd0 hP hD hS (lv_sub hl [0, 2, 1, 3, 4, 5] rfl)
    · refine lv_iload hx hb dX9_putNumber_13 (lv_at hl 0 rfl) ?_
      refine lv_iload_n hx hb dX9_putNumber_15 rfl (lv_at hl 4 rfl) ?_
      refine lv_icmp_lt (tgt := 30) hx hb dX9_putNumber_16 (by decide) (fun c_14 => ?_) (fun c_14 => ?_)
      · refine lv_lload hx hb dX9_putNumber_30 (lv_at hl 1 rfl) ?_
        refine lv_ldc2 (v := 10) hx hb hown (hts (.constantLong RX9 17 (10)) (by decide +kernel)) dX9_putNumber_32 ?_
        refine lv_lmul hx hb dX9_putNumber_35 ?_
        refine lv_topl (fun x_15 ex_15 => ?_)
        refine lv_lstore (lv' := [(4, .long x_15), (6, .int dg), (0, .ref (ad 10)), (1, .long p0), (3, .int p1)]) hx hb dX9_putNumber_36 hl (by decide) rfl (fun ls hl => ?_)
        obtain ⟨x_16, ex_16⟩ : ∃ zz : Int32, zz = dg + 1 := ⟨_, rfl⟩
        refine lv_iinc (v := x_16) (lv' := [(6, .int x_16), (4, .long x_15), (0, .ref (ad 10)), (1, .long p0), (3, .int p1)]) hx hb dX9_putNumber_38 hl (k := 1) rfl (by rw [ex_16]; rfl) (by decide) rfl (fun ls hl => ?_)
        refine lv_goto (tgt := 6) hx hb dX9_putNumber_41 (by decide) ?_
        exact ih6 x_15 x_16 σ6x _ _ _ _ (cnt_m (Int32.le_of_lt (Int32.lt_of_lt_of_le (show (0 : Int32) < 1 by decide) iv6_0)) (Int32.not_le.mp c_1) hm6 ex_16) (cnt_1 (Int32.le_of_lt (Int32.lt_of_lt_of_le (show (0 : Int32) < 1 by decide) iv6_0)) (Int32.not_le.mp c_1) ex_16) (p10_s iv6_1 (Int32.not_le.mp c_1) ex_15 ex_16) hIσ6x frσ6x hd0 hP hD hS (lv_sub hl [0, 1, 2, 3, 4] rfl)
      · refine lv_lload_n hx hb dX9_putNumber_19 rfl (lv_at hl 3 rfl) ?_
        refine lv_lload hx hb dX9_putNumber_20 (lv_at hl 1 rfl) ?_
        refine lv_ldiv hx hb dX9_putNumber_22 (p10_ne iv6_1) ?_
        refine lv_topl (fun x_17 ex_17 => ?_)
        refine lv_ldc2 (v := 10) hx hb hown (hts (.constantLong RX9 17 (10)) (by decide +kernel)) dX9_putNumber_23 ?_
        refine W.lcmp hx hb dX9_putNumber_26 ?_
        refine lv_if_lt (tgt := 44) hx hb dX9_putNumber_27 (by decide) (fun c_18 => ?_) (fun c_18 => ?_)
        · refine lv_iconst (v := 0) hx hb dX9_putNumber_44 (by decide) ?_
          refine lv_istore (lv' := [(7, .int 0), (6, .int dg), (4, .long sc), (0, .ref (ad 10)), (1, .long p0), (3, .int p1)]) hx hb dX9_putNumber_45 hl (by decide) rfl (fun ls hl => ?_)
          refine (fun (h : ∀ (n : Nat) (i7 : Int32) (sc2 : Int64) (σ47x : gs) (d47 : Drawn) (H : Heap) (locs : List Loc) (ls : Array Slot), ((dg : Int32).toInt - i7.toInt).toNat < n → 0 ≤ i7 → InvX σ47x → gFr [8, 21] σ σ47x → s.drawn.sameBut d47 lw_cs → va_P (dC, dI) vwCl (wX ad cA σ47x) H → va_D A (wX ad cA σ47x) → va_S A s.heap H locs → lv_has ls 8 [(7, .int i7), (6, .int dg), (4, .long sc2), (0, .ref (ad 10)), (1, .long p0), (3, .int p1)] → W p l e _ (s.setDrawn d47) m _ below meth c H locs _ _ _ (F0 m 47 ls [])) => h _ 0 sc σ6x _ _ _ _ (Nat.lt_succ_self _) (by decide) hIσ6x frσ6x hd0 hP hD hS (lv_sub hl [0, 1, 2, 3, 4, 5] rfl)) ?_
          intro n47
          induction n47 with
          | zero => intro i7 sc2 σ47x d47 H locs ls hm; exact absurd hm (Nat.not_lt_zero _)
          | succ n47 ih47 =>
            intro i7 sc2 σ47x d47 H locs ls hm47 iv47_0 hIσ47x frσ47x hd0 hP hD hS hl
            have hts := dr_words hts0 (d47)
            have hK := gKd hK0 (d47)
            have hown : (s.setDrawn (d47)).vm.findClass RX9 = some m.cls := hown0
            refine lv_iload hx hb dX9_putNumber_47 (lv_at hl 0 rfl) ?_
            refine lv_iload hx hb dX9_putNumber_49 (lv_at hl 1 rfl) ?_
            refine lv_icmp_ge (tgt := 93) hx hb dX9_putNumber_51 (by decide) (fun c_19 => ?_) (fun c_19 => ?_)
            · refine W.endD hd0 ?_
              exact W.vret hx hb hr (fun t ht hW => ⟨⟨σ47x, rfl, ⟨hIσ47x, frσ47x, trivial⟩, ⟨by rw [ht]; exact hP, hD⟩⟩, hS.F ht⟩) hS.2.2 dX9_putNumber_93
            · refine lv_lload hx hb dX9_putNumber_54 (lv_at hl 2 rfl) ?_
              refine lv_lconst (v := 0) hx hb dX9_putNumber_56 (by decide) ?_
              refine W.lcmp hx hb dX9_putNumber_57 ?_
              refine lv_if_le (tgt := 93) hx hb dX9_putNumber_58 (by decide) (fun c_20 => ?_) (fun c_20 => ?_)
              · refine W.endD hd0 ?_
                exact W.vret hx hb hr (fun t ht hW => ⟨⟨σ47x, rfl, ⟨hIσ47x, frσ47x, trivial⟩, ⟨by rw [ht]; exact hP, hD⟩⟩, hS.F ht⟩) hS.2.2 dX9_putNumber_93
              · refine lv_aload_n hx hb dX9_putNumber_61 rfl (lv_at hl 3 rfl) ?_
                refine lv_ldc2 (v := 48) hx hb hown (hts (.constantLong RX9 19 (48)) (by decide +kernel)) dX9_putNumber_62 ?_
                refine lv_lload_n hx hb dX9_putNumber_65 rfl (lv_at hl 4 rfl) ?_
                refine lv_lload hx hb dX9_putNumber_66 (lv_at hl 2 rfl) ?_
                refine lv_ldiv hx hb dX9_putNumber_68 (ne_0 c_20) ?_
                refine lv_topl (fun x_21 ex_21 => ?_)
                refine lv_ldc2 (v := 10) hx hb hown (hts (.constantLong RX9 17 (10)) (by decide +kernel)) dX9_putNumber_69 ?_
                refine lv_lrem hx hb dX9_putNumber_72 (by decide) ?_
                refine lv_topl (fun x_22 ex_22 => ?_)
                refine lv_ladd hx hb dX9_putNumber_73 ?_
                refine lv_topl (fun x_23 ex_23 => ?_)
                refine lv_l2i hx hb dX9_putNumber_74 rfl ?_
                refine lv_topi (fun x_24 _ => ?_)
                refine lv_i2c hx hb dX9_putNumber_75 rfl ?_
                refine lv_topi (fun x_25 _ => ?_)
                have hF := gFree hD hS hA
                refine va_callvD hd0 (va_runV_D (As := [.int x_25]) (rest := []) ⟨hx, hb, hml, hown, hts⟩ (n_X9_putSign l dC dI ad cA adK adV H.size σ47x hIσ47x x_25) (cwV 1 hts gX9_putNumber_X9_putSign rfl rfl rfl (by decide +kernel) ⟨Nat.le_of_ble_eq_true rfl, Nat.le_of_ble_eq_true rfl⟩) ⟨gBlind, va_recv hK hP (ci := 8) (q0 := 10) rfl (at_8 rfl), gStart (As := [.ref (ad 10), .int x_25]) hP hD hK0 hT hS hF (d47)⟩ rfl rfl hl.1 rfl (lv_room (Nat.le_of_ble_eq_true rfl)) dX9_putNumber_76 ⟨Nat.le_of_ble_eq_true rfl, Nat.le_of_ble_eq_true rfl⟩) hS (fun q _ h => hF q h) hF (fun σ2 t H locs ht hvm hw hB hz1 hk1 hS d_27 hd0 => ?_)
                have hts := dr_words hts0 (d_27)
                have hK := gKd hK0 (d_27)
                have hown : (s.setDrawn (d_27)).vm.findClass RX9 = some m.cls := hown0
                obtain ⟨hP, hD⟩ := gBack hF ht hB
                obtain ⟨hIσ2, fcσ2, hp_28⟩ := hw
                refine lv_lload hx hb dX9_putNumber_79 (lv_at hl 2 rfl) ?_
                refine lv_ldc2 (v := 10) hx hb hown (hts (.constantLong RX9 17 (10)) (by decide +kernel)) dX9_putNumber_81 ?_
                refine lv_ldiv hx hb dX9_putNumber_84 (by decide) ?_
                refine lv_topl (fun x_29 ex_29 => ?_)
                refine lv_lstore (lv' := [(4, .long x_29), (7, .int i7), (6, .int dg), (0, .ref (ad 10)), (1, .long p0), (3, .int p1)]) hx hb dX9_putNumber_85 hl (by decide) rfl (fun ls hl => ?_)
                obtain ⟨x_30, ex_30⟩ : ∃ zz : Int32, zz = i7 + 1 := ⟨_, rfl⟩
                refine lv_iinc (v := x_30) (lv' := [(7, .int x_30), (4, .long x_29), (6, .int dg), (0, .ref (ad 10)), (1, .long p0), (3, .int p1)]) hx hb dX9_putNumber_87 hl (k := 1) rfl (by rw [ex_30]; rfl) (by decide) rfl (fun ls hl => ?_)
                refine lv_goto (tgt := 47) hx hb dX9_putNumber_90 (by decide) ?_
                exact ih47 x_30 x_29 σ2 _ _ _ _ (cnt_m iv47_0 (Int32.not_le.mp c_19) hm47 ex_30) (cnt_0 iv47_0 (Int32.not_le.mp c_19) ex_30) hIσ2 (gFr.tr frσ47x fcσ2 (by decide)) hd0 hP hD hS (lv_sub hl [0, 2, 1, 3, 4, 5] rfl)
        · refine lv_lload hx hb dX9_putNumber_30 (lv_at hl 1 rfl) ?_
          refine lv_ldc2 (v := 10) hx hb hown (hts (.constantLong RX9 17 (10)) (by decide +kernel)) dX9_putNumber_32 ?_
          refine lv_lmul hx hb dX9_putNumber_35 ?_
          refine lv_topl (fun x_31 ex_31 => ?_)
          refine lv_lstore (lv' := [(4, .long x_31), (6, .int dg), (0, .ref (ad 10)), (1, .long p0), (3, .int p1)]) hx hb dX9_putNumber_36 hl (by decide) rfl (fun ls hl => ?_)
          obtain ⟨x_32, ex_32⟩ : ∃ zz : Int32, zz = dg + 1 := ⟨_, rfl⟩
          refine lv_iinc (v := x_32) (lv' := [(6, .int x_32), (4, .long x_31), (0, .ref (ad 10)), (1, .long p0), (3, .int p1)]) hx hb dX9_putNumber_38 hl (k := 1) rfl (by rw [ex_32]; rfl) (by decide) rfl (fun ls hl => ?_)
          refine lv_goto (tgt := 6) hx hb dX9_putNumber_41 (by decide) ?_
          exact ih6 x_31 x_32 σ6x _ _ _ _ (cnt_m (Int32.le_of_lt (Int32.lt_of_lt_of_le (show (0 : Int32) < 1 by decide) iv6_0)) (Int32.not_le.mp c_1) hm6 ex_32) (cnt_1 (Int32.le_of_lt (Int32.lt_of_lt_of_le (show (0 : Int32) < 1 by decide) iv6_0)) (Int32.not_le.mp c_1) ex_32) (p10_s iv6_1 (Int32.not_le.mp c_1) ex_31 ex_32) hIσ6x frσ6x hd0 hP hD hS (lv_sub hl [0, 1, 2, 3, 4] rfl)
