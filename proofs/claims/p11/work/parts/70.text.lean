set_option maxHeartbeats 8000000 in
set_option maxRecDepth 100000 in
theorem n_X12_writes (l : Launch) (dC : Nat → ClassId) (dI : Nat → Nat → Nat) (ad : Nat → Nat) (cA : Nat → ClassId) (adK adV : Nat → Nat) (sz : Nat) (σ : gs) (hI : InvM σ) (p0 : Int32) (hh0 : (σ 0).1 46 < 60) : MetD lw_cs l yX12_writes wsX12_writes ({ frames := 0, cells := 0, slots := 0, locals := 0 }) (va_Pc [.ref (ad 0), .int p0] (gPre adK adV (dC, dI) (wM ad cA σ) (tM cA) sz)) (va_Qv (fun (τ : gs) => InvM τ ∧ mFr [63] [46] σ τ ∧ (((τ 0).1 46).toInt = ((σ 0).1 46).toInt + 1)) (fun τ t => gPost (dC, dI) (va_A (wM ad cA σ) sz) (wM ad cA τ) t) (va_A (wM ad cA σ) sz)) 0 0 (va_A (wM ad cA σ) sz) := by
  refine MetD.ofW (cc := cX12_writes) (maxL := 2) (ret := none) (by decide) rfl ?_
  intro p e s m args below meth c s₁ B hml hv hd0
  obtain ⟨rfl, hsz, hP, hK, hD0, hT⟩ := hv
  have hx := B.exec
  have hb := B.bytes
  have hr := B.returns
  have hts0 := atoms_spec (ws := wsX12_writes) B.pre
  have hK0 := hK
  have hown0 : s.vm.findClass RX12 = some m.cls := findClass_of_methodNamed B.named
  have hlocks := B.notSynchronized
  have hinX12 : ∀ w ∈ u_ws RX12 TX12 69, w ∈ wsX12_writes := (fun _ h9 => List.mem_cons_of_mem _ (List.mem_append_right _ h9))
  subst hsz
  have hD := hD0.self (sz := s.heap.size)
  generalize hAe : va_A (wM ad cA σ) s.heap.size = A at hD hT ⊢
  have hA : ∀ q : Nat, s.heap.size ≤ q → A q := fun q h => by rw [← hAe]; exact Or.inr h
  have hS : va_S A s.heap s.heap [] := va_S.rf
  have hl := lv_entry ([.ref (ad 0), .int p0]) (n := 2) (Nat.le_of_ble_eq_true rfl)
  rw [lg_entry_eq]
  generalize (lg_sl ([.ref (ad 0), .int p0]) ++ List.replicate (2 - (lg_sl ([.ref (ad 0), .int p0])).length) Slot.unset).toArray = ls at hl ⊢
  have hl : lv_has ls 2 [(0, .ref (ad 0)), (1, .int p0)] := hl
  have hts := dr_words hts0 (s.drawn)
  have hK := gKd hK0 (s.drawn)
  have hown : (s.setDrawn (s.drawn)).vm.findClass RX12 = some m.cls := hown0
  refine lv_aload_n hx hb dX12_writes_0 rfl (lv_at hl 0 rfl) ?_
  refine va_get (D := (dC, dI)) (ci := 11) (v := .ref (ad 23)) (C := RX12) (T := TX12) (N := 69) hx hb hts hinX12 hown hK hP 0 (mat_11 rfl) rfl 45 (by decide) (hts (.fieldLink RX12 83 "BondCalendarsModel" "text" "[B") (by decide +kernel)) (fun _ h9 => h9) rfl dX12_writes_1 ?_
  refine lv_aload_n hx hb dX12_writes_4 rfl (lv_at hl 0 rfl) ?_
  have bd_1 := mrd_11_46 (c := 0) hI rfl
  refine va_get (D := (dC, dI)) (ci := 11) (v := .int ((σ 0).1 46)) (C := RX12) (T := TX12) (N := 69) hx hb hts hinX12 hown hK hP 0 (mat_11 rfl) rfl 46 (by decide) (hts (.fieldLink RX12 451 "BondCalendarsModel" "textMany" "I") (by decide +kernel)) (fun _ h9 => h9) rfl dX12_writes_5 ?_
  refine lv_iload_n hx hb dX12_writes_8 rfl (lv_at hl 1 rfl) ?_
  refine lv_i2b hx hb dX12_writes_9 rfl ?_
  refine lv_topi (fun x_2 _ => ?_)
  refine va_bast hx hb hK hP hD hS 23 23 (mat_63 rfl) (mty_63 rfl) (gin (N := 60) (by decide) bd_1 hh0) dX12_writes_10 (fun H locs hP hD hS => ?_)
  obtain ⟨σ1, eσ1, hP, hD⟩ := gPut (mse_63 rfl) hP hD
  have hIσ1 : InvM σ1 := by rw [eσ1]; exact minv_I hI (mok_63 rfl _ _)
  have frσ1 : mFr [63] [46] σ σ1 := by rw [eσ1]; exact mFr.aI (mFr.rfl (L := [63]) (F := [46]) (σ := σ)) (by decide) (by decide)
  refine lv_aload_n hx hb dX12_writes_11 rfl (lv_at hl 0 rfl) ?_
  refine lv_dup hx hb dX12_writes_12 rfl ?_
  refine va_get (D := (dC, dI)) (ci := 11) (v := .int ((σ 0).1 46)) (C := RX12) (T := TX12) (N := 69) hx hb hts hinX12 hown hK hP 0 (mat_11 rfl) rfl 46 (by decide) (hts (.fieldLink RX12 451 "BondCalendarsModel" "textMany" "I") (by decide +kernel)) (fun _ h9 => h9) (congrArg (fun z => some (Value.int z)) (show (σ1 0).1 46 = ((σ 0).1 46) from by rw [eσ1, gI_ne _ _ _ (by decide)])) dX12_writes_13 ?_
  refine lv_iconst (v := 1) hx hb dX12_writes_16 (by decide) ?_
  refine lv_iadd hx hb dX12_writes_17 ?_
  refine lv_topi (fun x_3 ex_3 => ?_)
  refine va_put (D := (dC, dI)) (ci := 11) (v := .int x_3) (C := RX12) (T := TX12) (N := 69) hx hb hts hinX12 tyX12 tyX12_ok nmX12 hown hK hP hD hS 0 (mat_11 rfl) rfl 46 (by decide) (hts (.fieldLink RX12 451 "BondCalendarsModel" "textMany" "I") (by decide +kernel)) (fun _ h9 => h9) rfl (ty := .int) (by decide +kernel) rfl rfl (Nat.le_of_ble_eq_true rfl) dX12_writes_18 (fun H locs hP hD hS => ?_)
  obtain ⟨σ2, eσ2, hP, hD⟩ := gPut (mse_11_46 rfl) hP hD
  have hIσ2 : InvM σ2 := by rw [eσ2]; exact minv_I hIσ1 (mok_11_46 rfl _ (cnt_0 bd_1 hh0 ex_3))
  have frσ2 : mFr [63] [46] σ σ2 := by rw [eσ2]; exact mFr.oI frσ1 (by decide)
  refine W.endD hd0 ?_
  exact W.vret hx hb hr (fun t ht hW => ⟨⟨σ2, rfl, ⟨hIσ2, frσ2, (by rw [eσ2, gI_self]; exact nd hh0 ex_3)⟩, ⟨by rw [ht]; exact hP, hD⟩⟩, hS.F ht⟩) hS.2.2 dX12_writes_21
set_option maxHeartbeats 8000000 in
set_option maxRecDepth 100000 in
theorem n_X12_writesNumber (l : Launch) (dC : Nat → ClassId) (dI : Nat → Nat → Nat) (ad : Nat → Nat) (cA : Nat → ClassId) (adK adV : Nat → Nat) (sz : Nat) (σ : gs) (hI : InvM σ) (p0 : Int64) (p1 : Int32) (hh0 : ∃ N : Nat, wnN p0 p1 N ∧ ((σ 0).1 46).toInt + N ≤ 60) : MetD lw_cs l yX12_writesNumber wsX12_writesNumber ({ frames := 1, cells := 0, slots := 0, locals := 21 }) (va_Pc [.ref (ad 0), .long p0, .int p1] (gPre adK adV (dC, dI) (wM ad cA σ) (tM cA) sz)) (va_Qv (fun (τ : gs) => InvM τ ∧ mFr [63] [46] σ τ ∧ (∀ N : Nat, wnN p0 p1 N → ((τ 0).1 46).toInt ≤ ((σ 0).1 46).toInt + N)) (fun τ t => gPost (dC, dI) (va_A (wM ad cA σ) sz) (wM ad cA τ) t) (va_A (wM ad cA σ) sz)) 0 0 (va_A (wM ad cA σ) sz) := by
  refine MetD.ofW (cc := cX12_writesNumber) (maxL := 7) (ret := none) (by decide) rfl ?_
  intro p e s m args below meth c s₁ B hml hv hd0
  obtain ⟨rfl, hsz, hP, hK, hD0, hT⟩ := hv
  have hx := B.exec
  have hb := B.bytes
  have hr := B.returns
  have hts0 := atoms_spec (ws := wsX12_writesNumber) B.pre
  have hK0 := hK
  have hown0 : s.vm.findClass RX12 = some m.cls := findClass_of_methodNamed B.named
  have hlocks := B.notSynchronized
  subst hsz
  have hD := hD0.self (sz := s.heap.size)
  generalize hAe : va_A (wM ad cA σ) s.heap.size = A at hD hT ⊢
  have hA : ∀ q : Nat, s.heap.size ≤ q → A q := fun q h => by rw [← hAe]; exact Or.inr h
  have hS : va_S A s.heap s.heap [] := va_S.rf
  have hl := lv_entry ([.ref (ad 0), .long p0, .int p1]) (n := 7) (Nat.le_of_ble_eq_true rfl)
  rw [lg_entry_eq]
  generalize (lg_sl ([.ref (ad 0), .long p0, .int p1]) ++ List.replicate (7 - (lg_sl ([.ref (ad 0), .long p0, .int p1])).length) Slot.unset).toArray = ls at hl ⊢
  have hl : lv_has ls 7 [(0, .ref (ad 0)), (1, .long p0), (3, .int p1)] := hl
  have hts := dr_words hts0 (s.drawn)
  have hK := gKd hK0 (s.drawn)
  have hown : (s.setDrawn (s.drawn)).vm.findClass RX12 = some m.cls := hown0
  refine lv_lconst (v := 1) hx hb dX12_writesNumber_0 (by decide) ?_
  refine lv_lstore (lv' := [(4, .long 1), (0, .ref (ad 0)), (1, .long p0), (3, .int p1)]) hx hb dX12_writesNumber_1 hl (by decide) rfl (fun ls hl => ?_)
  refine lv_iconst (v := 1) hx hb dX12_writesNumber_3 (by decide) ?_
  refine lv_istore (lv' := [(6, .int 1), (4, .long 1), (0, .ref (ad 0)), (1, .long p0), (3, .int p1)]) hx hb dX12_writesNumber_4 hl (by decide) rfl (fun ls hl => ?_)
  refine (fun (h : ∀ (n : Nat) (bz : Int64) (dg : Int32) (σ6x : gs) (d6 : Drawn) (H : Heap) (locs : List Loc) (ls : Array Slot), (20 - dg.toInt).toNat < n → p19 dg bz → (∀ N : Nat, wnN p0 p1 N → dg.toInt ≤ N) → (σ6x 0).1 46 = (σ 0).1 46 → InvM σ6x → mFr [63] [46] σ σ6x → s.drawn.sameBut d6 lw_cs → va_P (dC, dI) vwCl (wM ad cA σ6x) H → va_D A (wM ad cA σ6x) → va_S A s.heap H locs → lv_has ls 7 [(6, .int dg), (4, .long bz), (0, .ref (ad 0)), (1, .long p0), (3, .int p1)] → W p l e _ (s.setDrawn d6) m _ below meth c H locs _ _ _ (F0 m 6 ls [])) => h _ 1 1 σ _ _ _ _ (Nat.lt_succ_self _) (wn_0 (v := p0) (l := p1)).1 (wn_0 (v := p0) (l := p1)).2 (Eq.refl _) hI (mFr.rfl (L := [63]) (F := [46]) (σ := σ)) hd0 hP hD hS (lv_sub hl [0, 1, 2, 3, 4] rfl)) ?_
  intro n6
  induction n6 with
  | zero => intro bz dg σ6x d6 H locs ls hm; exact absurd hm (Nat.not_lt_zero _)
  | succ n6 ih6 =>
    intro bz dg σ6x d6 H locs ls hm6 iv6_0 iv6_1 iv6_2 hIσ6x frσ6x hd0 hP hD hS hl
    have hts := dr_words hts0 (d6)
    have hK := gKd hK0 (d6)
    have hown : (s.setDrawn (d6)).vm.findClass RX12 = some m.cls := hown0
    refine lv_lload_n hx hb dX12_writesNumber_6 rfl (lv_at hl 3 rfl) ?_
    refine lv_lload hx hb dX12_writesNumber_7 (lv_at hl 1 rfl) ?_
    refine lv_ldiv hx hb dX12_writesNumber_9 (p19_ne iv6_0) ?_
    refine lv_topl (fun x_1 ex_1 => ?_)
    refine lv_ldc2 (v := 9) hx hb hown (hts (.constantLong RX12 454 (9)) (by decide +kernel)) dX12_writesNumber_10 ?_
    refine W.lcmp hx hb dX12_writesNumber_13 ?_
    refine lv_if_gt (tgt := 23) hx hb dX12_writesNumber_14 (by decide) (fun c_2 => ?_) (fun c_2 => ?_)
    · refine lv_lload hx hb dX12_writesNumber_23 (lv_at hl 1 rfl) ?_
      refine lv_ldc2 (v := 10) hx hb hown (hts (.constantLong RX12 456 (10)) (by decide +kernel)) dX12_writesNumber_25 ?_
      refine lv_lmul hx hb dX12_writesNumber_28 ?_
      refine lv_topl (fun x_3 ex_3 => ?_)
      refine lv_lstore (lv' := [(4, .long x_3), (6, .int dg), (0, .ref (ad 0)), (1, .long p0), (3, .int p1)]) hx hb dX12_writesNumber_29 hl (by decide) rfl (fun ls hl => ?_)
      obtain ⟨x_4, ex_4⟩ : ∃ zz : Int32, zz = dg + 1 := ⟨_, rfl⟩
      refine lv_iinc (v := x_4) (lv' := [(6, .int x_4), (4, .long x_3), (0, .ref (ad 0)), (1, .long p0), (3, .int p1)]) hx hb dX12_writesNumber_31 hl (k := 1) rfl (by rw [ex_4]; rfl) (by decide) rfl (fun ls hl => ?_)
      refine lv_goto (tgt := 6) hx hb dX12_writesNumber_34 (by decide) ?_
      exact ih6 x_3 x_4 σ6x _ _ _ _ (wn_m iv6_0 (wn_s iv6_0 iv6_1 (wnE hh0) (Or.inr (lgc_9 ex_1 c_2)) ex_3 ex_4).2.2 hm6) (wn_s iv6_0 iv6_1 (wnE hh0) (Or.inr (lgc_9 ex_1 c_2)) ex_3 ex_4).1 (wn_s iv6_0 iv6_1 (wnE hh0) (Or.inr (lgc_9 ex_1 c_2)) ex_3 ex_4).2.1 iv6_2 hIσ6x frσ6x hd0 hP hD hS (lv_sub hl [0, 1, 2, 3, 4] rfl)
    · refine lv_iload hx hb dX12_writesNumber_17 (lv_at hl 0 rfl) ?_
      refine lv_iload_n hx hb dX12_writesNumber_19 rfl (lv_at hl 4 rfl) ?_
      refine lv_icmp_ge (tgt := 37) hx hb dX12_writesNumber_20 (by decide) (fun c_5 => ?_) (fun c_5 => ?_)
      · refine (fun (h : ∀ (n : Nat) (bx : Int64) (σ37x : gs) (d37 : Drawn) (H : Heap) (locs : List Loc) (ls : Array Slot), bx.toInt.toNat < n → WI ((σ 0).1 46) dg ((σ37x 0).1 46) bx → InvM σ37x → mFr [63] [46] σ σ37x → s.drawn.sameBut d37 lw_cs → va_P (dC, dI) vwCl (wM ad cA σ37x) H → va_D A (wM ad cA σ37x) → va_S A s.heap H locs → lv_has ls 7 [(6, .int dg), (4, .long bx), (0, .ref (ad 0)), (1, .long p0), (3, .int p1)] → W p l e _ (s.setDrawn d37) m _ below meth c H locs _ _ _ (F0 m 37 ls [])) => h _ bz σ6x _ _ _ _ (Nat.lt_succ_self _) (by rw [iv6_2]; exact wi_0 iv6_0) hIσ6x frσ6x hd0 hP hD hS (lv_sub hl [0, 1, 2, 3, 4] rfl)) ?_
        intro n37
        induction n37 with
        | zero => intro bx σ37x d37 H locs ls hm; exact absurd hm (Nat.not_lt_zero _)
        | succ n37 ih37 =>
          intro bx σ37x d37 H locs ls hm37 iv37_0 hIσ37x frσ37x hd0 hP hD hS hl
          have hts := dr_words hts0 (d37)
          have hK := gKd hK0 (d37)
          have hown : (s.setDrawn (d37)).vm.findClass RX12 = some m.cls := hown0
          refine lv_lload hx hb dX12_writesNumber_37 (lv_at hl 1 rfl) ?_
          refine lv_lconst (v := 0) hx hb dX12_writesNumber_39 (by decide) ?_
          refine W.lcmp hx hb dX12_writesNumber_40 ?_
          refine lv_if_le (tgt := 71) hx hb dX12_writesNumber_41 (by decide) (fun c_6 => ?_) (fun c_6 => ?_)
          · refine W.endD hd0 ?_
            exact W.vret hx hb hr (fun t ht hW => ⟨⟨σ37x, rfl, ⟨hIσ37x, frσ37x, (wi_e iv37_0 iv6_1).2⟩, ⟨by rw [ht]; exact hP, hD⟩⟩, hS.F ht⟩) hS.2.2 dX12_writesNumber_71
          · refine lv_aload_n hx hb dX12_writesNumber_44 rfl (lv_at hl 2 rfl) ?_
            refine lv_bipush (v := 48) hx hb dX12_writesNumber_45 (by decide) ?_
            refine lv_lload_n hx hb dX12_writesNumber_47 rfl (lv_at hl 3 rfl) ?_
            refine lv_lload hx hb dX12_writesNumber_48 (lv_at hl 1 rfl) ?_
            refine lv_ldiv hx hb dX12_writesNumber_50 (ne_0 c_6) ?_
            refine lv_topl (fun x_7 ex_7 => ?_)
            refine lv_ldc2 (v := 10) hx hb hown (hts (.constantLong RX12 456 (10)) (by decide +kernel)) dX12_writesNumber_51 ?_
            refine lv_lrem hx hb dX12_writesNumber_54 (by decide) ?_
            refine lv_topl (fun x_8 ex_8 => ?_)
            refine lv_l2i hx hb dX12_writesNumber_55 rfl ?_
            refine lv_topi (fun x_9 _ => ?_)
            refine lv_iadd hx hb dX12_writesNumber_56 ?_
            refine lv_topi (fun x_10 ex_10 => ?_)
            have hF := gFree hD hS hA
            refine va_callvD hd0 (va_runV_D (As := [.int x_10]) (rest := []) ⟨hx, hb, hml, hown, hts⟩ (n_X12_writes l dC dI ad cA adK adV H.size σ37x hIσ37x x_10 (wi_lt iv37_0 (wi_ne c_6) iv6_1 hh0)) (cwV 1 hts gX12_writesNumber_X12_writes rfl rfl rfl (by decide +kernel) ⟨Nat.le_of_ble_eq_true rfl, Nat.le_of_ble_eq_true rfl⟩) ⟨gBlind, va_recv hK hP (ci := 11) (q0 := 0) rfl (mat_11 rfl), gStart (As := [.ref (ad 0), .int x_10]) hP hD hK0 hT hS hF (d37)⟩ rfl rfl hl.1 rfl (lv_room (Nat.le_of_ble_eq_true rfl)) dX12_writesNumber_57 ⟨Nat.le_of_ble_eq_true rfl, Nat.le_of_ble_eq_true rfl⟩) hS (fun q _ h => hF q h) hF (fun σ1 t H locs ht hvm hw hB hz1 hk1 hS d_12 hd0 => ?_)
            have hts := dr_words hts0 (d_12)
            have hK := gKd hK0 (d_12)
            have hown : (s.setDrawn (d_12)).vm.findClass RX12 = some m.cls := hown0
            obtain ⟨hP, hD⟩ := gBack hF ht hB
            obtain ⟨hIσ1, fcσ1, hp_13⟩ := hw
            refine lv_lload hx hb dX12_writesNumber_60 (lv_at hl 1 rfl) ?_
            refine lv_ldc2 (v := 10) hx hb hown (hts (.constantLong RX12 456 (10)) (by decide +kernel)) dX12_writesNumber_62 ?_
            refine lv_ldiv hx hb dX12_writesNumber_65 (by decide) ?_
            refine lv_topl (fun x_14 ex_14 => ?_)
            refine lv_lstore (lv' := [(4, .long x_14), (6, .int dg), (0, .ref (ad 0)), (1, .long p0), (3, .int p1)]) hx hb dX12_writesNumber_66 hl (by decide) rfl (fun ls hl => ?_)
            refine lv_goto (tgt := 37) hx hb dX12_writesNumber_68 (by decide) ?_
            exact ih37 x_14 σ1 _ _ _ _ (Nat.lt_of_lt_of_le (wi_s iv37_0 (wi_ne c_6) ex_14 hp_13).2 (Nat.le_of_lt_succ hm37)) (wi_s iv37_0 (wi_ne c_6) ex_14 hp_13).1 hIσ1 (mFr.tr frσ37x fcσ1 (by decide) (by decide)) hd0 hP hD hS (lv_sub hl [1, 0, 2, 3, 4] rfl)
      · refine lv_lload hx hb dX12_writesNumber_23 (lv_at hl 1 rfl) ?_
        refine lv_ldc2 (v := 10) hx hb hown (hts (.constantLong RX12 456 (10)) (by decide +kernel)) dX12_writesNumber_25 ?_
        refine lv_lmul hx hb dX12_writesNumber_28 ?_
        refine lv_topl (fun x_15 ex_15 => ?_)
        refine lv_lstore (lv' := [(4, .long x_15), (6, .int dg), (0, .ref (ad 0)), (1, .long p0), (3, .int p1)]) hx hb dX12_writesNumber_29 hl (by decide) rfl (fun ls hl => ?_)
        obtain ⟨x_16, ex_16⟩ : ∃ zz : Int32, zz = dg + 1 := ⟨_, rfl⟩
        refine lv_iinc (v := x_16) (lv' := [(6, .int x_16), (4, .long x_15), (0, .ref (ad 0)), (1, .long p0), (3, .int p1)]) hx hb dX12_writesNumber_31 hl (k := 1) rfl (by rw [ex_16]; rfl) (by decide) rfl (fun ls hl => ?_)
        refine lv_goto (tgt := 6) hx hb dX12_writesNumber_34 (by decide) ?_
        exact ih6 x_15 x_16 σ6x _ _ _ _ (wn_m iv6_0 (wn_s iv6_0 iv6_1 (wnE hh0) (Or.inl (Int32.lt_iff_toInt_lt.mp (Int32.not_le.mp c_5))) ex_15 ex_16).2.2 hm6) (wn_s iv6_0 iv6_1 (wnE hh0) (Or.inl (Int32.lt_iff_toInt_lt.mp (Int32.not_le.mp c_5))) ex_15 ex_16).1 (wn_s iv6_0 iv6_1 (wnE hh0) (Or.inl (Int32.lt_iff_toInt_lt.mp (Int32.not_le.mp c_5))) ex_15 ex_16).2.1 iv6_2 hIσ6x frσ6x hd0 hP hD hS (lv_sub hl [0, 1, 2, 3, 4] rfl)
set_option maxHeartbeats 8000000 in
set_option maxRecDepth 100000 in
theorem n_X12_writesLine (l : Launch) (dC : Nat → ClassId) (dI : Nat → Nat → Nat) (ad : Nat → Nat) (cA : Nat → ClassId) (adK adV : Nat → Nat) (sz : Nat) (σ : gs) (hI : InvM σ) (p0 : Int32) (p1 : Int32) (hh0 : 0 ≤ p0) (hh1 : p0 < 4) (hh2 : 0 ≤ p1) (hh3 : p1 < 82) (hh4 : GridOK σ p0.toNatClampNeg) : MetD lw_cs l yX12_writesLine wsX12_writesLine ({ frames := 5, cells := 0, slots := 0, locals := 132 }) (va_Pc [.ref (ad 0), .int p0, .int p1] (gPre adK adV (dC, dI) (wM ad cA σ) (tM cA) sz)) (va_Qv (fun (τ : gs) => InvM τ ∧ mFr [63] [46] σ τ ∧ (((τ 0).1 46 ≤ 60))) (fun τ t => gPost (dC, dI) (va_A (wM ad cA σ) sz) (wM ad cA τ) t) (va_A (wM ad cA σ) sz)) 0 0 (va_A (wM ad cA σ) sz) := by
  refine MetD.ofW (cc := cX12_writesLine) (maxL := 4) (ret := none) (by decide) rfl ?_
  intro p e s m args below meth c s₁ B hml hv hd0
  obtain ⟨rfl, hsz, hP, hK, hD0, hT⟩ := hv
  have hx := B.exec
  have hb := B.bytes
  have hr := B.returns
  have hts0 := atoms_spec (ws := wsX12_writesLine) B.pre
  have hK0 := hK
  have hown0 : s.vm.findClass RX12 = some m.cls := findClass_of_methodNamed B.named
  have hlocks := B.notSynchronized
  have hinX12 : ∀ w ∈ u_ws RX12 TX12 69, w ∈ wsX12_writesLine := (fun _ h9 => List.mem_cons_of_mem _ (List.mem_append_right _ h9))
  subst hsz
  have hD := hD0.self (sz := s.heap.size)
  generalize hAe : va_A (wM ad cA σ) s.heap.size = A at hD hT ⊢
  have hA : ∀ q : Nat, s.heap.size ≤ q → A q := fun q h => by rw [← hAe]; exact Or.inr h
  have hS : va_S A s.heap s.heap [] := va_S.rf
  have hl := lv_entry ([.ref (ad 0), .int p0, .int p1]) (n := 4) (Nat.le_of_ble_eq_true rfl)
  rw [lg_entry_eq]
  generalize (lg_sl ([.ref (ad 0), .int p0, .int p1]) ++ List.replicate (4 - (lg_sl ([.ref (ad 0), .int p0, .int p1])).length) Slot.unset).toArray = ls at hl ⊢
  have hl : lv_has ls 4 [(0, .ref (ad 0)), (1, .int p0), (2, .int p1)] := hl
  have hts := dr_words hts0 (s.drawn)
  have hK := gKd hK0 (s.drawn)
  have hown : (s.setDrawn (s.drawn)).vm.findClass RX12 = some m.cls := hown0
  refine lv_aload_n hx hb dX12_writesLine_0 rfl (lv_at hl 0 rfl) ?_
  refine lv_iload_n hx hb dX12_writesLine_1 rfl (lv_at hl 1 rfl) ?_
  refine lv_iload_n hx hb dX12_writesLine_2 rfl (lv_at hl 2 rfl) ?_
  have hF := gFree hD hS hA
  refine va_calliD hd0 (va_runV_D (As := [.int p0, .int p1]) (rest := []) ⟨hx, hb, hml, hown, hts⟩ (n_X12_endOf l dC dI ad cA adK adV s.heap.size σ hI p0 p1 hh0 hh1 hh2 hh3) (cwV 2 hts gX12_writesLine_X12_endOf rfl rfl rfl (by decide +kernel) ⟨Nat.le_of_ble_eq_true rfl, Nat.le_of_ble_eq_true rfl⟩) ⟨gBlind, va_recv hK hP (ci := 11) (q0 := 0) rfl (mat_11 rfl), gStart (As := [.ref (ad 0), .int p0, .int p1]) hP hD hK0 hT hS hF (s.drawn)⟩ rfl rfl hl.1 rfl (lv_room (Nat.le_of_ble_eq_true rfl)) dX12_writesLine_3 ⟨Nat.le_of_ble_eq_true rfl, Nat.le_of_ble_eq_true rfl⟩) hS (fun q _ h => hF q h) hF (fun r_1 σ1 t H locs ht hvm hw hB hz1 hk1 hS d_2 hd0 => ?_)
  have hts := dr_words hts0 (d_2)
  have hK := gKd hK0 (d_2)
  have hown : (s.setDrawn (d_2)).vm.findClass RX12 = some m.cls := hown0
  obtain ⟨hP, hD⟩ := gBack hF ht hB
  obtain ⟨hIσ1, hro, hp_3⟩ := hw
  subst hro
  have eo_4 : ∀ j : Nat, (j : Int) = 82 * p0.toInt + p1.toInt → r_1 = (σ 18).1 j := hp_3.2.2
  refine lv_istore_n (lv' := [(3, .int r_1), (0, .ref (ad 0)), (1, .int p0), (2, .int p1)]) hx hb dX12_writesLine_6 rfl hl (by decide) rfl (fun ls hl => ?_)
  refine lv_aload_n hx hb dX12_writesLine_7 rfl (lv_at hl 1 rfl) ?_
  refine lv_iconst (v := 0) hx hb dX12_writesLine_8 (by decide) ?_
  refine va_put (D := (dC, dI)) (ci := 11) (v := .int 0) (C := RX12) (T := TX12) (N := 69) hx hb hts hinX12 tyX12 tyX12_ok nmX12 hown hK hP hD hS 0 (mat_11 rfl) rfl 46 (by decide) (hts (.fieldLink RX12 451 "BondCalendarsModel" "textMany" "I") (by decide +kernel)) (fun _ h9 => h9) rfl (ty := .int) (by decide +kernel) rfl rfl (Nat.le_of_ble_eq_true rfl) dX12_writesLine_9 (fun H locs hP hD hS => ?_)
  obtain ⟨σ2, eσ2, hP, hD⟩ := gPut (mse_11_46 rfl) hP hD
  have hIσ2 : InvM σ2 := by rw [eσ2]; exact minv_I hI (mok_11_46 rfl _ (show (0 : Int32) ≤ 0 by decide))
  have frσ2 : mFr [63] [46] σ σ2 := by rw [eσ2]; exact mFr.oI (mFr.rfl (L := [63]) (F := [46]) (σ := σ)) (by decide)
  have tm_5 : ((σ2 0).1 46).toInt ≤ (0 : Int) := by rw [eσ2, gI_self]; decide
  refine lv_aload_n hx hb dX12_writesLine_12 rfl (lv_at hl 1 rfl) ?_
  refine lv_iload_n hx hb dX12_writesLine_13 rfl (lv_at hl 0 rfl) ?_
  refine lv_sipush (v := 10000) hx hb dX12_writesLine_14 (by decide) ?_
  refine lv_idiv hx hb dX12_writesLine_17 (by decide) ?_
  refine lv_topi (fun x_6 ex_6 => ?_)
  refine lv_i2l hx hb dX12_writesLine_18 rfl ?_
  refine lv_iconst (v := 4) hx hb dX12_writesLine_19 (by decide) ?_
  have hF := gFree hD hS hA
  refine va_callvD hd0 (va_runV_D (As := [.long (x_6.toInt64), .int 4]) (rest := []) ⟨hx, hb, hml, hown, hts⟩ (n_X12_writesNumber l dC dI ad cA adK adV H.size σ2 hIσ2 (x_6.toInt64) 4 ⟨4, (wn_i (l := 4) (B := 3000) (dv_10k hp_3.1 hp_3.2.1 ex_6) (by decide)), by have h7 := tm_5; omega⟩) (cwV 2 hts gX12_writesLine_X12_writesNumber rfl rfl rfl (by decide +kernel) ⟨Nat.le_of_ble_eq_true rfl, Nat.le_of_ble_eq_true rfl⟩) ⟨gBlind, va_recv hK hP (ci := 11) (q0 := 0) rfl (mat_11 rfl), gStart (As := [.ref (ad 0), .long (x_6.toInt64), .int 4]) hP hD hK0 hT hS hF (d_2)⟩ rfl rfl hl.1 rfl (lv_room (Nat.le_of_ble_eq_true rfl)) dX12_writesLine_20 ⟨Nat.le_of_ble_eq_true rfl, Nat.le_of_ble_eq_true rfl⟩) hS (fun q _ h => hF q h) hF (fun σ3 t H locs ht hvm hw hB hz1 hk1 hS d_8 hd0 => ?_)
  have hts := dr_words hts0 (d_8)
  have hK := gKd hK0 (d_8)
  have hown : (s.setDrawn (d_8)).vm.findClass RX12 = some m.cls := hown0
  obtain ⟨hP, hD⟩ := gBack hF ht hB
  obtain ⟨hIσ3, fcσ3, hp_9⟩ := hw
  have tm_10 : ((σ3 0).1 46).toInt ≤ (4 : Int) := by have h7 := tm_5; have h8 := hp_9 4 (wn_i (l := 4) (B := 3000) (dv_10k hp_3.1 hp_3.2.1 ex_6) (by decide)); omega
  refine lv_aload_n hx hb dX12_writesLine_23 rfl (lv_at hl 1 rfl) ?_
  refine lv_bipush (v := 45) hx hb dX12_writesLine_24 (by decide) ?_
  have hF := gFree hD hS hA
  refine va_callvD hd0 (va_runV_D (As := [.int 45]) (rest := []) ⟨hx, hb, hml, hown, hts⟩ (n_X12_writes l dC dI ad cA adK adV H.size σ3 hIσ3 45 (tm_lt tm_10 (by decide))) (cwV 1 hts gX12_writesLine_X12_writes rfl rfl rfl (by decide +kernel) ⟨Nat.le_of_ble_eq_true rfl, Nat.le_of_ble_eq_true rfl⟩) ⟨gBlind, va_recv hK hP (ci := 11) (q0 := 0) rfl (mat_11 rfl), gStart (As := [.ref (ad 0), .int 45]) hP hD hK0 hT hS hF (d_8)⟩ rfl rfl hl.1 rfl (lv_room (Nat.le_of_ble_eq_true rfl)) dX12_writesLine_26 ⟨Nat.le_of_ble_eq_true rfl, Nat.le_of_ble_eq_true rfl⟩) hS (fun q _ h => hF q h) hF (fun σ4 t H locs ht hvm hw hB hz1 hk1 hS d_12 hd0 => ?_)
  have hts := dr_words hts0 (d_12)
  have hK := gKd hK0 (d_12)
  have hown : (s.setDrawn (d_12)).vm.findClass RX12 = some m.cls := hown0
  obtain ⟨hP, hD⟩ := gBack hF ht hB
  obtain ⟨hIσ4, fcσ4, hp_13⟩ := hw
  have tm_14 : ((σ4 0).1 46).toInt ≤ (5 : Int) := by have h7 := tm_10; have h8 := hp_13; omega
  refine lv_aload_n hx hb dX12_writesLine_29 rfl (lv_at hl 1 rfl) ?_
  refine lv_iload_n hx hb dX12_writesLine_30 rfl (lv_at hl 0 rfl) ?_
  refine lv_bipush (v := 100) hx hb dX12_writesLine_31 (by decide) ?_
  refine lv_idiv hx hb dX12_writesLine_33 (by decide) ?_
  refine lv_topi (fun x_15 ex_15 => ?_)
  refine lv_bipush (v := 100) hx hb dX12_writesLine_34 (by decide) ?_
  refine lv_irem hx hb dX12_writesLine_36 (by decide) ?_
  refine lv_topi (fun x_16 ex_16 => ?_)
  refine lv_i2l hx hb dX12_writesLine_37 rfl ?_
  refine lv_iconst (v := 2) hx hb dX12_writesLine_38 (by decide) ?_
  have hF := gFree hD hS hA
  refine va_callvD hd0 (va_runV_D (As := [.long (x_16.toInt64), .int 2]) (rest := []) ⟨hx, hb, hml, hown, hts⟩ (n_X12_writesNumber l dC dI ad cA adK adV H.size σ4 hIσ4 (x_16.toInt64) 2 ⟨2, (wn_i (l := 2) (B := 99) (rem_99 (dv_pos hp_3.1 hp_3.2.1 ex_15) ex_16) (by decide)), by have h7 := tm_14; omega⟩) (cwV 2 hts gX12_writesLine_X12_writesNumber rfl rfl rfl (by decide +kernel) ⟨Nat.le_of_ble_eq_true rfl, Nat.le_of_ble_eq_true rfl⟩) ⟨gBlind, va_recv hK hP (ci := 11) (q0 := 0) rfl (mat_11 rfl), gStart (As := [.ref (ad 0), .long (x_16.toInt64), .int 2]) hP hD hK0 hT hS hF (d_12)⟩ rfl rfl hl.1 rfl (lv_room (Nat.le_of_ble_eq_true rfl)) dX12_writesLine_39 ⟨Nat.le_of_ble_eq_true rfl, Nat.le_of_ble_eq_true rfl⟩) hS (fun q _ h => hF q h) hF (fun σ5 t H locs ht hvm hw hB hz1 hk1 hS d_18 hd0 => ?_)
  have hts := dr_words hts0 (d_18)
  have hK := gKd hK0 (d_18)
  have hown : (s.setDrawn (d_18)).vm.findClass RX12 = some m.cls := hown0
  obtain ⟨hP, hD⟩ := gBack hF ht hB
  obtain ⟨hIσ5, fcσ5, hp_19⟩ := hw
  have tm_20 : ((σ5 0).1 46).toInt ≤ (7 : Int) := by have h7 := tm_14; have h8 := hp_19 2 (wn_i (l := 2) (B := 99) (rem_99 (dv_pos hp_3.1 hp_3.2.1 ex_15) ex_16) (by decide)); omega
  refine lv_aload_n hx hb dX12_writesLine_42 rfl (lv_at hl 1 rfl) ?_
  refine lv_bipush (v := 45) hx hb dX12_writesLine_43 (by decide) ?_
  have hF := gFree hD hS hA
  refine va_callvD hd0 (va_runV_D (As := [.int 45]) (rest := []) ⟨hx, hb, hml, hown, hts⟩ (n_X12_writes l dC dI ad cA adK adV H.size σ5 hIσ5 45 (tm_lt tm_20 (by decide))) (cwV 1 hts gX12_writesLine_X12_writes rfl rfl rfl (by decide +kernel) ⟨Nat.le_of_ble_eq_true rfl, Nat.le_of_ble_eq_true rfl⟩) ⟨gBlind, va_recv hK hP (ci := 11) (q0 := 0) rfl (mat_11 rfl), gStart (As := [.ref (ad 0), .int 45]) hP hD hK0 hT hS hF (d_18)⟩ rfl rfl hl.1 rfl (lv_room (Nat.le_of_ble_eq_true rfl)) dX12_writesLine_45 ⟨Nat.le_of_ble_eq_true rfl, Nat.le_of_ble_eq_true rfl⟩) hS (fun q _ h => hF q h) hF (fun σ6 t H locs ht hvm hw hB hz1 hk1 hS d_22 hd0 => ?_)
  have hts := dr_words hts0 (d_22)
  have hK := gKd hK0 (d_22)
  have hown : (s.setDrawn (d_22)).vm.findClass RX12 = some m.cls := hown0
  obtain ⟨hP, hD⟩ := gBack hF ht hB
  obtain ⟨hIσ6, fcσ6, hp_23⟩ := hw
  have tm_24 : ((σ6 0).1 46).toInt ≤ (8 : Int) := by have h7 := tm_20; have h8 := hp_23; omega
  refine lv_aload_n hx hb dX12_writesLine_48 rfl (lv_at hl 1 rfl) ?_
  refine lv_iload_n hx hb dX12_writesLine_49 rfl (lv_at hl 0 rfl) ?_
  refine lv_bipush (v := 100) hx hb dX12_writesLine_50 (by decide) ?_
  refine lv_irem hx hb dX12_writesLine_52 (by decide) ?_
  refine lv_topi (fun x_25 ex_25 => ?_)
  refine lv_i2l hx hb dX12_writesLine_53 rfl ?_
  refine lv_iconst (v := 2) hx hb dX12_writesLine_54 (by decide) ?_
  have hF := gFree hD hS hA
  refine va_callvD hd0 (va_runV_D (As := [.long (x_25.toInt64), .int 2]) (rest := []) ⟨hx, hb, hml, hown, hts⟩ (n_X12_writesNumber l dC dI ad cA adK adV H.size σ6 hIσ6 (x_25.toInt64) 2 ⟨2, (wn_i (l := 2) (B := 99) (rem_99 hp_3.1 ex_25) (by decide)), by have h7 := tm_24; omega⟩) (cwV 2 hts gX12_writesLine_X12_writesNumber rfl rfl rfl (by decide +kernel) ⟨Nat.le_of_ble_eq_true rfl, Nat.le_of_ble_eq_true rfl⟩) ⟨gBlind, va_recv hK hP (ci := 11) (q0 := 0) rfl (mat_11 rfl), gStart (As := [.ref (ad 0), .long (x_25.toInt64), .int 2]) hP hD hK0 hT hS hF (d_22)⟩ rfl rfl hl.1 rfl (lv_room (Nat.le_of_ble_eq_true rfl)) dX12_writesLine_55 ⟨Nat.le_of_ble_eq_true rfl, Nat.le_of_ble_eq_true rfl⟩) hS (fun q _ h => hF q h) hF (fun σ7 t H locs ht hvm hw hB hz1 hk1 hS d_27 hd0 => ?_)
  have hts := dr_words hts0 (d_27)
  have hK := gKd hK0 (d_27)
  have hown : (s.setDrawn (d_27)).vm.findClass RX12 = some m.cls := hown0
  obtain ⟨hP, hD⟩ := gBack hF ht hB
  obtain ⟨hIσ7, fcσ7, hp_28⟩ := hw
  have tm_29 : ((σ7 0).1 46).toInt ≤ (10 : Int) := by have h7 := tm_24; have h8 := hp_28 2 (wn_i (l := 2) (B := 99) (rem_99 hp_3.1 ex_25) (by decide)); omega
  refine lv_aload_n hx hb dX12_writesLine_58 rfl (lv_at hl 1 rfl) ?_
  refine lv_bipush (v := 32) hx hb dX12_writesLine_59 (by decide) ?_
  have hF := gFree hD hS hA
  refine va_callvD hd0 (va_runV_D (As := [.int 32]) (rest := []) ⟨hx, hb, hml, hown, hts⟩ (n_X12_writes l dC dI ad cA adK adV H.size σ7 hIσ7 32 (tm_lt tm_29 (by decide))) (cwV 1 hts gX12_writesLine_X12_writes rfl rfl rfl (by decide +kernel) ⟨Nat.le_of_ble_eq_true rfl, Nat.le_of_ble_eq_true rfl⟩) ⟨gBlind, va_recv hK hP (ci := 11) (q0 := 0) rfl (mat_11 rfl), gStart (As := [.ref (ad 0), .int 32]) hP hD hK0 hT hS hF (d_27)⟩ rfl rfl hl.1 rfl (lv_room (Nat.le_of_ble_eq_true rfl)) dX12_writesLine_61 ⟨Nat.le_of_ble_eq_true rfl, Nat.le_of_ble_eq_true rfl⟩) hS (fun q _ h => hF q h) hF (fun σ8 t H locs ht hvm hw hB hz1 hk1 hS d_31 hd0 => ?_)
  have hts := dr_words hts0 (d_31)
  have hK := gKd hK0 (d_31)
  have hown : (s.setDrawn (d_31)).vm.findClass RX12 = some m.cls := hown0
  obtain ⟨hP, hD⟩ := gBack hF ht hB
  obtain ⟨hIσ8, fcσ8, hp_32⟩ := hw
  have tm_33 : ((σ8 0).1 46).toInt ≤ (11 : Int) := by have h7 := tm_29; have h8 := hp_32; omega
  refine lv_aload_n hx hb dX12_writesLine_64 rfl (lv_at hl 1 rfl) ?_
  refine lv_iload_n hx hb dX12_writesLine_65 rfl (lv_at hl 2 rfl) ?_
  refine lv_iload_n hx hb dX12_writesLine_66 rfl (lv_at hl 3 rfl) ?_
  have hF := gFree hD hS hA
  refine va_callvD hd0 (va_runV_D (As := [.int p0, .int p1]) (rest := []) ⟨hx, hb, hml, hown, hts⟩ (n_X12_coupons l dC dI ad cA adK adV H.size σ8 hIσ8 p0 p1 hh0 hh1 hh2 hh3 (GridOK.cells hh4 (by rw [fcσ8.1 2 (by decide) (by decide), fcσ7.1 2 (by decide) (by decide), fcσ6.1 2 (by decide) (by decide), fcσ5.1 2 (by decide) (by decide), fcσ4.1 2 (by decide) (by decide), fcσ3.1 2 (by decide) (by decide), eσ2, gI_ne _ _ _ (by decide)]) (by rw [fcσ8.1 9 (by decide) (by decide), fcσ7.1 9 (by decide) (by decide), fcσ6.1 9 (by decide) (by decide), fcσ5.1 9 (by decide) (by decide), fcσ4.1 9 (by decide) (by decide), fcσ3.1 9 (by decide) (by decide), eσ2, gI_ne _ _ _ (by decide)]))) (cwV 2 hts gX12_writesLine_X12_coupons rfl rfl rfl (by decide +kernel) ⟨Nat.le_of_ble_eq_true rfl, Nat.le_of_ble_eq_true rfl⟩) ⟨gBlind, va_recv hK hP (ci := 11) (q0 := 0) rfl (mat_11 rfl), gStart (As := [.ref (ad 0), .int p0, .int p1]) hP hD hK0 hT hS hF (d_31)⟩ rfl rfl hl.1 rfl (lv_room (Nat.le_of_ble_eq_true rfl)) dX12_writesLine_67 ⟨Nat.le_of_ble_eq_true rfl, Nat.le_of_ble_eq_true rfl⟩) hS (fun q _ h => hF q h) hF (fun σ9 t H locs ht hvm hw hB hz1 hk1 hS d_35 hd0 => ?_)
  have hts := dr_words hts0 (d_35)
  have hK := gKd hK0 (d_35)
  have hown : (s.setDrawn (d_35)).vm.findClass RX12 = some m.cls := hown0
  obtain ⟨hP, hD⟩ := gBack hF ht hB
  obtain ⟨hIσ9, fcσ9, hp_36⟩ := hw
  refine lv_aload_n hx hb dX12_writesLine_70 rfl (lv_at hl 1 rfl) ?_
  refine lv_aload_n hx hb dX12_writesLine_71 rfl (lv_at hl 1 rfl) ?_
  refine va_get (D := (dC, dI)) (ci := 11) (v := .long ((σ9 0).2.1 3)) (C := RX12) (T := TX12) (N := 69) hx hb hts hinX12 hown hK hP 0 (mat_11 rfl) rfl 3 (by decide) (hts (.fieldLink RX12 161 "BondCalendarsModel" "up" "J") (by decide +kernel)) (fun _ h9 => h9) rfl dX12_writesLine_72 ?_
  refine lv_iconst (v := 1) hx hb dX12_writesLine_75 (by decide) ?_
  have hF := gFree hD hS hA
  refine va_callvD hd0 (va_runV_D (As := [.long ((σ9 0).2.1 3), .int 1]) (rest := []) ⟨hx, hb, hml, hown, hts⟩ (n_X12_writesNumber l dC dI ad cA adK adV H.size σ9 hIσ9 ((σ9 0).2.1 3) 1 ⟨19, (wn_19 ((σ9 0).2.1 3)), by have h7 := (show ((σ9 0).1 46).toInt ≤ (11 : Int) from by rw [fcσ9.2 46 (by decide)]; exact tm_33); omega⟩) (cwV 2 hts gX12_writesLine_X12_writesNumber rfl rfl rfl (by decide +kernel) ⟨Nat.le_of_ble_eq_true rfl, Nat.le_of_ble_eq_true rfl⟩) ⟨gBlind, va_recv hK hP (ci := 11) (q0 := 0) rfl (mat_11 rfl), gStart (As := [.ref (ad 0), .long ((σ9 0).2.1 3), .int 1]) hP hD hK0 hT hS hF (d_35)⟩ rfl rfl hl.1 rfl (lv_room (Nat.le_of_ble_eq_true rfl)) dX12_writesLine_76 ⟨Nat.le_of_ble_eq_true rfl, Nat.le_of_ble_eq_true rfl⟩) hS (fun q _ h => hF q h) hF (fun σ10 t H locs ht hvm hw hB hz1 hk1 hS d_38 hd0 => ?_)
  have hts := dr_words hts0 (d_38)
  have hK := gKd hK0 (d_38)
  have hown : (s.setDrawn (d_38)).vm.findClass RX12 = some m.cls := hown0
  obtain ⟨hP, hD⟩ := gBack hF ht hB
  obtain ⟨hIσ10, fcσ10, hp_39⟩ := hw
  have tm_40 : ((σ10 0).1 46).toInt ≤ (30 : Int) := by have h7 := (show ((σ9 0).1 46).toInt ≤ (11 : Int) from by rw [fcσ9.2 46 (by decide)]; exact tm_33); have h8 := hp_39 19 (wn_19 ((σ9 0).2.1 3)); omega
  refine lv_aload_n hx hb dX12_writesLine_79 rfl (lv_at hl 1 rfl) ?_
  refine lv_bipush (v := 47) hx hb dX12_writesLine_80 (by decide) ?_
  have hF := gFree hD hS hA
  refine va_callvD hd0 (va_runV_D (As := [.int 47]) (rest := []) ⟨hx, hb, hml, hown, hts⟩ (n_X12_writes l dC dI ad cA adK adV H.size σ10 hIσ10 47 (tm_lt tm_40 (by decide))) (cwV 1 hts gX12_writesLine_X12_writes rfl rfl rfl (by decide +kernel) ⟨Nat.le_of_ble_eq_true rfl, Nat.le_of_ble_eq_true rfl⟩) ⟨gBlind, va_recv hK hP (ci := 11) (q0 := 0) rfl (mat_11 rfl), gStart (As := [.ref (ad 0), .int 47]) hP hD hK0 hT hS hF (d_38)⟩ rfl rfl hl.1 rfl (lv_room (Nat.le_of_ble_eq_true rfl)) dX12_writesLine_82 ⟨Nat.le_of_ble_eq_true rfl, Nat.le_of_ble_eq_true rfl⟩) hS (fun q _ h => hF q h) hF (fun σ11 t H locs ht hvm hw hB hz1 hk1 hS d_42 hd0 => ?_)
  have hts := dr_words hts0 (d_42)
  have hK := gKd hK0 (d_42)
  have hown : (s.setDrawn (d_42)).vm.findClass RX12 = some m.cls := hown0
  obtain ⟨hP, hD⟩ := gBack hF ht hB
  obtain ⟨hIσ11, fcσ11, hp_43⟩ := hw
  have tm_44 : ((σ11 0).1 46).toInt ≤ (31 : Int) := by have h7 := tm_40; have h8 := hp_43; omega
  refine lv_aload_n hx hb dX12_writesLine_85 rfl (lv_at hl 1 rfl) ?_
  refine lv_aload_n hx hb dX12_writesLine_86 rfl (lv_at hl 1 rfl) ?_
  refine va_get (D := (dC, dI)) (ci := 11) (v := .long ((σ11 0).2.1 4)) (C := RX12) (T := TX12) (N := 69) hx hb hts hinX12 hown hK hP 0 (mat_11 rfl) rfl 4 (by decide) (hts (.fieldLink RX12 165 "BondCalendarsModel" "lo" "J") (by decide +kernel)) (fun _ h9 => h9) rfl dX12_writesLine_87 ?_
  refine lv_iconst (v := 1) hx hb dX12_writesLine_90 (by decide) ?_
  have hF := gFree hD hS hA
  refine va_callvD hd0 (va_runV_D (As := [.long ((σ11 0).2.1 4), .int 1]) (rest := []) ⟨hx, hb, hml, hown, hts⟩ (n_X12_writesNumber l dC dI ad cA adK adV H.size σ11 hIσ11 ((σ11 0).2.1 4) 1 ⟨19, (wn_19 ((σ11 0).2.1 4)), by have h7 := tm_44; omega⟩) (cwV 2 hts gX12_writesLine_X12_writesNumber rfl rfl rfl (by decide +kernel) ⟨Nat.le_of_ble_eq_true rfl, Nat.le_of_ble_eq_true rfl⟩) ⟨gBlind, va_recv hK hP (ci := 11) (q0 := 0) rfl (mat_11 rfl), gStart (As := [.ref (ad 0), .long ((σ11 0).2.1 4), .int 1]) hP hD hK0 hT hS hF (d_42)⟩ rfl rfl hl.1 rfl (lv_room (Nat.le_of_ble_eq_true rfl)) dX12_writesLine_91 ⟨Nat.le_of_ble_eq_true rfl, Nat.le_of_ble_eq_true rfl⟩) hS (fun q _ h => hF q h) hF (fun σ12 t H locs ht hvm hw hB hz1 hk1 hS d_46 hd0 => ?_)
  have hts := dr_words hts0 (d_46)
  have hK := gKd hK0 (d_46)
  have hown : (s.setDrawn (d_46)).vm.findClass RX12 = some m.cls := hown0
  obtain ⟨hP, hD⟩ := gBack hF ht hB
  obtain ⟨hIσ12, fcσ12, hp_47⟩ := hw
  have tm_48 : ((σ12 0).1 46).toInt ≤ (50 : Int) := by have h7 := tm_44; have h8 := hp_47 19 (wn_19 ((σ11 0).2.1 4)); omega
  refine W.endD hd0 ?_
  exact W.vret hx hb hr (fun t ht hW => ⟨⟨σ12, rfl, ⟨hIσ12, (mFr.tr (mFr.tr (mFr.tr (mFr.tr (mFr.tr (mFr.tr (mFr.tr (mFr.tr (mFr.tr (mFr.tr frσ2 fcσ3 (by decide) (by decide)) fcσ4 (by decide) (by decide)) fcσ5 (by decide) (by decide)) fcσ6 (by decide) (by decide)) fcσ7 (by decide) (by decide)) fcσ8 (by decide) (by decide)) fcσ9 (by decide) (by decide)) fcσ10 (by decide) (by decide)) fcσ11 (by decide) (by decide)) fcσ12 (by decide) (by decide)), (tm_le tm_48 (by decide))⟩, ⟨by rw [ht]; exact hP, hD⟩⟩, hS.F ht⟩) hS.2.2 dX12_writesLine_94
set_option maxHeartbeats 8000000 in
set_option maxRecDepth 100000 in
theorem n_X12_line (l : Launch) (dC : Nat → ClassId) (dI : Nat → Nat → Nat) (ad : Nat → Nat) (cA : Nat → ClassId) (adK adV : Nat → Nat) (sz : Nat) (σ : gs) (hI : InvM σ) (p0 : Int32) (p1 : Int32) (hh0 : Deep σ) : MetD lw_cs l yX12_line wsX12_line ({ frames := 6, cells := 0, slots := 0, locals := 155 }) (va_Pc [.ref (ad 0), .int p0, .int p1] (gPre adK adV (dC, dI) (wM ad cA σ) (tM cA) sz)) (va_Qi (fun (r : Int32) (τ : gs) => InvM τ ∧ mFr [63] [0, 1, 2, 46] σ τ ∧ (True)) (fun τ t => gPost (dC, dI) (va_A (wM ad cA σ) sz) (wM ad cA τ) t) (va_A (wM ad cA σ) sz)) 0 0 (va_A (wM ad cA σ) sz) := by
  refine MetD.ofW (cc := cX12_line) (maxL := 3) (ret := (some .int)) (by decide) rfl ?_
  intro p e s m args below meth c s₁ B hml hv hd0
  obtain ⟨rfl, hsz, hP, hK, hD0, hT⟩ := hv
  have hx := B.exec
  have hb := B.bytes
  have hr := B.returns
  have hts0 := atoms_spec (ws := wsX12_line) B.pre
  have hK0 := hK
  have hown0 : s.vm.findClass RX12 = some m.cls := findClass_of_methodNamed B.named
  have hlocks := B.notSynchronized
  have hinX12 : ∀ w ∈ u_ws RX12 TX12 69, w ∈ wsX12_line := (fun _ h9 => List.mem_cons_of_mem _ (List.mem_append_right _ h9))
  subst hsz
  have hD := hD0.self (sz := s.heap.size)
  generalize hAe : va_A (wM ad cA σ) s.heap.size = A at hD hT ⊢
  have hA : ∀ q : Nat, s.heap.size ≤ q → A q := fun q h => by rw [← hAe]; exact Or.inr h
  have hS : va_S A s.heap s.heap [] := va_S.rf
  have hl := lv_entry ([.ref (ad 0), .int p0, .int p1]) (n := 3) (Nat.le_of_ble_eq_true rfl)
  rw [lg_entry_eq]
  generalize (lg_sl ([.ref (ad 0), .int p0, .int p1]) ++ List.replicate (3 - (lg_sl ([.ref (ad 0), .int p0, .int p1])).length) Slot.unset).toArray = ls at hl ⊢
  have hl : lv_has ls 3 [(0, .ref (ad 0)), (1, .int p0), (2, .int p1)] := hl
  have hts := dr_words hts0 (s.drawn)
  have hK := gKd hK0 (s.drawn)
  have hown : (s.setDrawn (s.drawn)).vm.findClass RX12 = some m.cls := hown0
  refine lv_aload_n hx hb dX12_line_0 rfl (lv_at hl 0 rfl) ?_
  refine lv_iconst (v := 0) hx hb dX12_line_1 (by decide) ?_
  refine va_put (D := (dC, dI)) (ci := 11) (v := .int 0) (C := RX12) (T := TX12) (N := 69) hx hb hts hinX12 tyX12 tyX12_ok nmX12 hown hK hP hD hS 0 (mat_11 rfl) rfl 0 (by decide) (hts (.fieldLink RX12 107 "BondCalendarsModel" "thrown" "I") (by decide +kernel)) (fun _ h9 => h9) rfl (ty := .int) (by decide +kernel) rfl rfl (Nat.le_of_ble_eq_true rfl) dX12_line_2 (fun H locs hP hD hS => ?_)
  obtain ⟨σ1, eσ1, hP, hD⟩ := gPut (mse_11_0 rfl) hP hD
  have hIσ1 : InvM σ1 := by rw [eσ1]; exact minv_I hI (mok_11_0 rfl _)
  have frσ1 : mFr [63] [0, 1, 2, 46] σ σ1 := by rw [eσ1]; exact mFr.oI (mFr.rfl (L := [63]) (F := [0, 1, 2, 46]) (σ := σ)) (by decide)
  refine lv_aload_n hx hb dX12_line_5 rfl (lv_at hl 0 rfl) ?_
  refine lv_iload_n hx hb dX12_line_6 rfl (lv_at hl 1 rfl) ?_
  refine lv_iload_n hx hb dX12_line_7 rfl (lv_at hl 2 rfl) ?_
  have hF := gFree hD hS hA
  refine va_calliD hd0 (va_runV_D (As := [.int p0, .int p1]) (rest := []) ⟨hx, hb, hml, hown, hts⟩ (n_X12_isPeriod l dC dI ad cA adK adV H.size σ1 hIσ1 p0 p1) (cwV 2 hts gX12_line_X12_isPeriod rfl rfl rfl (by decide +kernel) ⟨Nat.le_of_ble_eq_true rfl, Nat.le_of_ble_eq_true rfl⟩) ⟨gBlind, va_recv hK hP (ci := 11) (q0 := 0) rfl (mat_11 rfl), gStart (As := [.ref (ad 0), .int p0, .int p1]) hP hD hK0 hT hS hF (s.drawn)⟩ rfl rfl hl.1 rfl (lv_room (Nat.le_of_ble_eq_true rfl)) dX12_line_8 ⟨Nat.le_of_ble_eq_true rfl, Nat.le_of_ble_eq_true rfl⟩) hS (fun q _ h => hF q h) hF (fun r_1 σ2 t H locs ht hvm hw hB hz1 hk1 hS d_2 hd0 => ?_)
  have hts := dr_words hts0 (d_2)
  have hK := gKd hK0 (d_2)
  have hown : (s.setDrawn (d_2)).vm.findClass RX12 = some m.cls := hown0
  obtain ⟨hP, hD⟩ := gBack hF ht hB
  obtain ⟨hIσ2, hro, hp_3⟩ := hw
  subst hro
  have bd_4 := mrd_11_20 (c := 0) hI rfl
  have im_5 : (1 : Int32) ≤ (r_1 : Int32) → (p0 : Int32) < ((σ 0).1 20 : Int32) := fun h9 => lt_ch (Eq.refl _).symm (show ((σ1 0).1 20 : Int32) = ((σ 0).1 20 : Int32) from by rw [eσ1, gI_oth _ _ _ (by decide)]).symm (hp_3.2.2.1 (le_ch (Eq.refl _) (Eq.refl _) h9))
  have im_6 : (1 : Int32) ≤ (r_1 : Int32) → (p1 : Int32) < ((σ 17).1 p0.toNatClampNeg : Int32) := fun h9 => lt_ch (Eq.refl _).symm (show ((σ1 17).1 p0.toNatClampNeg : Int32) = ((σ 17).1 p0.toNatClampNeg : Int32) from by rw [eσ1, gI_ne _ _ _ (by decide)]).symm (hp_3.2.2.2.2.1 (le_ch (Eq.refl _) (Eq.refl _) h9))
  refine lv_if_ne (tgt := 20) hx hb dX12_line_11 (by decide) (fun c_7 => ?_) (fun c_7 => ?_)
  · refine lv_aload_n hx hb dX12_line_20 rfl (lv_at hl 0 rfl) ?_
    refine lv_iload_n hx hb dX12_line_21 rfl (lv_at hl 1 rfl) ?_
    refine lv_iload_n hx hb dX12_line_22 rfl (lv_at hl 2 rfl) ?_
    have hF := gFree hD hS hA
    refine va_callvD hd0 (va_runV_D (As := [.int p0, .int p1]) (rest := []) ⟨hx, hb, hml, hown, hts⟩ (n_X12_writesLine l dC dI ad cA adK adV H.size σ1 hIσ1 p0 p1 ((hp_3.2.1) (gl1 (b := 1) (ne_lt (b01_0 hp_3.1) c_7) (by decide))) (Int32.lt_of_lt_of_le (im_5 (gl1 (b := 1) (ne_lt (b01_0 hp_3.1) c_7) (by decide))) bd_4.2) ((hp_3.2.2.2.1) (gl1 (b := 1) (ne_lt (b01_0 hp_3.1) c_7) (by decide))) ((hp_3.2.2.2.2.2) (gl1 (b := 1) (ne_lt (b01_0 hp_3.1) c_7) (by decide))) ((Deep.fr hh0 (by rw [eσ1, gI_ne _ _ _ (by decide)]) (by rw [eσ1, gI_ne _ _ _ (by decide)]) (by rw [eσ1, gI_ne _ _ _ (by decide)]) (by rw [eσ1, gI_ne _ _ _ (by decide)]) (by rw [eσ1, gI_ne _ _ _ (by decide)]) (by rw [eσ1, gI_ne _ _ _ (by decide)]) (by rw [eσ1, gI_ne _ _ _ (by decide)]) (by rw [eσ1, gI_oth _ _ _ (by decide)]) (by rw [eσ1, gI_oth _ _ _ (by decide)]) (by rw [eσ1, gI_oth _ _ _ (by decide)]) (by rw [eσ1, gI_oth _ _ _ (by decide)]) (by rw [eσ1, gI_oth _ _ _ (by decide)]) (by rw [eσ1, gI_oth _ _ _ (by decide)])).1 _ (nc_lt ((hp_3.2.1) (gl1 (b := 1) (ne_lt (b01_0 hp_3.1) c_7) (by decide))) (lt_ch (Eq.refl _) (show ((σ1 0).1 20 : Int32) = ((σ 0).1 20 : Int32) from by rw [eσ1, gI_oth _ _ _ (by decide)]) (im_5 (gl1 (b := 1) (ne_lt (b01_0 hp_3.1) c_7) (by decide)))))).1) (cwV 2 hts gX12_line_X12_writesLine rfl rfl rfl (by decide +kernel) ⟨Nat.le_of_ble_eq_true rfl, Nat.le_of_ble_eq_true rfl⟩) ⟨gBlind, va_recv hK hP (ci := 11) (q0 := 0) rfl (mat_11 rfl), gStart (As := [.ref (ad 0), .int p0, .int p1]) hP hD hK0 hT hS hF (d_2)⟩ rfl rfl hl.1 rfl (lv_room (Nat.le_of_ble_eq_true rfl)) dX12_line_23 ⟨Nat.le_of_ble_eq_true rfl, Nat.le_of_ble_eq_true rfl⟩) hS (fun q _ h => hF q h) hF (fun σ3 t H locs ht hvm hw hB hz1 hk1 hS d_9 hd0 => ?_)
    have hts := dr_words hts0 (d_9)
    have hK := gKd hK0 (d_9)
    have hown : (s.setDrawn (d_9)).vm.findClass RX12 = some m.cls := hown0
    obtain ⟨hP, hD⟩ := gBack hF ht hB
    obtain ⟨hIσ3, fcσ3, hp_10⟩ := hw
    refine lv_aload_n hx hb dX12_line_26 rfl (lv_at hl 0 rfl) ?_
    refine lv_aload_n hx hb dX12_line_27 rfl (lv_at hl 0 rfl) ?_
    have bd_11 := mrd_11_46 (c := 0) hIσ3 rfl
    refine va_get (D := (dC, dI)) (ci := 11) (v := .int ((σ3 0).1 46)) (C := RX12) (T := TX12) (N := 69) hx hb hts hinX12 hown hK hP 0 (mat_11 rfl) rfl 46 (by decide) (hts (.fieldLink RX12 451 "BondCalendarsModel" "textMany" "I") (by decide +kernel)) (fun _ h9 => h9) rfl dX12_line_28 ?_
    have hF := gFree hD hS hA
    refine va_calliD hd0 (va_runV_D (As := [.int ((σ3 0).1 46)]) (rest := []) ⟨hx, hb, hml, hown, hts⟩ (n_X12_good l dC dI ad cA adK adV H.size σ3 hIσ3 ((σ3 0).1 46)) (cwV 1 hts gX12_line_X12_good rfl rfl rfl (by decide +kernel) ⟨Nat.le_of_ble_eq_true rfl, Nat.le_of_ble_eq_true rfl⟩) ⟨gBlind, va_recv hK hP (ci := 11) (q0 := 0) rfl (mat_11 rfl), gStart (As := [.ref (ad 0), .int ((σ3 0).1 46)]) hP hD hK0 hT hS hF (d_9)⟩ rfl rfl hl.1 rfl (lv_room (Nat.le_of_ble_eq_true rfl)) dX12_line_31 ⟨Nat.le_of_ble_eq_true rfl, Nat.le_of_ble_eq_true rfl⟩) hS (fun q _ h => hF q h) hF (fun r_12 σ4 t H locs ht hvm hw hB hz1 hk1 hS d_13 hd0 => ?_)
    have hts := dr_words hts0 (d_13)
    have hK := gKd hK0 (d_13)
    have hown : (s.setDrawn (d_13)).vm.findClass RX12 = some m.cls := hown0
    obtain ⟨hP, hD⟩ := gBack hF ht hB
    obtain ⟨hIσ4, fcσ4, hp_14⟩ := hw
    refine W.endD hd0 ?_
    exact W.iret (v := r_12) hx hb hr (fun t ht hW => ⟨⟨r_12, σ4, rfl, ⟨hIσ4, (mFr.tr (mFr.tr frσ1 fcσ3 (by decide) (by decide)) fcσ4 (by decide) (by decide)), trivial⟩, ⟨by rw [ht]; exact hP, hD⟩⟩, hS.F ht⟩) hS.2.2 dX12_line_34
  · refine lv_aload_n hx hb dX12_line_14 rfl (lv_at hl 0 rfl) ?_
    refine lv_iconst (v := 1) hx hb dX12_line_15 (by decide) ?_
    have hF := gFree hD hS hA
    refine va_calliD hd0 (va_runV_D (As := [.int 1]) (rest := []) ⟨hx, hb, hml, hown, hts⟩ (n_X12_refused l dC dI ad cA adK adV H.size σ1 hIσ1 1) (cwV 1 hts gX12_line_X12_refused rfl rfl rfl (by decide +kernel) ⟨Nat.le_of_ble_eq_true rfl, Nat.le_of_ble_eq_true rfl⟩) ⟨gBlind, va_recv hK hP (ci := 11) (q0 := 0) rfl (mat_11 rfl), gStart (As := [.ref (ad 0), .int 1]) hP hD hK0 hT hS hF (d_2)⟩ rfl rfl hl.1 rfl (lv_room (Nat.le_of_ble_eq_true rfl)) dX12_line_16 ⟨Nat.le_of_ble_eq_true rfl, Nat.le_of_ble_eq_true rfl⟩) hS (fun q _ h => hF q h) hF (fun r_15 σ5 t H locs ht hvm hw hB hz1 hk1 hS d_16 hd0 => ?_)
    have hts := dr_words hts0 (d_16)
    have hK := gKd hK0 (d_16)
    have hown : (s.setDrawn (d_16)).vm.findClass RX12 = some m.cls := hown0
    obtain ⟨hP, hD⟩ := gBack hF ht hB
    obtain ⟨hIσ5, fcσ5, hp_17⟩ := hw
    refine W.endD hd0 ?_
    exact W.iret (v := r_15) hx hb hr (fun t ht hW => ⟨⟨r_15, σ5, rfl, ⟨hIσ5, (mFr.tr frσ1 fcσ5 (by decide) (by decide)), trivial⟩, ⟨by rw [ht]; exact hP, hD⟩⟩, hS.F ht⟩) hS.2.2 dX12_line_19
set_option maxHeartbeats 8000000 in
set_option maxRecDepth 100000 in
theorem n_X12_sign (l : Launch) (dC : Nat → ClassId) (dI : Nat → Nat → Nat) (ad : Nat → Nat) (cA : Nat → ClassId) (adK adV : Nat → Nat) (sz : Nat) (σ : gs) (hI : InvM σ) (p0 : Int32) (p1 : Int32) (p2 : Int32) (hh0 : Deep σ) : MetD lw_cs l yX12_sign wsX12_sign ({ frames := 6, cells := 0, slots := 0, locals := 155 }) (va_Pc [.ref (ad 0), .int p0, .int p1, .int p2] (gPre adK adV (dC, dI) (wM ad cA σ) (tM cA) sz)) (va_Qi (fun (r : Int32) (τ : gs) => InvM τ ∧ mFr [63] [0, 1, 2, 46] σ τ ∧ (True)) (fun τ t => gPost (dC, dI) (va_A (wM ad cA σ) sz) (wM ad cA τ) t) (va_A (wM ad cA σ) sz)) 0 0 (va_A (wM ad cA σ) sz) := by
  refine MetD.ofW (cc := cX12_sign) (maxL := 4) (ret := (some .int)) (by decide) rfl ?_
  intro p e s m args below meth c s₁ B hml hv hd0
  obtain ⟨rfl, hsz, hP, hK, hD0, hT⟩ := hv
  have hx := B.exec
  have hb := B.bytes
  have hr := B.returns
  have hts0 := atoms_spec (ws := wsX12_sign) B.pre
  have hK0 := hK
  have hown0 : s.vm.findClass RX12 = some m.cls := findClass_of_methodNamed B.named
  have hlocks := B.notSynchronized
  have hinX12 : ∀ w ∈ u_ws RX12 TX12 69, w ∈ wsX12_sign := (fun _ h9 => List.mem_cons_of_mem _ (List.mem_append_right _ h9))
  subst hsz
  have hD := hD0.self (sz := s.heap.size)
  generalize hAe : va_A (wM ad cA σ) s.heap.size = A at hD hT ⊢
  have hA : ∀ q : Nat, s.heap.size ≤ q → A q := fun q h => by rw [← hAe]; exact Or.inr h
  have hS : va_S A s.heap s.heap [] := va_S.rf
  have hl := lv_entry ([.ref (ad 0), .int p0, .int p1, .int p2]) (n := 4) (Nat.le_of_ble_eq_true rfl)
  rw [lg_entry_eq]
  generalize (lg_sl ([.ref (ad 0), .int p0, .int p1, .int p2]) ++ List.replicate (4 - (lg_sl ([.ref (ad 0), .int p0, .int p1, .int p2])).length) Slot.unset).toArray = ls at hl ⊢
  have hl : lv_has ls 4 [(0, .ref (ad 0)), (1, .int p0), (2, .int p1), (3, .int p2)] := hl
  have hts := dr_words hts0 (s.drawn)
  have hK := gKd hK0 (s.drawn)
  have hown : (s.setDrawn (s.drawn)).vm.findClass RX12 = some m.cls := hown0
  refine lv_aload_n hx hb dX12_sign_0 rfl (lv_at hl 0 rfl) ?_
  refine lv_iconst (v := 0) hx hb dX12_sign_1 (by decide) ?_
  refine va_put (D := (dC, dI)) (ci := 11) (v := .int 0) (C := RX12) (T := TX12) (N := 69) hx hb hts hinX12 tyX12 tyX12_ok nmX12 hown hK hP hD hS 0 (mat_11 rfl) rfl 0 (by decide) (hts (.fieldLink RX12 107 "BondCalendarsModel" "thrown" "I") (by decide +kernel)) (fun _ h9 => h9) rfl (ty := .int) (by decide +kernel) rfl rfl (Nat.le_of_ble_eq_true rfl) dX12_sign_2 (fun H locs hP hD hS => ?_)
  obtain ⟨σ1, eσ1, hP, hD⟩ := gPut (mse_11_0 rfl) hP hD
  have hIσ1 : InvM σ1 := by rw [eσ1]; exact minv_I hI (mok_11_0 rfl _)
  have frσ1 : mFr [63] [0, 1, 2, 46] σ σ1 := by rw [eσ1]; exact mFr.oI (mFr.rfl (L := [63]) (F := [0, 1, 2, 46]) (σ := σ)) (by decide)
  refine lv_aload_n hx hb dX12_sign_5 rfl (lv_at hl 0 rfl) ?_
  refine lv_iload_n hx hb dX12_sign_6 rfl (lv_at hl 1 rfl) ?_
  refine lv_iload_n hx hb dX12_sign_7 rfl (lv_at hl 2 rfl) ?_
  have hF := gFree hD hS hA
  refine va_calliD hd0 (va_runV_D (As := [.int p0, .int p1]) (rest := []) ⟨hx, hb, hml, hown, hts⟩ (n_X12_isPeriod l dC dI ad cA adK adV H.size σ1 hIσ1 p0 p1) (cwV 2 hts gX12_sign_X12_isPeriod rfl rfl rfl (by decide +kernel) ⟨Nat.le_of_ble_eq_true rfl, Nat.le_of_ble_eq_true rfl⟩) ⟨gBlind, va_recv hK hP (ci := 11) (q0 := 0) rfl (mat_11 rfl), gStart (As := [.ref (ad 0), .int p0, .int p1]) hP hD hK0 hT hS hF (s.drawn)⟩ rfl rfl hl.1 rfl (lv_room (Nat.le_of_ble_eq_true rfl)) dX12_sign_8 ⟨Nat.le_of_ble_eq_true rfl, Nat.le_of_ble_eq_true rfl⟩) hS (fun q _ h => hF q h) hF (fun r_1 σ2 t H locs ht hvm hw hB hz1 hk1 hS d_2 hd0 => ?_)
  have hts := dr_words hts0 (d_2)
  have hK := gKd hK0 (d_2)
  have hown : (s.setDrawn (d_2)).vm.findClass RX12 = some m.cls := hown0
  obtain ⟨hP, hD⟩ := gBack hF ht hB
  obtain ⟨hIσ2, hro, hp_3⟩ := hw
  subst hro
  have bd_4 := mrd_11_20 (c := 0) hI rfl
  have im_5 : (1 : Int32) ≤ (r_1 : Int32) → (p0 : Int32) < ((σ 0).1 20 : Int32) := fun h9 => lt_ch (Eq.refl _).symm (show ((σ1 0).1 20 : Int32) = ((σ 0).1 20 : Int32) from by rw [eσ1, gI_oth _ _ _ (by decide)]).symm (hp_3.2.2.1 (le_ch (Eq.refl _) (Eq.refl _) h9))
  have im_6 : (1 : Int32) ≤ (r_1 : Int32) → (p1 : Int32) < ((σ 17).1 p0.toNatClampNeg : Int32) := fun h9 => lt_ch (Eq.refl _).symm (show ((σ1 17).1 p0.toNatClampNeg : Int32) = ((σ 17).1 p0.toNatClampNeg : Int32) from by rw [eσ1, gI_ne _ _ _ (by decide)]).symm (hp_3.2.2.2.2.1 (le_ch (Eq.refl _) (Eq.refl _) h9))
  refine lv_if_eq (tgt := 18) hx hb dX12_sign_11 (by decide) (fun c_7 => ?_) (fun c_7 => ?_)
  · refine lv_aload_n hx hb dX12_sign_18 rfl (lv_at hl 0 rfl) ?_
    refine lv_iconst (v := 1) hx hb dX12_sign_19 (by decide) ?_
    have hF := gFree hD hS hA
    refine va_calliD hd0 (va_runV_D (As := [.int 1]) (rest := []) ⟨hx, hb, hml, hown, hts⟩ (n_X12_refused l dC dI ad cA adK adV H.size σ1 hIσ1 1) (cwV 1 hts gX12_sign_X12_refused rfl rfl rfl (by decide +kernel) ⟨Nat.le_of_ble_eq_true rfl, Nat.le_of_ble_eq_true rfl⟩) ⟨gBlind, va_recv hK hP (ci := 11) (q0 := 0) rfl (mat_11 rfl), gStart (As := [.ref (ad 0), .int 1]) hP hD hK0 hT hS hF (d_2)⟩ rfl rfl hl.1 rfl (lv_room (Nat.le_of_ble_eq_true rfl)) dX12_sign_20 ⟨Nat.le_of_ble_eq_true rfl, Nat.le_of_ble_eq_true rfl⟩) hS (fun q _ h => hF q h) hF (fun r_8 σ3 t H locs ht hvm hw hB hz1 hk1 hS d_9 hd0 => ?_)
    have hts := dr_words hts0 (d_9)
    have hK := gKd hK0 (d_9)
    have hown : (s.setDrawn (d_9)).vm.findClass RX12 = some m.cls := hown0
    obtain ⟨hP, hD⟩ := gBack hF ht hB
    obtain ⟨hIσ3, fcσ3, hp_10⟩ := hw
    refine W.endD hd0 ?_
    exact W.iret (v := r_8) hx hb hr (fun t ht hW => ⟨⟨r_8, σ3, rfl, ⟨hIσ3, (mFr.tr frσ1 fcσ3 (by decide) (by decide)), trivial⟩, ⟨by rw [ht]; exact hP, hD⟩⟩, hS.F ht⟩) hS.2.2 dX12_sign_23
  · refine lv_iload_n hx hb dX12_sign_14 rfl (lv_at hl 3 rfl) ?_
    refine lv_if_ge (tgt := 24) hx hb dX12_sign_15 (by decide) (fun c_11 => ?_) (fun c_11 => ?_)
    · refine lv_aload_n hx hb dX12_sign_24 rfl (lv_at hl 0 rfl) ?_
      refine lv_iload_n hx hb dX12_sign_25 rfl (lv_at hl 1 rfl) ?_
      refine lv_iload_n hx hb dX12_sign_26 rfl (lv_at hl 2 rfl) ?_
      have hF := gFree hD hS hA
      refine va_callvD hd0 (va_runV_D (As := [.int p0, .int p1]) (rest := []) ⟨hx, hb, hml, hown, hts⟩ (n_X12_writesLine l dC dI ad cA adK adV H.size σ1 hIσ1 p0 p1 ((hp_3.2.1) (gl1 (b := 1) (ne_lt (b01_0 hp_3.1) c_7) (by decide))) (Int32.lt_of_lt_of_le (im_5 (gl1 (b := 1) (ne_lt (b01_0 hp_3.1) c_7) (by decide))) bd_4.2) ((hp_3.2.2.2.1) (gl1 (b := 1) (ne_lt (b01_0 hp_3.1) c_7) (by decide))) ((hp_3.2.2.2.2.2) (gl1 (b := 1) (ne_lt (b01_0 hp_3.1) c_7) (by decide))) ((Deep.fr hh0 (by rw [eσ1, gI_ne _ _ _ (by decide)]) (by rw [eσ1, gI_ne _ _ _ (by decide)]) (by rw [eσ1, gI_ne _ _ _ (by decide)]) (by rw [eσ1, gI_ne _ _ _ (by decide)]) (by rw [eσ1, gI_ne _ _ _ (by decide)]) (by rw [eσ1, gI_ne _ _ _ (by decide)]) (by rw [eσ1, gI_ne _ _ _ (by decide)]) (by rw [eσ1, gI_oth _ _ _ (by decide)]) (by rw [eσ1, gI_oth _ _ _ (by decide)]) (by rw [eσ1, gI_oth _ _ _ (by decide)]) (by rw [eσ1, gI_oth _ _ _ (by decide)]) (by rw [eσ1, gI_oth _ _ _ (by decide)]) (by rw [eσ1, gI_oth _ _ _ (by decide)])).1 _ (nc_lt ((hp_3.2.1) (gl1 (b := 1) (ne_lt (b01_0 hp_3.1) c_7) (by decide))) (lt_ch (Eq.refl _) (show ((σ1 0).1 20 : Int32) = ((σ 0).1 20 : Int32) from by rw [eσ1, gI_oth _ _ _ (by decide)]) (im_5 (gl1 (b := 1) (ne_lt (b01_0 hp_3.1) c_7) (by decide)))))).1) (cwV 2 hts gX12_sign_X12_writesLine rfl rfl rfl (by decide +kernel) ⟨Nat.le_of_ble_eq_true rfl, Nat.le_of_ble_eq_true rfl⟩) ⟨gBlind, va_recv hK hP (ci := 11) (q0 := 0) rfl (mat_11 rfl), gStart (As := [.ref (ad 0), .int p0, .int p1]) hP hD hK0 hT hS hF (d_2)⟩ rfl rfl hl.1 rfl (lv_room (Nat.le_of_ble_eq_true rfl)) dX12_sign_27 ⟨Nat.le_of_ble_eq_true rfl, Nat.le_of_ble_eq_true rfl⟩) hS (fun q _ h => hF q h) hF (fun σ4 t H locs ht hvm hw hB hz1 hk1 hS d_13 hd0 => ?_)
      have hts := dr_words hts0 (d_13)
      have hK := gKd hK0 (d_13)
      have hown : (s.setDrawn (d_13)).vm.findClass RX12 = some m.cls := hown0
      obtain ⟨hP, hD⟩ := gBack hF ht hB
      obtain ⟨hIσ4, fcσ4, hp_14⟩ := hw
      refine lv_iload_n hx hb dX12_sign_30 rfl (lv_at hl 3 rfl) ?_
      refine lv_aload_n hx hb dX12_sign_31 rfl (lv_at hl 0 rfl) ?_
      have bd_15 := mrd_11_46 (c := 0) hIσ4 rfl
      refine va_get (D := (dC, dI)) (ci := 11) (v := .int ((σ4 0).1 46)) (C := RX12) (T := TX12) (N := 69) hx hb hts hinX12 hown hK hP 0 (mat_11 rfl) rfl 46 (by decide) (hts (.fieldLink RX12 451 "BondCalendarsModel" "textMany" "I") (by decide +kernel)) (fun _ h9 => h9) rfl dX12_sign_32 ?_
      refine lv_icmp_ge (tgt := 51) hx hb dX12_sign_35 (by decide) (fun c_16 => ?_) (fun c_16 => ?_)
      · refine lv_aload_n hx hb dX12_sign_51 rfl (lv_at hl 0 rfl) ?_
        refine lv_iconst (v := 1) hx hb dX12_sign_52 (by decide) ?_
        have hF := gFree hD hS hA
        refine va_calliD hd0 (va_runV_D (As := [.int 1]) (rest := []) ⟨hx, hb, hml, hown, hts⟩ (n_X12_refused l dC dI ad cA adK adV H.size σ4 hIσ4 1) (cwV 1 hts gX12_sign_X12_refused rfl rfl rfl (by decide +kernel) ⟨Nat.le_of_ble_eq_true rfl, Nat.le_of_ble_eq_true rfl⟩) ⟨gBlind, va_recv hK hP (ci := 11) (q0 := 0) rfl (mat_11 rfl), gStart (As := [.ref (ad 0), .int 1]) hP hD hK0 hT hS hF (d_13)⟩ rfl rfl hl.1 rfl (lv_room (Nat.le_of_ble_eq_true rfl)) dX12_sign_53 ⟨Nat.le_of_ble_eq_true rfl, Nat.le_of_ble_eq_true rfl⟩) hS (fun q _ h => hF q h) hF (fun r_17 σ5 t H locs ht hvm hw hB hz1 hk1 hS d_18 hd0 => ?_)
        have hts := dr_words hts0 (d_18)
        have hK := gKd hK0 (d_18)
        have hown : (s.setDrawn (d_18)).vm.findClass RX12 = some m.cls := hown0
        obtain ⟨hP, hD⟩ := gBack hF ht hB
        obtain ⟨hIσ5, fcσ5, hp_19⟩ := hw
        refine W.endD hd0 ?_
        exact W.iret (v := r_17) hx hb hr (fun t ht hW => ⟨⟨r_17, σ5, rfl, ⟨hIσ5, (mFr.tr (mFr.tr frσ1 fcσ4 (by decide) (by decide)) fcσ5 (by decide) (by decide)), trivial⟩, ⟨by rw [ht]; exact hP, hD⟩⟩, hS.F ht⟩) hS.2.2 dX12_sign_56
      · refine lv_aload_n hx hb dX12_sign_38 rfl (lv_at hl 0 rfl) ?_
        refine lv_aload_n hx hb dX12_sign_39 rfl (lv_at hl 0 rfl) ?_
        refine va_get (D := (dC, dI)) (ci := 11) (v := .ref (ad 23)) (C := RX12) (T := TX12) (N := 69) hx hb hts hinX12 hown hK hP 0 (mat_11 rfl) rfl 45 (by decide) (hts (.fieldLink RX12 83 "BondCalendarsModel" "text" "[B") (by decide +kernel)) (fun _ h9 => h9) rfl dX12_sign_40 ?_
        refine lv_iload_n hx hb dX12_sign_43 rfl (lv_at hl 3 rfl) ?_
        refine va_bald hx hb hK hP 23 23 (mat_63 rfl) (mty_63 rfl) (gin (N := 60) (by decide) c_11 (Int32.lt_of_lt_of_le (Int32.not_le.mp c_16) hp_14)) dX12_sign_44 ?_
        refine lv_topi (fun x_20 ex_20 => ?_)
        have hF := gFree hD hS hA
        refine va_calliD hd0 (va_runV_D (As := [.int x_20]) (rest := []) ⟨hx, hb, hml, hown, hts⟩ (n_X12_good l dC dI ad cA adK adV H.size σ4 hIσ4 x_20) (cwV 1 hts gX12_sign_X12_good rfl rfl rfl (by decide +kernel) ⟨Nat.le_of_ble_eq_true rfl, Nat.le_of_ble_eq_true rfl⟩) ⟨gBlind, va_recv hK hP (ci := 11) (q0 := 0) rfl (mat_11 rfl), gStart (As := [.ref (ad 0), .int x_20]) hP hD hK0 hT hS hF (d_13)⟩ rfl rfl hl.1 rfl (lv_room (Nat.le_of_ble_eq_true rfl)) dX12_sign_45 ⟨Nat.le_of_ble_eq_true rfl, Nat.le_of_ble_eq_true rfl⟩) hS (fun q _ h => hF q h) hF (fun r_21 σ6 t H locs ht hvm hw hB hz1 hk1 hS d_22 hd0 => ?_)
        have hts := dr_words hts0 (d_22)
        have hK := gKd hK0 (d_22)
        have hown : (s.setDrawn (d_22)).vm.findClass RX12 = some m.cls := hown0
        obtain ⟨hP, hD⟩ := gBack hF ht hB
        obtain ⟨hIσ6, fcσ6, hp_23⟩ := hw
        refine lv_goto (tgt := 56) hx hb dX12_sign_48 (by decide) ?_
        refine W.endD hd0 ?_
        exact W.iret (v := r_21) hx hb hr (fun t ht hW => ⟨⟨r_21, σ6, rfl, ⟨hIσ6, (mFr.tr (mFr.tr frσ1 fcσ4 (by decide) (by decide)) fcσ6 (by decide) (by decide)), trivial⟩, ⟨by rw [ht]; exact hP, hD⟩⟩, hS.F ht⟩) hS.2.2 dX12_sign_56
    · refine lv_aload_n hx hb dX12_sign_18 rfl (lv_at hl 0 rfl) ?_
      refine lv_iconst (v := 1) hx hb dX12_sign_19 (by decide) ?_
      have hF := gFree hD hS hA
      refine va_calliD hd0 (va_runV_D (As := [.int 1]) (rest := []) ⟨hx, hb, hml, hown, hts⟩ (n_X12_refused l dC dI ad cA adK adV H.size σ1 hIσ1 1) (cwV 1 hts gX12_sign_X12_refused rfl rfl rfl (by decide +kernel) ⟨Nat.le_of_ble_eq_true rfl, Nat.le_of_ble_eq_true rfl⟩) ⟨gBlind, va_recv hK hP (ci := 11) (q0 := 0) rfl (mat_11 rfl), gStart (As := [.ref (ad 0), .int 1]) hP hD hK0 hT hS hF (d_2)⟩ rfl rfl hl.1 rfl (lv_room (Nat.le_of_ble_eq_true rfl)) dX12_sign_20 ⟨Nat.le_of_ble_eq_true rfl, Nat.le_of_ble_eq_true rfl⟩) hS (fun q _ h => hF q h) hF (fun r_24 σ7 t H locs ht hvm hw hB hz1 hk1 hS d_25 hd0 => ?_)
      have hts := dr_words hts0 (d_25)
      have hK := gKd hK0 (d_25)
      have hown : (s.setDrawn (d_25)).vm.findClass RX12 = some m.cls := hown0
      obtain ⟨hP, hD⟩ := gBack hF ht hB
      obtain ⟨hIσ7, fcσ7, hp_26⟩ := hw
      refine W.endD hd0 ?_
      exact W.iret (v := r_24) hx hb hr (fun t ht hW => ⟨⟨r_24, σ7, rfl, ⟨hIσ7, (mFr.tr frσ1 fcσ7 (by decide) (by decide)), trivial⟩, ⟨by rw [ht]; exact hP, hD⟩⟩, hS.F ht⟩) hS.2.2 dX12_sign_23
