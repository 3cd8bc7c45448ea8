set_option maxHeartbeats 8000000 in
set_option maxRecDepth 100000 in
theorem n_X11_arePoints (l : Launch) (dC : Nat → ClassId) (dI : Nat → Nat → Nat) (ad : Nat → Nat) (cA : Nat → ClassId) (adK adV : Nat → Nat) (sz : Nat) (σ : gs) (hI : InvX σ) (p0 : Int32) : MetD lw_cs l yX11_arePoints wsX11_arePoints ({ frames := 0, cells := 0, slots := 0, locals := 0 }) (va_Pc [.int p0] (gPre adK adV (dC, dI) (wX ad cA σ) (tX cA) sz)) (va_Qi (fun (r : Int32) (τ : gs) => InvX τ ∧ σ = τ ∧ (r = 0 ∨ r = 1)) (fun τ t => gPost (dC, dI) (va_A (wX ad cA σ) sz) (wX ad cA τ) t) (va_A (wX ad cA σ) sz)) 0 0 (va_A (wX ad cA σ) sz) := by
  refine MetD.ofW (cc := cX11_arePoints) (maxL := 1) (ret := (some .boolean)) (by decide) rfl ?_
  intro p e s m args below meth c s₁ B hml hv hd0
  obtain ⟨rfl, hsz, hP, hK, hD0, hT⟩ := hv
  have hx := B.exec
  have hb := B.bytes
  have hr := B.returns
  have hts0 := atoms_spec (ws := wsX11_arePoints) B.pre
  have hK0 := hK
  have hown0 : s.vm.findClass RX11 = some m.cls := findClass_of_methodNamed B.named
  have hlocks := B.notSynchronized
  subst hsz
  have hD := hD0.self (sz := s.heap.size)
  generalize hAe : va_A (wX ad cA σ) s.heap.size = A at hD hT ⊢
  have hA : ∀ q : Nat, s.heap.size ≤ q → A q := fun q h => by rw [← hAe]; exact Or.inr h
  have hS : va_S A s.heap s.heap [] := va_S.rf
  have hl := lv_entry ([.int p0]) (n := 1) (Nat.le_of_ble_eq_true rfl)
  rw [lg_entry_eq]
  generalize (lg_sl ([.int p0]) ++ List.replicate (1 - (lg_sl ([.int p0])).length) Slot.unset).toArray = ls at hl ⊢
  have hl : lv_has ls 1 [(0, .int p0)] := hl
  have hts := dr_words hts0 (s.drawn)
  have hK := gKd hK0 (s.drawn)
  have hown : (s.setDrawn (s.drawn)).vm.findClass RX11 = some m.cls := hown0
  refine lv_iload_n hx hb dX11_arePoints_0 rfl (lv_at hl 0 rfl) ?_
  refine lv_sipush (v := (-2000)) hx hb dX11_arePoints_1 (by decide) ?_
  refine lv_icmp_lt (tgt := 18) hx hb dX11_arePoints_4 (by decide) (fun c_1 => ?_) (fun c_1 => ?_)
  · refine lv_iconst (v := 0) hx hb dX11_arePoints_18 (by decide) ?_
    refine W.endD hd0 ?_
    exact W.zret (v := 0) hx hb hr (by decide) (fun t ht hW => ⟨⟨0, σ, rfl, ⟨hI, rfl, Or.inl rfl⟩, ⟨by rw [ht]; exact hP, hD⟩⟩, hS.F ht⟩) hS.2.2 dX11_arePoints_19
  · refine lv_iload_n hx hb dX11_arePoints_7 rfl (lv_at hl 0 rfl) ?_
    refine lv_sipush (v := 10000) hx hb dX11_arePoints_8 (by decide) ?_
    refine lv_icmp_gt (tgt := 18) hx hb dX11_arePoints_11 (by decide) (fun c_2 => ?_) (fun c_2 => ?_)
    · refine lv_iconst (v := 0) hx hb dX11_arePoints_18 (by decide) ?_
      refine W.endD hd0 ?_
      exact W.zret (v := 0) hx hb hr (by decide) (fun t ht hW => ⟨⟨0, σ, rfl, ⟨hI, rfl, Or.inl rfl⟩, ⟨by rw [ht]; exact hP, hD⟩⟩, hS.F ht⟩) hS.2.2 dX11_arePoints_19
    · refine lv_iconst (v := 1) hx hb dX11_arePoints_14 (by decide) ?_
      refine lv_goto (tgt := 19) hx hb dX11_arePoints_15 (by decide) ?_
      refine W.endD hd0 ?_
      exact W.zret (v := 1) hx hb hr (by decide) (fun t ht hW => ⟨⟨1, σ, rfl, ⟨hI, rfl, Or.inr rfl⟩, ⟨by rw [ht]; exact hP, hD⟩⟩, hS.F ht⟩) hS.2.2 dX11_arePoints_19
set_option maxHeartbeats 8000000 in
set_option maxRecDepth 100000 in
theorem n_X11_isPrice (l : Launch) (dC : Nat → ClassId) (dI : Nat → Nat → Nat) (ad : Nat → Nat) (cA : Nat → ClassId) (adK adV : Nat → Nat) (sz : Nat) (σ : gs) (hI : InvX σ) (p0 : Int32) : MetD lw_cs l yX11_isPrice wsX11_isPrice ({ frames := 0, cells := 0, slots := 0, locals := 0 }) (va_Pc [.int p0] (gPre adK adV (dC, dI) (wX ad cA σ) (tX cA) sz)) (va_Qi (fun (r : Int32) (τ : gs) => InvX τ ∧ σ = τ ∧ (r = 0 ∨ r = 1)) (fun τ t => gPost (dC, dI) (va_A (wX ad cA σ) sz) (wX ad cA τ) t) (va_A (wX ad cA σ) sz)) 0 0 (va_A (wX ad cA σ) sz) := by
  refine MetD.ofW (cc := cX11_isPrice) (maxL := 1) (ret := (some .boolean)) (by decide) rfl ?_
  intro p e s m args below meth c s₁ B hml hv hd0
  obtain ⟨rfl, hsz, hP, hK, hD0, hT⟩ := hv
  have hx := B.exec
  have hb := B.bytes
  have hr := B.returns
  have hts0 := atoms_spec (ws := wsX11_isPrice) B.pre
  have hK0 := hK
  have hown0 : s.vm.findClass RX11 = some m.cls := findClass_of_methodNamed B.named
  have hlocks := B.notSynchronized
  subst hsz
  have hD := hD0.self (sz := s.heap.size)
  generalize hAe : va_A (wX ad cA σ) s.heap.size = A at hD hT ⊢
  have hA : ∀ q : Nat, s.heap.size ≤ q → A q := fun q h => by rw [← hAe]; exact Or.inr h
  have hS : va_S A s.heap s.heap [] := va_S.rf
  have hl := lv_entry ([.int p0]) (n := 1) (Nat.le_of_ble_eq_true rfl)
  rw [lg_entry_eq]
  generalize (lg_sl ([.int p0]) ++ List.replicate (1 - (lg_sl ([.int p0])).length) Slot.unset).toArray = ls at hl ⊢
  have hl : lv_has ls 1 [(0, .int p0)] := hl
  have hts := dr_words hts0 (s.drawn)
  have hK := gKd hK0 (s.drawn)
  have hown : (s.setDrawn (s.drawn)).vm.findClass RX11 = some m.cls := hown0
  refine lv_iload_n hx hb dX11_isPrice_0 rfl (lv_at hl 0 rfl) ?_
  refine lv_iconst (v := 1) hx hb dX11_isPrice_1 (by decide) ?_
  refine lv_icmp_lt (tgt := 16) hx hb dX11_isPrice_2 (by decide) (fun c_1 => ?_) (fun c_1 => ?_)
  · refine lv_iconst (v := 0) hx hb dX11_isPrice_16 (by decide) ?_
    refine W.endD hd0 ?_
    exact W.zret (v := 0) hx hb hr (by decide) (fun t ht hW => ⟨⟨0, σ, rfl, ⟨hI, rfl, Or.inl rfl⟩, ⟨by rw [ht]; exact hP, hD⟩⟩, hS.F ht⟩) hS.2.2 dX11_isPrice_17
  · refine lv_iload_n hx hb dX11_isPrice_5 rfl (lv_at hl 0 rfl) ?_
    refine lv_ldcw (v := 99999) hx hb hown (hts (.constant RX11 406 (99999)) (by decide +kernel)) dX11_isPrice_6 ?_
    refine lv_icmp_gt (tgt := 16) hx hb dX11_isPrice_9 (by decide) (fun c_2 => ?_) (fun c_2 => ?_)
    · refine lv_iconst (v := 0) hx hb dX11_isPrice_16 (by decide) ?_
      refine W.endD hd0 ?_
      exact W.zret (v := 0) hx hb hr (by decide) (fun t ht hW => ⟨⟨0, σ, rfl, ⟨hI, rfl, Or.inl rfl⟩, ⟨by rw [ht]; exact hP, hD⟩⟩, hS.F ht⟩) hS.2.2 dX11_isPrice_17
    · refine lv_iconst (v := 1) hx hb dX11_isPrice_12 (by decide) ?_
      refine lv_goto (tgt := 17) hx hb dX11_isPrice_13 (by decide) ?_
      refine W.endD hd0 ?_
      exact W.zret (v := 1) hx hb hr (by decide) (fun t ht hW => ⟨⟨1, σ, rfl, ⟨hI, rfl, Or.inr rfl⟩, ⟨by rw [ht]; exact hP, hD⟩⟩, hS.F ht⟩) hS.2.2 dX11_isPrice_17
set_option maxHeartbeats 8000000 in
set_option maxRecDepth 100000 in
theorem n_X11_yieldOf (l : Launch) (dC : Nat → ClassId) (dI : Nat → Nat → Nat) (ad : Nat → Nat) (cA : Nat → ClassId) (adK adV : Nat → Nat) (sz : Nat) (σ : gs) (hI : InvX σ) (p0 : Int32) : MetD lw_cs l yX11_yieldOf wsX11_yieldOf ({ frames := 0, cells := 0, slots := 0, locals := 0 }) (va_Pc [.int p0] (gPre adK adV (dC, dI) (wX ad cA σ) (tX cA) sz)) (va_Qd (fun (r : UInt64) (τ : gs) => InvX τ ∧ σ = τ ∧ (True)) (fun τ t => gPost (dC, dI) (va_A (wX ad cA σ) sz) (wX ad cA τ) t) (va_A (wX ad cA σ) sz)) 0 0 (va_A (wX ad cA σ) sz) := by
  refine MetD.ofW (cc := cX11_yieldOf) (maxL := 1) (ret := (some .double)) (by decide) rfl ?_
  intro p e s m args below meth c s₁ B hml hv hd0
  obtain ⟨rfl, hsz, hP, hK, hD0, hT⟩ := hv
  have hx := B.exec
  have hb := B.bytes
  have hr := B.returns
  have hts0 := atoms_spec (ws := wsX11_yieldOf) B.pre
  have hK0 := hK
  have hown0 : s.vm.findClass RX11 = some m.cls := findClass_of_methodNamed B.named
  have hlocks := B.notSynchronized
  subst hsz
  have hD := hD0.self (sz := s.heap.size)
  generalize hAe : va_A (wX ad cA σ) s.heap.size = A at hD hT ⊢
  have hA : ∀ q : Nat, s.heap.size ≤ q → A q := fun q h => by rw [← hAe]; exact Or.inr h
  have hS : va_S A s.heap s.heap [] := va_S.rf
  have hl := lv_entry ([.int p0]) (n := 1) (Nat.le_of_ble_eq_true rfl)
  rw [lg_entry_eq]
  generalize (lg_sl ([.int p0]) ++ List.replicate (1 - (lg_sl ([.int p0])).length) Slot.unset).toArray = ls at hl ⊢
  have hl : lv_has ls 1 [(0, .int p0)] := hl
  have hts := dr_words hts0 (s.drawn)
  have hK := gKd hK0 (s.drawn)
  have hown : (s.setDrawn (s.drawn)).vm.findClass RX11 = some m.cls := hown0
  refine lv_iload_n hx hb dX11_yieldOf_0 rfl (lv_at hl 0 rfl) ?_
  refine lv_i2d hx hb dX11_yieldOf_1 ?_
  refine lv_topd (fun y_1 _ => ?_)
  refine lv_ldc2d (v := 4666723172467343360) hx hb hown (hts (.constantDouble RX11 407 (4666723172467343360)) (by decide +kernel)) dX11_yieldOf_2 ?_
  refine lv_ddiv_any hd0 lw_bits hx hb dX11_yieldOf_5 (fun y_2 d_3 _ hd0 => ?_)
  have hts := dr_words hts0 (d_3)
  have hK := gKd hK0 (d_3)
  have hown : (s.setDrawn (d_3)).vm.findClass RX11 = some m.cls := hown0
  refine W.endD hd0 ?_
  exact W.dret (v := y_2) hx hb hr (fun t ht hW => ⟨⟨y_2, σ, rfl, ⟨hI, rfl, trivial⟩, ⟨by rw [ht]; exact hP, hD⟩⟩, hS.F ht⟩) hS.2.2 dX11_yieldOf_6
set_option maxHeartbeats 8000000 in
set_option maxRecDepth 100000 in
theorem n_X11_bitsOf (l : Launch) (dC : Nat → ClassId) (dI : Nat → Nat → Nat) (ad : Nat → Nat) (cA : Nat → ClassId) (adK adV : Nat → Nat) (sz : Nat) (σ : gs) (hI : InvX σ) (p0 : UInt64) : MetD lw_cs l yX11_bitsOf wsX11_bitsOf ({ frames := 0, cells := 0, slots := 0, locals := 0 }) (va_Pc [.double p0] (gPre adK adV (dC, dI) (wX ad cA σ) (tX cA) sz)) (va_Ql (fun (r : Int64) (τ : gs) => InvX τ ∧ σ = τ ∧ (True)) (fun τ t => gPost (dC, dI) (va_A (wX ad cA σ) sz) (wX ad cA τ) t) (va_A (wX ad cA σ) sz)) 0 0 (va_A (wX ad cA σ) sz) := by
  refine MetD.ofW (cc := cX11_bitsOf) (maxL := 10) (ret := (some .long)) (by decide) rfl ?_
  intro p e s m args below meth c s₁ B hml hv hd0
  obtain ⟨rfl, hsz, hP, hK, hD0, hT⟩ := hv
  have hx := B.exec
  have hb := B.bytes
  have hr := B.returns
  have hts0 := atoms_spec (ws := wsX11_bitsOf) B.pre
  have hK0 := hK
  have hown0 : s.vm.findClass RX11 = some m.cls := findClass_of_methodNamed B.named
  have hlocks := B.notSynchronized
  subst hsz
  have hD := hD0.self (sz := s.heap.size)
  generalize hAe : va_A (wX ad cA σ) s.heap.size = A at hD hT ⊢
  have hA : ∀ q : Nat, s.heap.size ≤ q → A q := fun q h => by rw [← hAe]; exact Or.inr h
  have hS : va_S A s.heap s.heap [] := va_S.rf
  have hl := lv_entry ([.double p0]) (n := 10) (Nat.le_of_ble_eq_true rfl)
  rw [lg_entry_eq]
  generalize (lg_sl ([.double p0]) ++ List.replicate (10 - (lg_sl ([.double p0])).length) Slot.unset).toArray = ls at hl ⊢
  have hl : lv_has ls 10 [(0, .double p0)] := hl
  have hts := dr_words hts0 (s.drawn)
  have hK := gKd hK0 (s.drawn)
  have hown : (s.setDrawn (s.drawn)).vm.findClass RX11 = some m.cls := hown0
  refine lv_dload_n hx hb dX11_bitsOf_0 rfl (lv_at hl 0 rfl) ?_
  refine lv_dconst0 hx hb dX11_bitsOf_1 ?_
  refine lv_dcmp hx hb dX11_bitsOf_2 ?_
  refine lv_topi (fun x_1 _ => ?_)
  refine lv_if_ne (tgt := 8) hx hb dX11_bitsOf_3 (by decide) (fun c_2 => ?_) (fun c_2 => ?_)
  · refine lv_dload_n hx hb dX11_bitsOf_8 rfl (lv_at hl 0 rfl) ?_
    refine lv_dconst0 hx hb dX11_bitsOf_9 ?_
    refine lv_dcmp hx hb dX11_bitsOf_10 ?_
    refine lv_topi (fun x_3 _ => ?_)
    refine lv_if_ge (tgt := 19) hx hb dX11_bitsOf_11 (by decide) (fun c_4 => ?_) (fun c_4 => ?_)
    · refine lv_dload_n hx hb dX11_bitsOf_19 rfl (lv_at hl 0 rfl) ?_
      refine lv_dstore_n (lv' := [(2, .double p0), (0, .double p0)]) hx hb dX11_bitsOf_20 rfl hl (by decide) rfl (fun ls hl => ?_)
      refine lv_ldc2 (v := 1023) hx hb hown (hts (.constantLong RX11 409 (1023)) (by decide +kernel)) dX11_bitsOf_21 ?_
      refine lv_lstore (lv' := [(4, .long 1023), (2, .double p0), (0, .double p0)]) hx hb dX11_bitsOf_24 hl (by decide) rfl (fun ls hl => ?_)
      refine lv_iconst (v := 0) hx hb dX11_bitsOf_26 (by decide) ?_
      refine lv_istore (lv' := [(6, .int 0), (4, .long 1023), (2, .double p0), (0, .double p0)]) hx hb dX11_bitsOf_27 hl (by decide) rfl (fun ls hl => ?_)
      refine (fun (h : ∀ (n : Nat) (i6 : Int32) (y2 : UInt64) (x4 : Int64) (d29 : Drawn) (H : Heap) (locs : List Loc) (ls : Array Slot), ((1100 : Int32).toInt - i6.toInt).toNat < n → 0 ≤ i6 → s.drawn.sameBut d29 lw_cs → va_P (dC, dI) vwCl (wX ad cA σ) H → va_D A (wX ad cA σ) → va_S A s.heap H locs → lv_has ls 10 [(6, .int i6), (4, .long x4), (2, .double y2), (0, .double p0)] → W p l e _ (s.setDrawn d29) m _ below meth c H locs _ _ _ (F0 m 29 ls [])) => h _ 0 p0 1023 _ _ _ _ (Nat.lt_succ_self _) (by decide) hd0 hP hD hS (lv_sub hl [0, 1, 2, 3] rfl)) ?_
      intro n29
      induction n29 with
      | zero => intro i6 y2 x4  d29 H locs ls hm; exact absurd hm (Nat.not_lt_zero _)
      | succ n29 ih29 =>
        intro i6 y2 x4  d29 H locs ls hm29 iv29_0  hd0 hP hD hS hl
        have hts := dr_words hts0 (d29)
        have hK := gKd hK0 (d29)
        have hown : (s.setDrawn (d29)).vm.findClass RX11 = some m.cls := hown0
        refine lv_iload hx hb dX11_bitsOf_29 (lv_at hl 0 rfl) ?_
        refine lv_sipush (v := 1100) hx hb dX11_bitsOf_31 (by decide) ?_
        refine lv_icmp_ge (tgt := 63) hx hb dX11_bitsOf_34 (by decide) (fun c_5 => ?_) (fun c_5 => ?_)
        · refine lv_iconst (v := 0) hx hb dX11_bitsOf_63 (by decide) ?_
          refine lv_istore (lv' := [(6, .int 0), (4, .long x4), (2, .double y2), (0, .double p0)]) hx hb dX11_bitsOf_64 hl (by decide) rfl (fun ls hl => ?_)
          refine (fun (h : ∀ (n : Nat) (j6 : Int32) (z2 : UInt64) (w4 : Int64) (d66 : Drawn) (H : Heap) (locs : List Loc) (ls : Array Slot), ((1100 : Int32).toInt - j6.toInt).toNat < n → 0 ≤ j6 → s.drawn.sameBut d66 lw_cs → va_P (dC, dI) vwCl (wX ad cA σ) H → va_D A (wX ad cA σ) → va_S A s.heap H locs → lv_has ls 10 [(6, .int j6), (4, .long w4), (2, .double z2), (0, .double p0)] → W p l e _ (s.setDrawn d66) m _ below meth c H locs _ _ _ (F0 m 66 ls [])) => h _ 0 y2 x4 _ _ _ _ (Nat.lt_succ_self _) (by decide) hd0 hP hD hS (lv_sub hl [0, 1, 2, 3] rfl)) ?_
          intro n66
          induction n66 with
          | zero => intro j6 z2 w4  d66 H locs ls hm; exact absurd hm (Nat.not_lt_zero _)
          | succ n66 ih66 =>
            intro j6 z2 w4  d66 H locs ls hm66 iv66_0  hd0 hP hD hS hl
            have hts := dr_words hts0 (d66)
            have hK := gKd hK0 (d66)
            have hown : (s.setDrawn (d66)).vm.findClass RX11 = some m.cls := hown0
            refine lv_iload hx hb dX11_bitsOf_66 (lv_at hl 0 rfl) ?_
            refine lv_sipush (v := 1100) hx hb dX11_bitsOf_68 (by decide) ?_
            refine lv_icmp_ge (tgt := 98) hx hb dX11_bitsOf_71 (by decide) (fun c_6 => ?_) (fun c_6 => ?_)
            · refine lv_dload_n hx hb dX11_bitsOf_98 rfl (lv_at hl 2 rfl) ?_
              refine lv_dconst1 hx hb dX11_bitsOf_99 ?_
              refine lv_dsub_any hd0 lw_bits hx hb dX11_bitsOf_100 (fun y_7 d_8 _ hd0 => ?_)
              have hts := dr_words hts0 (d_8)
              have hK := gKd hK0 (d_8)
              have hown : (s.setDrawn (d_8)).vm.findClass RX11 = some m.cls := hown0
              refine lv_ldc2d (v := 4841369599423283200) hx hb hown (hts (.constantDouble RX11 411 (4841369599423283200)) (by decide +kernel)) dX11_bitsOf_101 ?_
              refine lv_dmul_any hd0 lw_bits hx hb dX11_bitsOf_104 (fun y_9 d_10 _ hd0 => ?_)
              have hts := dr_words hts0 (d_10)
              have hK := gKd hK0 (d_10)
              have hown : (s.setDrawn (d_10)).vm.findClass RX11 = some m.cls := hown0
              refine lv_d2l hx hb dX11_bitsOf_105 ?_
              refine lv_topl (fun x_11 _ => ?_)
              refine lv_lstore (lv' := [(6, .long x_11), (4, .long w4), (2, .double z2), (0, .double p0)]) hx hb dX11_bitsOf_106 hl (by decide) rfl (fun ls hl => ?_)
              refine lv_dload_n hx hb dX11_bitsOf_108 rfl (lv_at hl 3 rfl) ?_
              refine lv_dconst0 hx hb dX11_bitsOf_109 ?_
              refine lv_dcmp hx hb dX11_bitsOf_110 ?_
              refine lv_topi (fun x_12 _ => ?_)
              refine lv_if_ge (tgt := 120) hx hb dX11_bitsOf_111 (by decide) (fun c_13 => ?_) (fun c_13 => ?_)
              · refine lv_lconst (v := 0) hx hb dX11_bitsOf_120 (by decide) ?_
                refine lv_lstore (lv' := [(8, .long 0), (6, .long x_11), (4, .long w4), (2, .double z2), (0, .double p0)]) hx hb dX11_bitsOf_121 hl (by decide) rfl (fun ls hl => ?_)
                refine lv_lload hx hb dX11_bitsOf_123 (lv_at hl 0 rfl) ?_
                refine lv_lload hx hb dX11_bitsOf_125 (lv_at hl 2 rfl) ?_
                refine lv_bipush (v := 52) hx hb dX11_bitsOf_127 (by decide) ?_
                refine lv_lshl hx hb dX11_bitsOf_129 rfl ?_
                refine lv_topl (fun x_14 _ => ?_)
                refine lv_lor hx hb dX11_bitsOf_130 ?_
                refine lv_topl (fun x_15 ex_15 => ?_)
                refine lv_lload hx hb dX11_bitsOf_131 (lv_at hl 1 rfl) ?_
                refine lv_lor hx hb dX11_bitsOf_133 ?_
                refine lv_topl (fun x_16 ex_16 => ?_)
                refine W.endD hd0 ?_
                exact W.lret (v := x_16) hx hb hr (fun t ht hW => ⟨⟨x_16, σ, rfl, ⟨hI, rfl, trivial⟩, ⟨by rw [ht]; exact hP, hD⟩⟩, hS.F ht⟩) hS.2.2 dX11_bitsOf_134
              · refine lv_ldc2 (v := (-9223372036854775808)) hx hb hown (hts (.constantLong RX11 256 (-9223372036854775808)) (by decide +kernel)) dX11_bitsOf_114 ?_
                refine lv_goto (tgt := 121) hx hb dX11_bitsOf_117 (by decide) ?_
                refine lv_lstore (lv' := [(8, .long (-9223372036854775808)), (6, .long x_11), (4, .long w4), (2, .double z2), (0, .double p0)]) hx hb dX11_bitsOf_121 hl (by decide) rfl (fun ls hl => ?_)
                refine lv_lload hx hb dX11_bitsOf_123 (lv_at hl 0 rfl) ?_
                refine lv_lload hx hb dX11_bitsOf_125 (lv_at hl 2 rfl) ?_
                refine lv_bipush (v := 52) hx hb dX11_bitsOf_127 (by decide) ?_
                refine lv_lshl hx hb dX11_bitsOf_129 rfl ?_
                refine lv_topl (fun x_17 _ => ?_)
                refine lv_lor hx hb dX11_bitsOf_130 ?_
                refine lv_topl (fun x_18 ex_18 => ?_)
                refine lv_lload hx hb dX11_bitsOf_131 (lv_at hl 1 rfl) ?_
                refine lv_lor hx hb dX11_bitsOf_133 ?_
                refine lv_topl (fun x_19 ex_19 => ?_)
                refine W.endD hd0 ?_
                exact W.lret (v := x_19) hx hb hr (fun t ht hW => ⟨⟨x_19, σ, rfl, ⟨hI, rfl, trivial⟩, ⟨by rw [ht]; exact hP, hD⟩⟩, hS.F ht⟩) hS.2.2 dX11_bitsOf_134
            · refine lv_dload_n hx hb dX11_bitsOf_74 rfl (lv_at hl 2 rfl) ?_
              refine lv_dconst1 hx hb dX11_bitsOf_75 ?_
              refine lv_dcmp hx hb dX11_bitsOf_76 ?_
              refine lv_topi (fun x_20 _ => ?_)
              refine lv_if_ge (tgt := 98) hx hb dX11_bitsOf_77 (by decide) (fun c_21 => ?_) (fun c_21 => ?_)
              · refine lv_dload_n hx hb dX11_bitsOf_98 rfl (lv_at hl 2 rfl) ?_
                refine lv_dconst1 hx hb dX11_bitsOf_99 ?_
                refine lv_dsub_any hd0 lw_bits hx hb dX11_bitsOf_100 (fun y_22 d_23 _ hd0 => ?_)
                have hts := dr_words hts0 (d_23)
                have hK := gKd hK0 (d_23)
                have hown : (s.setDrawn (d_23)).vm.findClass RX11 = some m.cls := hown0
                refine lv_ldc2d (v := 4841369599423283200) hx hb hown (hts (.constantDouble RX11 411 (4841369599423283200)) (by decide +kernel)) dX11_bitsOf_101 ?_
                refine lv_dmul_any hd0 lw_bits hx hb dX11_bitsOf_104 (fun y_24 d_25 _ hd0 => ?_)
                have hts := dr_words hts0 (d_25)
                have hK := gKd hK0 (d_25)
                have hown : (s.setDrawn (d_25)).vm.findClass RX11 = some m.cls := hown0
                refine lv_d2l hx hb dX11_bitsOf_105 ?_
                refine lv_topl (fun x_26 _ => ?_)
                refine lv_lstore (lv' := [(6, .long x_26), (4, .long w4), (2, .double z2), (0, .double p0)]) hx hb dX11_bitsOf_106 hl (by decide) rfl (fun ls hl => ?_)
                refine lv_dload_n hx hb dX11_bitsOf_108 rfl (lv_at hl 3 rfl) ?_
                refine lv_dconst0 hx hb dX11_bitsOf_109 ?_
                refine lv_dcmp hx hb dX11_bitsOf_110 ?_
                refine lv_topi (fun x_27 _ => ?_)
                refine lv_if_ge (tgt := 120) hx hb dX11_bitsOf_111 (by decide) (fun c_28 => ?_) (fun c_28 => ?_)
                · refine lv_lconst (v := 0) hx hb dX11_bitsOf_120 (by decide) ?_
                  refine lv_lstore (lv' := [(8, .long 0), (6, .long x_26), (4, .long w4), (2, .double z2), (0, .double p0)]) hx hb dX11_bitsOf_121 hl (by decide) rfl (fun ls hl => ?_)
                  refine lv_lload hx hb dX11_bitsOf_123 (lv_at hl 0 rfl) ?_
                  refine lv_lload hx hb dX11_bitsOf_125 (lv_at hl 2 rfl) ?_
                  refine lv_bipush (v := 52) hx hb dX11_bitsOf_127 (by decide) ?_
                  refine lv_lshl hx hb dX11_bitsOf_129 rfl ?_
                  refine lv_topl (fun x_29 _ => ?_)
                  refine lv_lor hx hb dX11_bitsOf_130 ?_
                  refine lv_topl (fun x_30 ex_30 => ?_)
                  refine lv_lload hx hb dX11_bitsOf_131 (lv_at hl 1 rfl) ?_
                  refine lv_lor hx hb dX11_bitsOf_133 ?_
                  refine lv_topl (fun x_31 ex_31 => ?_)
                  refine W.endD hd0 ?_
                  exact W.lret (v := x_31) hx hb hr (fun t ht hW => ⟨⟨x_31, σ, rfl, ⟨hI, rfl, trivial⟩, ⟨by rw [ht]; exact hP, hD⟩⟩, hS.F ht⟩) hS.2.2 dX11_bitsOf_134
                · refine lv_ldc2 (v := (-9223372036854775808)) hx hb hown (hts (.constantLong RX11 256 (-9223372036854775808)) (by decide +kernel)) dX11_bitsOf_114 ?_
                  refine lv_goto (tgt := 121) hx hb dX11_bitsOf_117 (by decide) ?_
                  refine lv_lstore (lv' := [(8, .long (-9223372036854775808)), (6, .long x_26), (4, .long w4), (2, .double z2), (0, .double p0)]) hx hb dX11_bitsOf_121 hl (by decide) rfl (fun ls hl => ?_)
                  refine lv_lload hx hb dX11_bitsOf_123 (lv_at hl 0 rfl) ?_
                  refine lv_lload hx hb dX11_bitsOf_125 (lv_at hl 2 rfl) ?_
                  refine lv_bipush (v := 52) hx hb dX11_bitsOf_127 (by decide) ?_
                  refine lv_lshl hx hb dX11_bitsOf_129 rfl ?_
                  refine lv_topl (fun x_32 _ => ?_)
                  refine lv_lor hx hb dX11_bitsOf_130 ?_
                  refine lv_topl (fun x_33 ex_33 => ?_)
                  refine lv_lload hx hb dX11_bitsOf_131 (lv_at hl 1 rfl) ?_
                  refine lv_lor hx hb dX11_bitsOf_133 ?_
                  refine lv_topl (fun x_34 ex_34 => ?_)
                  refine W.endD hd0 ?_
                  exact W.lret (v := x_34) hx hb hr (fun t ht hW => ⟨⟨x_34, σ, rfl, ⟨hI, rfl, trivial⟩, ⟨by rw [ht]; exact hP, hD⟩⟩, hS.F ht⟩) hS.2.2 dX11_bitsOf_134
              · refine lv_dload_n hx hb dX11_bitsOf_80 rfl (lv_at hl 2 rfl) ?_
                refine lv_ldc2d (v := 4611686018427387904) hx hb hown (hts (.constantDouble RX11 284 (4611686018427387904)) (by decide +kernel)) dX11_bitsOf_81 ?_
                refine lv_dmul_any hd0 lw_bits hx hb dX11_bitsOf_84 (fun y_35 d_36 _ hd0 => ?_)
                have hts := dr_words hts0 (d_36)
                have hK := gKd hK0 (d_36)
                have hown : (s.setDrawn (d_36)).vm.findClass RX11 = some m.cls := hown0
                refine lv_dstore_n (lv' := [(2, .double y_35), (6, .int j6), (4, .long w4), (0, .double p0)]) hx hb dX11_bitsOf_85 rfl hl (by decide) rfl (fun ls hl => ?_)
                refine lv_lload hx hb dX11_bitsOf_86 (lv_at hl 2 rfl) ?_
                refine lv_lconst (v := 1) hx hb dX11_bitsOf_88 (by decide) ?_
                refine lv_lsub hx hb dX11_bitsOf_89 ?_
                refine lv_topl (fun x_37 ex_37 => ?_)
                refine lv_lstore (lv' := [(4, .long x_37), (2, .double y_35), (6, .int j6), (0, .double p0)]) hx hb dX11_bitsOf_90 hl (by decide) rfl (fun ls hl => ?_)
                obtain ⟨x_38, ex_38⟩ : ∃ zz : Int32, zz = j6 + 1 := ⟨_, rfl⟩
                refine lv_iinc (v := x_38) (lv' := [(6, .int x_38), (4, .long x_37), (2, .double y_35), (0, .double p0)]) hx hb dX11_bitsOf_92 hl (k := 2) rfl (by rw [ex_38]; rfl) (by decide) rfl (fun ls hl => ?_)
                refine lv_goto (tgt := 66) hx hb dX11_bitsOf_95 (by decide) ?_
                exact ih66 x_38 y_35 x_37 _ _ _ _ (cnt_m iv66_0 (Int32.not_le.mp c_6) hm66 ex_38) (cnt_0 iv66_0 (Int32.not_le.mp c_6) ex_38) hd0 hP hD hS (lv_sub hl [0, 1, 2, 3] rfl)
        · refine lv_dload_n hx hb dX11_bitsOf_37 rfl (lv_at hl 2 rfl) ?_
          refine lv_ldc2d (v := 4611686018427387904) hx hb hown (hts (.constantDouble RX11 284 (4611686018427387904)) (by decide +kernel)) dX11_bitsOf_38 ?_
          refine lv_dcmp hx hb dX11_bitsOf_41 ?_
          refine lv_topi (fun x_39 _ => ?_)
          refine lv_if_lt (tgt := 63) hx hb dX11_bitsOf_42 (by decide) (fun c_40 => ?_) (fun c_40 => ?_)
          · refine lv_iconst (v := 0) hx hb dX11_bitsOf_63 (by decide) ?_
            refine lv_istore (lv' := [(6, .int 0), (4, .long x4), (2, .double y2), (0, .double p0)]) hx hb dX11_bitsOf_64 hl (by decide) rfl (fun ls hl => ?_)
            refine (fun (h : ∀ (n : Nat) (j6 : Int32) (z2 : UInt64) (w4 : Int64) (d66 : Drawn) (H : Heap) (locs : List Loc) (ls : Array Slot), ((1100 : Int32).toInt - j6.toInt).toNat < n → 0 ≤ j6 → s.drawn.sameBut d66 lw_cs → va_P (dC, dI) vwCl (wX ad cA σ) H → va_D A (wX ad cA σ) → va_S A s.heap H locs → lv_has ls 10 [(6, .int j6), (4, .long w4), (2, .double z2), (0, .double p0)] → W p l e _ (s.setDrawn d66) m _ below meth c H locs _ _ _ (F0 m 66 ls [])) => h _ 0 y2 x4 _ _ _ _ (Nat.lt_succ_self _) (by decide) hd0 hP hD hS (lv_sub hl [0, 1, 2, 3] rfl)) ?_
            intro n66
            induction n66 with
            | zero => intro j6 z2 w4  d66 H locs ls hm; exact absurd hm (Nat.not_lt_zero _)
            | succ n66 ih66 =>
              intro j6 z2 w4  d66 H locs ls hm66 iv66_0  hd0 hP hD hS hl
              have hts := dr_words hts0 (d66)
              have hK := gKd hK0 (d66)
              have hown : (s.setDrawn (d66)).vm.findClass RX11 = some m.cls := hown0
              refine lv_iload hx hb dX11_bitsOf_66 (lv_at hl 0 rfl) ?_
              refine lv_sipush (v := 1100) hx hb dX11_bitsOf_68 (by decide) ?_
              refine lv_icmp_ge (tgt := 98) hx hb dX11_bitsOf_71 (by decide) (fun c_41 => ?_) (fun c_41 => ?_)
              · refine lv_dload_n hx hb dX11_bitsOf_98 rfl (lv_at hl 2 rfl) ?_
                refine lv_dconst1 hx hb dX11_bitsOf_99 ?_
                refine lv_dsub_any hd0 lw_bits hx hb dX11_bitsOf_100 (fun y_42 d_43 _ hd0 => ?_)
                have hts := dr_words hts0 (d_43)
                have hK := gKd hK0 (d_43)
                have hown : (s.setDrawn (d_43)).vm.findClass RX11 = some m.cls := hown0
                refine lv_ldc2d (v := 4841369599423283200) hx hb hown (hts (.constantDouble RX11 411 (4841369599423283200)) (by decide +kernel)) dX11_bitsOf_101 ?_
                refine lv_dmul_any hd0 lw_bits hx hb dX11_bitsOf_104 (fun y_44 d_45 _ hd0 => ?_)
                have hts := dr_words hts0 (d_45)
                have hK := gKd hK0 (d_45)
                have hown : (s.setDrawn (d_45)).vm.findClass RX11 = some m.cls := hown0
                refine lv_d2l hx hb dX11_bitsOf_105 ?_
                refine lv_topl (fun x_46 _ => ?_)
                refine lv_lstore (lv' := [(6, .long x_46), (4, .long w4), (2, .double z2), (0, .double p0)]) hx hb dX11_bitsOf_106 hl (by decide) rfl (fun ls hl => ?_)
                refine lv_dload_n hx hb dX11_bitsOf_108 rfl (lv_at hl 3 rfl) ?_
                refine lv_dconst0 hx hb dX11_bitsOf_109 ?_
                refine lv_dcmp hx hb dX11_bitsOf_110 ?_
                refine lv_topi (fun x_47 _ => ?_)
                refine lv_if_ge (tgt := 120) hx hb dX11_bitsOf_111 (by decide) (fun c_48 => ?_) (fun c_48 => ?_)
                · refine lv_lconst (v := 0) hx hb dX11_bitsOf_120 (by decide) ?_
                  refine lv_lstore (lv' := [(8, .long 0), (6, .long x_46), (4, .long w4), (2, .double z2), (0, .double p0)]) hx hb dX11_bitsOf_121 hl (by decide) rfl (fun ls hl => ?_)
                  refine lv_lload hx hb dX11_bitsOf_123 (lv_at hl 0 rfl) ?_
                  refine lv_lload hx hb dX11_bitsOf_125 (lv_at hl 2 rfl) ?_
                  refine lv_bipush (v := 52) hx hb dX11_bitsOf_127 (by decide) ?_
                  refine lv_lshl hx hb dX11_bitsOf_129 rfl ?_
                  refine lv_topl (fun x_49 _ => ?_)
                  refine lv_lor hx hb dX11_bitsOf_130 ?_
                  refine lv_topl (fun x_50 ex_50 => ?_)
                  refine lv_lload hx hb dX11_bitsOf_131 (lv_at hl 1 rfl) ?_
                  refine lv_lor hx hb dX11_bitsOf_133 ?_
                  refine lv_topl (fun x_51 ex_51 => ?_)
                  refine W.endD hd0 ?_
                  exact W.lret (v := x_51) hx hb hr (fun t ht hW => ⟨⟨x_51, σ, rfl, ⟨hI, rfl, trivial⟩, ⟨by rw [ht]; exact hP, hD⟩⟩, hS.F ht⟩) hS.2.2 dX11_bitsOf_134
                · refine lv_ldc2 (v := (-9223372036854775808)) hx hb hown (hts (.constantLong RX11 256 (-9223372036854775808)) (by decide +kernel)) dX11_bitsOf_114 ?_
                  refine lv_goto (tgt := 121) hx hb dX11_bitsOf_117 (by decide) ?_
                  refine lv_lstore (lv' := [(8, .long (-9223372036854775808)), (6, .long x_46), (4, .long w4), (2, .double z2), (0, .double p0)]) hx hb dX11_bitsOf_121 hl (by decide) rfl (fun ls hl => ?_)
                  refine lv_lload hx hb dX11_bitsOf_123 (lv_at hl 0 rfl) ?_
                  refine lv_lload hx hb dX11_bitsOf_125 (lv_at hl 2 rfl) ?_
                  refine lv_bipush (v := 52) hx hb dX11_bitsOf_127 (by decide) ?_
                  refine lv_lshl hx hb dX11_bitsOf_129 rfl ?_
                  refine lv_topl (fun x_52 _ => ?_)
                  refine lv_lor hx hb dX11_bitsOf_130 ?_
                  refine lv_topl (fun x_53 ex_53 => ?_)
                  refine lv_lload hx hb dX11_bitsOf_131 (lv_at hl 1 rfl) ?_
                  refine lv_lor hx hb dX11_bitsOf_133 ?_
                  refine lv_topl (fun x_54 ex_54 => ?_)
                  refine W.endD hd0 ?_
                  exact W.lret (v := x_54) hx hb hr (fun t ht hW => ⟨⟨x_54, σ, rfl, ⟨hI, rfl, trivial⟩, ⟨by rw [ht]; exact hP, hD⟩⟩, hS.F ht⟩) hS.2.2 dX11_bitsOf_134
              · refine lv_dload_n hx hb dX11_bitsOf_74 rfl (lv_at hl 2 rfl) ?_
                refine lv_dconst1 hx hb dX11_bitsOf_75 ?_
                refine lv_dcmp hx hb dX11_bitsOf_76 ?_
                refine lv_topi (fun x_55 _ => ?_)
                refine lv_if_ge (tgt := 98) hx hb dX11_bitsOf_77 (by decide) (fun c_56 => ?_) (fun c_56 => ?_)
                · refine lv_dload_n hx hb dX11_bitsOf_98 rfl (lv_at hl 2 rfl) ?_
                  refine lv_dconst1 hx hb dX11_bitsOf_99 ?_
                  refine lv_dsub_any hd0 lw_bits hx hb dX11_bitsOf_100 (fun y_57 d_58 _ hd0 => ?_)
                  have hts := dr_words hts0 (d_58)
                  have hK := gKd hK0 (d_58)
                  have hown : (s.setDrawn (d_58)).vm.findClass RX11 = some m.cls := hown0
                  refine lv_ldc2d (v := 4841369599423283200) hx hb hown (hts (.constantDouble RX11 411 (4841369599423283200)) (by decide +kernel)) dX11_bitsOf_101 ?_
                  refine lv_dmul_any hd0 lw_bits hx hb dX11_bitsOf_104 (fun y_59 d_60 _ hd0 => ?_)
                  have hts := dr_words hts0 (d_60)
                  have hK := gKd hK0 (d_60)
                  have hown : (s.setDrawn (d_60)).vm.findClass RX11 = some m.cls := hown0
                  refine lv_d2l hx hb dX11_bitsOf_105 ?_
                  refine lv_topl (fun x_61 _ => ?_)
                  refine lv_lstore (lv' := [(6, .long x_61), (4, .long w4), (2, .double z2), (0, .double p0)]) hx hb dX11_bitsOf_106 hl (by decide) rfl (fun ls hl => ?_)
                  refine lv_dload_n hx hb dX11_bitsOf_108 rfl (lv_at hl 3 rfl) ?_
                  refine lv_dconst0 hx hb dX11_bitsOf_109 ?_
                  refine lv_dcmp hx hb dX11_bitsOf_110 ?_
                  refine lv_topi (fun x_62 _ => ?_)
                  refine lv_if_ge (tgt := 120) hx hb dX11_bitsOf_111 (by decide) (fun c_63 => ?_) (fun c_63 => ?_)
                  · refine lv_lconst (v := 0) hx hb dX11_bitsOf_120 (by decide) ?_
                    refine lv_lstore (lv' := [(8, .long 0), (6, .long x_61), (4, .long w4), (2, .double z2), (0, .double p0)]) hx hb dX11_bitsOf_121 hl (by decide) rfl (fun ls hl => ?_)
                    refine lv_lload hx hb dX11_bitsOf_123 (lv_at hl 0 rfl) ?_
                    refine lv_lload hx hb dX11_bitsOf_125 (lv_at hl 2 rfl) ?_
                    refine lv_bipush (v := 52) hx hb dX11_bitsOf_127 (by decide) ?_
                    refine lv_lshl hx hb dX11_bitsOf_129 rfl ?_
                    refine lv_topl (fun x_64 _ => ?_)
                    refine lv_lor hx hb dX11_bitsOf_130 ?_
                    refine lv_topl (fun x_65 ex_65 => ?_)
                    refine lv_lload hx hb dX11_bitsOf_131 (lv_at hl 1 rfl) ?_
                    refine lv_lor hx hb dX11_bitsOf_133 ?_
                    refine lv_topl (fun x_66 ex_66 => ?_)
                    refine W.endD hd0 ?_
                    exact W.lret (v := x_66) hx hb hr (fun t ht hW => ⟨⟨x_66, σ, rfl, ⟨hI, rfl, trivial⟩, ⟨by rw [ht]; exact hP, hD⟩⟩, hS.F ht⟩) hS.2.2 dX11_bitsOf_134
                  · refine lv_ldc2 (v := (-9223372036854775808)) hx hb hown (hts (.constantLong RX11 256 (-9223372036854775808)) (by decide +kernel)) dX11_bitsOf_114 ?_
                    refine lv_goto (tgt := 121) hx hb dX11_bitsOf_117 (by decide) ?_
                    refine lv_lstore (lv' := [(8, .long (-9223372036854775808)), (6, .long x_61), (4, .long w4), (2, .double z2), (0, .double p0)]) hx hb dX11_bitsOf_121 hl (by decide) rfl (fun ls hl => ?_)
                    refine lv_lload hx hb dX11_bitsOf_123 (lv_at hl 0 rfl) ?_
                    refine lv_lload hx hb dX11_bitsOf_125 (lv_at hl 2 rfl) ?_
                    refine lv_bipush (v := 52) hx hb dX11_bitsOf_127 (by decide) ?_
                    refine lv_lshl hx hb dX11_bitsOf_129 rfl ?_
                    refine lv_topl (fun x_67 _ => ?_)
                    refine lv_lor hx hb dX11_bitsOf_130 ?_
                    refine lv_topl (fun x_68 ex_68 => ?_)
                    refine lv_lload hx hb dX11_bitsOf_131 (lv_at hl 1 rfl) ?_
                    refine lv_lor hx hb dX11_bitsOf_133 ?_
                    refine lv_topl (fun x_69 ex_69 => ?_)
                    refine W.endD hd0 ?_
                    exact W.lret (v := x_69) hx hb hr (fun t ht hW => ⟨⟨x_69, σ, rfl, ⟨hI, rfl, trivial⟩, ⟨by rw [ht]; exact hP, hD⟩⟩, hS.F ht⟩) hS.2.2 dX11_bitsOf_134
                · refine lv_dload_n hx hb dX11_bitsOf_80 rfl (lv_at hl 2 rfl) ?_
                  refine lv_ldc2d (v := 4611686018427387904) hx hb hown (hts (.constantDouble RX11 284 (4611686018427387904)) (by decide +kernel)) dX11_bitsOf_81 ?_
                  refine lv_dmul_any hd0 lw_bits hx hb dX11_bitsOf_84 (fun y_70 d_71 _ hd0 => ?_)
                  have hts := dr_words hts0 (d_71)
                  have hK := gKd hK0 (d_71)
                  have hown : (s.setDrawn (d_71)).vm.findClass RX11 = some m.cls := hown0
                  refine lv_dstore_n (lv' := [(2, .double y_70), (6, .int j6), (4, .long w4), (0, .double p0)]) hx hb dX11_bitsOf_85 rfl hl (by decide) rfl (fun ls hl => ?_)
                  refine lv_lload hx hb dX11_bitsOf_86 (lv_at hl 2 rfl) ?_
                  refine lv_lconst (v := 1) hx hb dX11_bitsOf_88 (by decide) ?_
                  refine lv_lsub hx hb dX11_bitsOf_89 ?_
                  refine lv_topl (fun x_72 ex_72 => ?_)
                  refine lv_lstore (lv' := [(4, .long x_72), (2, .double y_70), (6, .int j6), (0, .double p0)]) hx hb dX11_bitsOf_90 hl (by decide) rfl (fun ls hl => ?_)
                  obtain ⟨x_73, ex_73⟩ : ∃ zz : Int32, zz = j6 + 1 := ⟨_, rfl⟩
                  refine lv_iinc (v := x_73) (lv' := [(6, .int x_73), (4, .long x_72), (2, .double y_70), (0, .double p0)]) hx hb dX11_bitsOf_92 hl (k := 2) rfl (by rw [ex_73]; rfl) (by decide) rfl (fun ls hl => ?_)
                  refine lv_goto (tgt := 66) hx hb dX11_bitsOf_95 (by decide) ?_
                  exact ih66 x_73 y_70 x_72 _ _ _ _ (cnt_m iv66_0 (Int32.not_le.mp c_41) hm66 ex_73) (cnt_0 iv66_0 (Int32.not_le.mp c_41) ex_73) hd0 hP hD hS (lv_sub hl [0, 1, 2, 3] rfl)
          · refine lv_dload_n hx hb dX11_bitsOf_45 rfl (lv_at hl 2 rfl) ?_
            refine lv_ldc2d (v := 4611686018427387904) hx hb hown (hts (.constantDouble RX11 284 (4611686018427387904)) (by decide +kernel)) dX11_bitsOf_46 ?_
            refine lv_ddiv_any hd0 lw_bits hx hb dX11_bitsOf_49 (fun y_74 d_75 _ hd0 => ?_)
            have hts := dr_words hts0 (d_75)
            have hK := gKd hK0 (d_75)
            have hown : (s.setDrawn (d_75)).vm.findClass RX11 = some m.cls := hown0
            refine lv_dstore_n (lv' := [(2, .double y_74), (6, .int i6), (4, .long x4), (0, .double p0)]) hx hb dX11_bitsOf_50 rfl hl (by decide) rfl (fun ls hl => ?_)
            refine lv_lload hx hb dX11_bitsOf_51 (lv_at hl 2 rfl) ?_
            refine lv_lconst (v := 1) hx hb dX11_bitsOf_53 (by decide) ?_
            refine lv_ladd hx hb dX11_bitsOf_54 ?_
            refine lv_topl (fun x_76 ex_76 => ?_)
            refine lv_lstore (lv' := [(4, .long x_76), (2, .double y_74), (6, .int i6), (0, .double p0)]) hx hb dX11_bitsOf_55 hl (by decide) rfl (fun ls hl => ?_)
            obtain ⟨x_77, ex_77⟩ : ∃ zz : Int32, zz = i6 + 1 := ⟨_, rfl⟩
            refine lv_iinc (v := x_77) (lv' := [(6, .int x_77), (4, .long x_76), (2, .double y_74), (0, .double p0)]) hx hb dX11_bitsOf_57 hl (k := 2) rfl (by rw [ex_77]; rfl) (by decide) rfl (fun ls hl => ?_)
            refine lv_goto (tgt := 29) hx hb dX11_bitsOf_60 (by decide) ?_
            exact ih29 x_77 y_74 x_76 _ _ _ _ (cnt_m iv29_0 (Int32.not_le.mp c_5) hm29 ex_77) (cnt_0 iv29_0 (Int32.not_le.mp c_5) ex_77) hd0 hP hD hS (lv_sub hl [0, 1, 2, 3] rfl)
    · refine lv_dload_n hx hb dX11_bitsOf_14 rfl (lv_at hl 0 rfl) ?_
      refine lv_dneg hx hb dX11_bitsOf_15 ?_
      refine lv_topd (fun y_78 _ => ?_)
      refine lv_goto (tgt := 20) hx hb dX11_bitsOf_16 (by decide) ?_
      refine lv_dstore_n (lv' := [(2, .double y_78), (0, .double p0)]) hx hb dX11_bitsOf_20 rfl hl (by decide) rfl (fun ls hl => ?_)
      refine lv_ldc2 (v := 1023) hx hb hown (hts (.constantLong RX11 409 (1023)) (by decide +kernel)) dX11_bitsOf_21 ?_
      refine lv_lstore (lv' := [(4, .long 1023), (2, .double y_78), (0, .double p0)]) hx hb dX11_bitsOf_24 hl (by decide) rfl (fun ls hl => ?_)
      refine lv_iconst (v := 0) hx hb dX11_bitsOf_26 (by decide) ?_
      refine lv_istore (lv' := [(6, .int 0), (4, .long 1023), (2, .double y_78), (0, .double p0)]) hx hb dX11_bitsOf_27 hl (by decide) rfl (fun ls hl => ?_)
      refine (fun (h : ∀ (n : Nat) (i6 : Int32) (y2 : UInt64) (x4 : Int64) (d29 : Drawn) (H : Heap) (locs : List Loc) (ls : Array Slot), ((1100 : Int32).toInt - i6.toInt).toNat < n → 0 ≤ i6 → s.drawn.sameBut d29 lw_cs → va_P (dC, dI) vwCl (wX ad cA σ) H → va_D A (wX ad cA σ) → va_S A s.heap H locs → lv_has ls 10 [(6, .int i6), (4, .long x4), (2, .double y2), (0, .double p0)] → W p l e _ (s.setDrawn d29) m _ below meth c H locs _ _ _ (F0 m 29 ls [])) => h _ 0 y_78 1023 _ _ _ _ (Nat.lt_succ_self _) (by decide) hd0 hP hD hS (lv_sub hl [0, 1, 2, 3] rfl)) ?_
      intro n29
      induction n29 with
      | zero => intro i6 y2 x4  d29 H locs ls hm; exact absurd hm (Nat.not_lt_zero _)
      | succ n29 ih29 =>
        intro i6 y2 x4  d29 H locs ls hm29 iv29_0  hd0 hP hD hS hl
        have hts := dr_words hts0 (d29)
        have hK := gKd hK0 (d29)
        have hown : (s.setDrawn (d29)).vm.findClass RX11 = some m.cls := hown0
        refine lv_iload hx hb dX11_bitsOf_29 (lv_at hl 0 rfl) ?_
        refine lv_sipush (v := 1100) hx hb dX11_bitsOf_31 (by decide) ?_
        refine lv_icmp_ge (tgt := 63) hx hb dX11_bitsOf_34 (by decide) (fun c_79 => ?_) (fun c_79 => ?_)
        · refine lv_iconst (v := 0) hx hb dX11_bitsOf_63 (by decide) ?_
          refine lv_istore (lv' := [(6, .int 0), (4, .long x4), (2, .double y2), (0, .double p0)]) hx hb dX11_bitsOf_64 hl (by decide) rfl (fun ls hl => ?_)
          refine (fun (h : ∀ (n : Nat) (j6 : Int32) (z2 : UInt64) (w4 : Int64) (d66 : Drawn) (H : Heap) (locs : List Loc) (ls : Array Slot), ((1100 : Int32).toInt - j6.toInt).toNat < n → 0 ≤ j6 → s.drawn.sameBut d66 lw_cs → va_P (dC, dI) vwCl (wX ad cA σ) H → va_D A (wX ad cA σ) → va_S A s.heap H locs → lv_has ls 10 [(6, .int j6), (4, .long w4), (2, .double z2), (0, .double p0)] → W p l e _ (s.setDrawn d66) m _ below meth c H locs _ _ _ (F0 m 66 ls [])) => h _ 0 y2 x4 _ _ _ _ (Nat.lt_succ_self _) (by decide) hd0 hP hD hS (lv_sub hl [0, 1, 2, 3] rfl)) ?_
          intro n66
          induction n66 with
          | zero => intro j6 z2 w4  d66 H locs ls hm; exact absurd hm (Nat.not_lt_zero _)
          | succ n66 ih66 =>
            intro j6 z2 w4  d66 H locs ls hm66 iv66_0  hd0 hP hD hS hl
            have hts := dr_words hts0 (d66)
            have hK := gKd hK0 (d66)
            have hown : (s.setDrawn (d66)).vm.findClass RX11 = some m.cls := hown0
            refine lv_iload hx hb dX11_bitsOf_66 (lv_at hl 0 rfl) ?_
            refine lv_sipush (v := 1100) hx hb dX11_bitsOf_68 (by decide) ?_
            refine lv_icmp_ge (tgt := 98) hx hb dX11_bitsOf_71 (by decide) (fun c_80 => ?_) (fun c_80 => ?_)
            · refine lv_dload_n hx hb dX11_bitsOf_98 rfl (lv_at hl 2 rfl) ?_
              refine lv_dconst1 hx hb dX11_bitsOf_99 ?_
              refine lv_dsub_any hd0 lw_bits hx hb dX11_bitsOf_100 (fun y_81 d_82 _ hd0 => ?_)
              have hts := dr_words hts0 (d_82)
              have hK := gKd hK0 (d_82)
              have hown : (s.setDrawn (d_82)).vm.findClass RX11 = some m.cls := hown0
              refine lv_ldc2d (v := 4841369599423283200) hx hb hown (hts (.constantDouble RX11 411 (4841369599423283200)) (by decide +kernel)) dX11_bitsOf_101 ?_
              refine lv_dmul_any hd0 lw_bits hx hb dX11_bitsOf_104 (fun y_83 d_84 _ hd0 => ?_)
              have hts := dr_words hts0 (d_84)
              have hK := gKd hK0 (d_84)
              have hown : (s.setDrawn (d_84)).vm.findClass RX11 = some m.cls := hown0
              refine lv_d2l hx hb dX11_bitsOf_105 ?_
              refine lv_topl (fun x_85 _ => ?_)
              refine lv_lstore (lv' := [(6, .long x_85), (4, .long w4), (2, .double z2), (0, .double p0)]) hx hb dX11_bitsOf_106 hl (by decide) rfl (fun ls hl => ?_)
              refine lv_dload_n hx hb dX11_bitsOf_108 rfl (lv_at hl 3 rfl) ?_
              refine lv_dconst0 hx hb dX11_bitsOf_109 ?_
              refine lv_dcmp hx hb dX11_bitsOf_110 ?_
              refine lv_topi (fun x_86 _ => ?_)
              refine lv_if_ge (tgt := 120) hx hb dX11_bitsOf_111 (by decide) (fun c_87 => ?_) (fun c_87 => ?_)
              · refine lv_lconst (v := 0) hx hb dX11_bitsOf_120 (by decide) ?_
                refine lv_lstore (lv' := [(8, .long 0), (6, .long x_85), (4, .long w4), (2, .double z2), (0, .double p0)]) hx hb dX11_bitsOf_121 hl (by decide) rfl (fun ls hl => ?_)
                refine lv_lload hx hb dX11_bitsOf_123 (lv_at hl 0 rfl) ?_
                refine lv_lload hx hb dX11_bitsOf_125 (lv_at hl 2 rfl) ?_
                refine lv_bipush (v := 52) hx hb dX11_bitsOf_127 (by decide) ?_
                refine lv_lshl hx hb dX11_bitsOf_129 rfl ?_
                refine lv_topl (fun x_88 _ => ?_)
                refine lv_lor hx hb dX11_bitsOf_130 ?_
                refine lv_topl (fun x_89 ex_89 => ?_)
                refine lv_lload hx hb dX11_bitsOf_131 (lv_at hl 1 rfl) ?_
                refine lv_lor hx hb dX11_bitsOf_133 ?_
                refine lv_topl (fun x_90 ex_90 => ?_)
                refine W.endD hd0 ?_
                exact W.lret (v := x_90) hx hb hr (fun t ht hW => ⟨⟨x_90, σ, rfl, ⟨hI, rfl, trivial⟩, ⟨by rw [ht]; exact hP, hD⟩⟩, hS.F ht⟩) hS.2.2 dX11_bitsOf_134
              · refine lv_ldc2 (v := (-9223372036854775808)) hx hb hown (hts (.constantLong RX11 256 (-9223372036854775808)) (by decide +kernel)) dX11_bitsOf_114 ?_
                refine lv_goto (tgt := 121) hx hb dX11_bitsOf_117 (by decide) ?_
                refine lv_lstore (lv' := [(8, .long (-9223372036854775808)), (6, .long x_85), (4, .long w4), (2, .double z2), (0, .double p0)]) hx hb dX11_bitsOf_121 hl (by decide) rfl (fun ls hl => ?_)
                refine lv_lload hx hb dX11_bitsOf_123 (lv_at hl 0 rfl) ?_
                refine lv_lload hx hb dX11_bitsOf_125 (lv_at hl 2 rfl) ?_
                refine lv_bipush (v := 52) hx hb dX11_bitsOf_127 (by decide) ?_
                refine lv_lshl hx hb dX11_bitsOf_129 rfl ?_
                refine lv_topl (fun x_91 _ => ?_)
                refine lv_lor hx hb dX11_bitsOf_130 ?_
                refine lv_topl (fun x_92 ex_92 => ?_)
                refine lv_lload hx hb dX11_bitsOf_131 (lv_at hl 1 rfl) ?_
                refine lv_lor hx hb dX11_bitsOf_133 ?_
                refine lv_topl (fun x_93 ex_93 => ?_)
                refine W.endD hd0 ?_
                exact W.lret (v := x_93) hx hb hr (fun t ht hW => ⟨⟨x_93, σ, rfl, ⟨hI, rfl, trivial⟩, ⟨by rw [ht]; exact hP, hD⟩⟩, hS.F ht⟩) hS.2.2 dX11_bitsOf_134
            · refine lv_dload_n hx hb dX11_bitsOf_74 rfl (lv_at hl 2 rfl) ?_
              refine lv_dconst1 hx hb dX11_bitsOf_75 ?_
              refine lv_dcmp hx hb dX11_bitsOf_76 ?_
              refine lv_topi (fun x_94 _ => ?_)
              refine lv_if_ge (tgt := 98) hx hb dX11_bitsOf_77 (by decide) (fun c_95 => ?_) (fun c_95 => ?_)
              · refine lv_dload_n hx hb dX11_bitsOf_98 rfl (lv_at hl 2 rfl) ?_
                refine lv_dconst1 hx hb dX11_bitsOf_99 ?_
                refine lv_dsub_any hd0 lw_bits hx hb dX11_bitsOf_100 (fun y_96 d_97 _ hd0 => ?_)
                have hts := dr_words hts0 (d_97)
                have hK := gKd hK0 (d_97)
                have hown : (s.setDrawn (d_97)).vm.findClass RX11 = some m.cls := hown0
                refine lv_ldc2d (v := 4841369599423283200) hx hb hown (hts (.constantDouble RX11 411 (4841369599423283200)) (by decide +kernel)) dX11_bitsOf_101 ?_
                refine lv_dmul_any hd0 lw_bits hx hb dX11_bitsOf_104 (fun y_98 d_99 _ hd0 => ?_)
                have hts := dr_words hts0 (d_99)
                have hK := gKd hK0 (d_99)
                have hown : (s.setDrawn (d_99)).vm.findClass RX11 = some m.cls := hown0
                refine lv_d2l hx hb dX11_bitsOf_105 ?_
                refine lv_topl (fun x_100 _ => ?_)
                refine lv_lstore (lv' := [(6, .long x_100), (4, .long w4), (2, .double z2), (0, .double p0)]) hx hb dX11_bitsOf_106 hl (by decide) rfl (fun ls hl => ?_)
                refine lv_dload_n hx hb dX11_bitsOf_108 rfl (lv_at hl 3 rfl) ?_
                refine lv_dconst0 hx hb dX11_bitsOf_109 ?_
                refine lv_dcmp hx hb dX11_bitsOf_110 ?_
                refine lv_topi (fun x_101 _ => ?_)
                refine lv_if_ge (tgt := 120) hx hb dX11_bitsOf_111 (by decide) (fun c_102 => ?_) (fun c_102 => ?_)
                · refine lv_lconst (v := 0) hx hb dX11_bitsOf_120 (by decide) ?_
                  refine lv_lstore (lv' := [(8, .long 0), (6, .long x_100), (4, .long w4), (2, .double z2), (0, .double p0)]) hx hb dX11_bitsOf_121 hl (by decide) rfl (fun ls hl => ?_)
                  refine lv_lload hx hb dX11_bitsOf_123 (lv_at hl 0 rfl) ?_
                  refine lv_lload hx hb dX11_bitsOf_125 (lv_at hl 2 rfl) ?_
                  refine lv_bipush (v := 52) hx hb dX11_bitsOf_127 (by decide) ?_
                  refine lv_lshl hx hb dX11_bitsOf_129 rfl ?_
                  refine lv_topl (fun x_103 _ => ?_)
                  refine lv_lor hx hb dX11_bitsOf_130 ?_
                  refine lv_topl (fun x_104 ex_104 => ?_)
                  refine lv_lload hx hb dX11_bitsOf_131 (lv_at hl 1 rfl) ?_
                  refine lv_lor hx hb dX11_bitsOf_133 ?_
                  refine lv_topl (fun x_105 ex_105 => ?_)
                  refine W.endD hd0 ?_
                  exact W.lret (v := x_105) hx hb hr (fun t ht hW => ⟨⟨x_105, σ, rfl, ⟨hI, rfl, trivial⟩, ⟨by rw [ht]; exact hP, hD⟩⟩, hS.F ht⟩) hS.2.2 dX11_bitsOf_134
                · refine lv_ldc2 (v := (-9223372036854775808)) hx hb hown (hts (.constantLong RX11 256 (-9223372036854775808)) (by decide +kernel)) dX11_bitsOf_114 ?_
                  refine lv_goto (tgt := 121) hx hb dX11_bitsOf_117 (by decide) ?_
                  refine lv_lstore (lv' := [(8, .long (-9223372036854775808)), (6, .long x_100), (4, .long w4), (2, .double z2), (0, .double p0)]) hx hb dX11_bitsOf_121 hl (by decide) rfl (fun ls hl => ?_)
                  refine lv_lload hx hb dX11_bitsOf_123 (lv_at hl 0 rfl) ?_
                  refine lv_lload hx hb dX11_bitsOf_125 (lv_at hl 2 rfl) ?_
                  refine lv_bipush (v := 52) hx hb dX11_bitsOf_127 (by decide) ?_
                  refine lv_lshl hx hb dX11_bitsOf_129 rfl ?_
                  refine lv_topl (fun x_106 _ => ?_)
                  refine lv_lor hx hb dX11_bitsOf_130 ?_
                  refine lv_topl (fun x_107 ex_107 => ?_)
                  refine lv_lload hx hb dX11_bitsOf_131 (lv_at hl 1 rfl) ?_
                  refine lv_lor hx hb dX11_bitsOf_133 ?_
                  refine lv_topl (fun x_108 ex_108 => ?_)
                  refine W.endD hd0 ?_
                  exact W.lret (v := x_108) hx hb hr (fun t ht hW => ⟨⟨x_108, σ, rfl, ⟨hI, rfl, trivial⟩, ⟨by rw [ht]; exact hP, hD⟩⟩, hS.F ht⟩) hS.2.2 dX11_bitsOf_134
              · refine lv_dload_n hx hb dX11_bitsOf_80 rfl (lv_at hl 2 rfl) ?_
                refine lv_ldc2d (v := 4611686018427387904) hx hb hown (hts (.constantDouble RX11 284 (4611686018427387904)) (by decide +kernel)) dX11_bitsOf_81 ?_
                refine lv_dmul_any hd0 lw_bits hx hb dX11_bitsOf_84 (fun y_109 d_110 _ hd0 => ?_)
                have hts := dr_words hts0 (d_110)
                have hK := gKd hK0 (d_110)
                have hown : (s.setDrawn (d_110)).vm.findClass RX11 = some m.cls := hown0
                refine lv_dstore_n (lv' := [(2, .double y_109), (6, .int j6), (4, .long w4), (0, .double p0)]) hx hb dX11_bitsOf_85 rfl hl (by decide) rfl (fun ls hl => ?_)
                refine lv_lload hx hb dX11_bitsOf_86 (lv_at hl 2 rfl) ?_
                refine lv_lconst (v := 1) hx hb dX11_bitsOf_88 (by decide) ?_
                refine lv_lsub hx hb dX11_bitsOf_89 ?_
                refine lv_topl (fun x_111 ex_111 => ?_)
                refine lv_lstore (lv' := [(4, .long x_111), (2, .double y_109), (6, .int j6), (0, .double p0)]) hx hb dX11_bitsOf_90 hl (by decide) rfl (fun ls hl => ?_)
                obtain ⟨x_112, ex_112⟩ : ∃ zz : Int32, zz = j6 + 1 := ⟨_, rfl⟩
                refine lv_iinc (v := x_112) (lv' := [(6, .int x_112), (4, .long x_111), (2, .double y_109), (0, .double p0)]) hx hb dX11_bitsOf_92 hl (k := 2) rfl (by rw [ex_112]; rfl) (by decide) rfl (fun ls hl => ?_)
                refine lv_goto (tgt := 66) hx hb dX11_bitsOf_95 (by decide) ?_
                exact ih66 x_112 y_109 x_111 _ _ _ _ (cnt_m iv66_0 (Int32.not_le.mp c_80) hm66 ex_112) (cnt_0 iv66_0 (Int32.not_le.mp c_80) ex_112) hd0 hP hD hS (lv_sub hl [0, 1, 2, 3] rfl)
        · refine lv_dload_n hx hb dX11_bitsOf_37 rfl (lv_at hl 2 rfl) ?_
          refine lv_ldc2d (v := 4611686018427387904) hx hb hown (hts (.constantDouble RX11 284 (4611686018427387904)) (by decide +kernel)) dX11_bitsOf_38 ?_
          refine lv_dcmp hx hb dX11_bitsOf_41 ?_
          refine lv_topi (fun x_113 _ => ?_)
          refine lv_if_lt (tgt := 63) hx hb dX11_bitsOf_42 (by decide) (fun c_114 => ?_) (fun c_114 => ?_)
          · refine lv_iconst (v := 0) hx hb dX11_bitsOf_63 (by decide) ?_
            refine lv_istore (lv' := [(6, .int 0), (4, .long x4), (2, .double y2), (0, .double p0)]) hx hb dX11_bitsOf_64 hl (by decide) rfl (fun ls hl => ?_)
            refine (fun (h : ∀ (n : Nat) (j6 : Int32) (z2 : UInt64) (w4 : Int64) (d66 : Drawn) (H : Heap) (locs : List Loc) (ls : Array Slot), ((1100 : Int32).toInt - j6.toInt).toNat < n → 0 ≤ j6 → s.drawn.sameBut d66 lw_cs → va_P (dC, dI) vwCl (wX ad cA σ) H → va_D A (wX ad cA σ) → va_S A s.heap H locs → lv_has ls 10 [(6, .int j6), (4, .long w4), (2, .double z2), (0, .double p0)] → W p l e _ (s.setDrawn d66) m _ below meth c H locs _ _ _ (F0 m 66 ls [])) => h _ 0 y2 x4 _ _ _ _ (Nat.lt_succ_self _) (by decide) hd0 hP hD hS (lv_sub hl [0, 1, 2, 3] rfl)) ?_
            intro n66
            induction n66 with
            | zero => intro j6 z2 w4  d66 H locs ls hm; exact absurd hm (Nat.not_lt_zero _)
            | succ n66 ih66 =>
              intro j6 z2 w4  d66 H locs ls hm66 iv66_0  hd0 hP hD hS hl
              have hts := dr_words hts0 (d66)
              have hK := gKd hK0 (d66)
              have hown : (s.setDrawn (d66)).vm.findClass RX11 = some m.cls := hown0
              refine lv_iload hx hb dX11_bitsOf_66 (lv_at hl 0 rfl) ?_
              refine lv_sipush (v := 1100) hx hb dX11_bitsOf_68 (by decide) ?_
              refine lv_icmp_ge (tgt := 98) hx hb dX11_bitsOf_71 (by decide) (fun c_115 => ?_) (fun c_115 => ?_)
              · refine lv_dload_n hx hb dX11_bitsOf_98 rfl (lv_at hl 2 rfl) ?_
                refine lv_dconst1 hx hb dX11_bitsOf_99 ?_
                refine lv_dsub_any hd0 lw_bits hx hb dX11_bitsOf_100 (fun y_116 d_117 _ hd0 => ?_)
                have hts := dr_words hts0 (d_117)
                have hK := gKd hK0 (d_117)
                have hown : (s.setDrawn (d_117)).vm.findClass RX11 = some m.cls := hown0
                refine lv_ldc2d (v := 4841369599423283200) hx hb hown (hts (.constantDouble RX11 411 (4841369599423283200)) (by decide +kernel)) dX11_bitsOf_101 ?_
                refine lv_dmul_any hd0 lw_bits hx hb dX11_bitsOf_104 (fun y_118 d_119 _ hd0 => ?_)
                have hts := dr_words hts0 (d_119)
                have hK := gKd hK0 (d_119)
                have hown : (s.setDrawn (d_119)).vm.findClass RX11 = some m.cls := hown0
                refine lv_d2l hx hb dX11_bitsOf_105 ?_
                refine lv_topl (fun x_120 _ => ?_)
                refine lv_lstore (lv' := [(6, .long x_120), (4, .long w4), (2, .double z2), (0, .double p0)]) hx hb dX11_bitsOf_106 hl (by decide) rfl (fun ls hl => ?_)
                refine lv_dload_n hx hb dX11_bitsOf_108 rfl (lv_at hl 3 rfl) ?_
                refine lv_dconst0 hx hb dX11_bitsOf_109 ?_
                refine lv_dcmp hx hb dX11_bitsOf_110 ?_
                refine lv_topi (fun x_121 _ => ?_)
                refine lv_if_ge (tgt := 120) hx hb dX11_bitsOf_111 (by decide) (fun c_122 => ?_) (fun c_122 => ?_)
                · refine lv_lconst (v := 0) hx hb dX11_bitsOf_120 (by decide) ?_
                  refine lv_lstore (lv' := [(8, .long 0), (6, .long x_120), (4, .long w4), (2, .double z2), (0, .double p0)]) hx hb dX11_bitsOf_121 hl (by decide) rfl (fun ls hl => ?_)
                  refine lv_lload hx hb dX11_bitsOf_123 (lv_at hl 0 rfl) ?_
                  refine lv_lload hx hb dX11_bitsOf_125 (lv_at hl 2 rfl) ?_
                  refine lv_bipush (v := 52) hx hb dX11_bitsOf_127 (by decide) ?_
                  refine lv_lshl hx hb dX11_bitsOf_129 rfl ?_
                  refine lv_topl (fun x_123 _ => ?_)
                  refine lv_lor hx hb dX11_bitsOf_130 ?_
                  refine lv_topl (fun x_124 ex_124 => ?_)
                  refine lv_lload hx hb dX11_bitsOf_131 (lv_at hl 1 rfl) ?_
                  refine lv_lor hx hb dX11_bitsOf_133 ?_
                  refine lv_topl (fun x_125 ex_125 => ?_)
                  refine W.endD hd0 ?_
                  exact W.lret (v := x_125) hx hb hr (fun t ht hW => ⟨⟨x_125, σ, rfl, ⟨hI, rfl, trivial⟩, ⟨by rw [ht]; exact hP, hD⟩⟩, hS.F ht⟩) hS.2.2 dX11_bitsOf_134
                · refine lv_ldc2 (v := (-9223372036854775808)) hx hb hown (hts (.constantLong RX11 256 (-9223372036854775808)) (by decide +kernel)) dX11_bitsOf_114 ?_
                  refine lv_goto (tgt := 121) hx hb dX11_bitsOf_117 (by decide) ?_
                  refine lv_lstore (lv' := [(8, .long (-9223372036854775808)), (6, .long x_120), (4, .long w4), (2, .double z2), (0, .double p0)]) hx hb dX11_bitsOf_121 hl (by decide) rfl (fun ls hl => ?_)
                  refine lv_lload hx hb dX11_bitsOf_123 (lv_at hl 0 rfl) ?_
                  refine lv_lload hx hb dX11_bitsOf_125 (lv_at hl 2 rfl) ?_
                  refine lv_bipush (v := 52) hx hb dX11_bitsOf_127 (by decide) ?_
                  refine lv_lshl hx hb dX11_bitsOf_129 rfl ?_
                  refine lv_topl (fun x_126 _ => ?_)
                  refine lv_lor hx hb dX11_bitsOf_130 ?_
                  refine lv_topl (fun x_127 ex_127 => ?_)
                  refine lv_lload hx hb dX11_bitsOf_131 (lv_at hl 1 rfl) ?_
                  refine lv_lor hx hb dX11_bitsOf_133 ?_
                  refine lv_topl (fun x_128 ex_128 => ?_)
                  refine W.endD hd0 ?_
                  exact W.lret (v := x_128) hx hb hr (fun t ht hW => ⟨⟨x_128, σ, rfl, ⟨hI, rfl, trivial⟩, ⟨by rw [ht]; exact hP, hD⟩⟩, hS.F ht⟩) hS.2.2 dX11_bitsOf_134
              · refine lv_dload_n hx hb dX11_bitsOf_74 rfl (lv_at hl 2 rfl) ?_
                refine lv_dconst1 hx hb dX11_bitsOf_75 ?_
                refine lv_dcmp hx hb dX11_bitsOf_76 ?_
                refine lv_topi (fun x_129 _ => ?_)
                refine lv_if_ge (tgt := 98) hx hb dX11_bitsOf_77 (by decide) (fun c_130 => ?_) (fun c_130 => ?_)
                · refine lv_dload_n hx hb dX11_bitsOf_98 rfl (lv_at hl 2 rfl) ?_
                  refine lv_dconst1 hx hb dX11_bitsOf_99 ?_
                  refine lv_dsub_any hd0 lw_bits hx hb dX11_bitsOf_100 (fun y_131 d_132 _ hd0 => ?_)
                  have hts := dr_words hts0 (d_132)
                  have hK := gKd hK0 (d_132)
                  have hown : (s.setDrawn (d_132)).vm.findClass RX11 = some m.cls := hown0
                  refine lv_ldc2d (v := 4841369599423283200) hx hb hown (hts (.constantDouble RX11 411 (4841369599423283200)) (by decide +kernel)) dX11_bitsOf_101 ?_
                  refine lv_dmul_any hd0 lw_bits hx hb dX11_bitsOf_104 (fun y_133 d_134 _ hd0 => ?_)
                  have hts := dr_words hts0 (d_134)
                  have hK := gKd hK0 (d_134)
                  have hown : (s.setDrawn (d_134)).vm.findClass RX11 = some m.cls := hown0
                  refine lv_d2l hx hb dX11_bitsOf_105 ?_
                  refine lv_topl (fun x_135 _ => ?_)
                  refine lv_lstore (lv' := [(6, .long x_135), (4, .long w4), (2, .double z2), (0, .double p0)]) hx hb dX11_bitsOf_106 hl (by decide) rfl (fun ls hl => ?_)
                  refine lv_dload_n hx hb dX11_bitsOf_108 rfl (lv_at hl 3 rfl) ?_
                  refine lv_dconst0 hx hb dX11_bitsOf_109 ?_
                  refine lv_dcmp hx hb dX11_bitsOf_110 ?_
                  refine lv_topi (fun x_136 _ => ?_)
                  refine lv_if_ge (tgt := 120) hx hb dX11_bitsOf_111 (by decide) (fun c_137 => ?_) (fun c_137 => ?_)
                  · refine lv_lconst (v := 0) hx hb dX11_bitsOf_120 (by decide) ?_
                    refine lv_lstore (lv' := [(8, .long 0), (6, .long x_135), (4, .long w4), (2, .double z2), (0, .double p0)]) hx hb dX11_bitsOf_121 hl (by decide) rfl (fun ls hl => ?_)
                    refine lv_lload hx hb dX11_bitsOf_123 (lv_at hl 0 rfl) ?_
                    refine lv_lload hx hb dX11_bitsOf_125 (lv_at hl 2 rfl) ?_
                    refine lv_bipush (v := 52) hx hb dX11_bitsOf_127 (by decide) ?_
                    refine lv_lshl hx hb dX11_bitsOf_129 rfl ?_
                    refine lv_topl (fun x_138 _ => ?_)
                    refine lv_lor hx hb dX11_bitsOf_130 ?_
                    refine lv_topl (fun x_139 ex_139 => ?_)
                    refine lv_lload hx hb dX11_bitsOf_131 (lv_at hl 1 rfl) ?_
                    refine lv_lor hx hb dX11_bitsOf_133 ?_
                    refine lv_topl (fun x_140 ex_140 => ?_)
                    refine W.endD hd0 ?_
                    exact W.lret (v := x_140) hx hb hr (fun t ht hW => ⟨⟨x_140, σ, rfl, ⟨hI, rfl, trivial⟩, ⟨by rw [ht]; exact hP, hD⟩⟩, hS.F ht⟩) hS.2.2 dX11_bitsOf_134
                  · refine lv_ldc2 (v := (-9223372036854775808)) hx hb hown (hts (.constantLong RX11 256 (-9223372036854775808)) (by decide +kernel)) dX11_bitsOf_114 ?_
                    refine lv_goto (tgt := 121) hx hb dX11_bitsOf_117 (by decide) ?_
                    refine lv_lstore (lv' := [(8, .long (-9223372036854775808)), (6, .long x_135), (4, .long w4), (2, .double z2), (0, .double p0)]) hx hb dX11_bitsOf_121 hl (by decide) rfl (fun ls hl => ?_)
                    refine lv_lload hx hb dX11_bitsOf_123 (lv_at hl 0 rfl) ?_
                    refine lv_lload hx hb dX11_bitsOf_125 (lv_at hl 2 rfl) ?_
                    refine lv_bipush (v := 52) hx hb dX11_bitsOf_127 (by decide) ?_
                    refine lv_lshl hx hb dX11_bitsOf_129 rfl ?_
                    refine lv_topl (fun x_141 _ => ?_)
                    refine lv_lor hx hb dX11_bitsOf_130 ?_
                    refine lv_topl (fun x_142 ex_142 => ?_)
                    refine lv_lload hx hb dX11_bitsOf_131 (lv_at hl 1 rfl) ?_
                    refine lv_lor hx hb dX11_bitsOf_133 ?_
                    refine lv_topl (fun x_143 ex_143 => ?_)
                    refine W.endD hd0 ?_
                    exact W.lret (v := x_143) hx hb hr (fun t ht hW => ⟨⟨x_143, σ, rfl, ⟨hI, rfl, trivial⟩, ⟨by rw [ht]; exact hP, hD⟩⟩, hS.F ht⟩) hS.2.2 dX11_bitsOf_134
                · refine lv_dload_n hx hb dX11_bitsOf_80 rfl (lv_at hl 2 rfl) ?_
                  refine lv_ldc2d (v := 4611686018427387904) hx hb hown (hts (.constantDouble RX11 284 (4611686018427387904)) (by decide +kernel)) dX11_bitsOf_81 ?_
                  refine lv_dmul_any hd0 lw_bits hx hb dX11_bitsOf_84 (fun y_144 d_145 _ hd0 => ?_)
                  have hts := dr_words hts0 (d_145)
                  have hK := gKd hK0 (d_145)
                  have hown : (s.setDrawn (d_145)).vm.findClass RX11 = some m.cls := hown0
                  refine lv_dstore_n (lv' := [(2, .double y_144), (6, .int j6), (4, .long w4), (0, .double p0)]) hx hb dX11_bitsOf_85 rfl hl (by decide) rfl (fun ls hl => ?_)
                  refine lv_lload hx hb dX11_bitsOf_86 (lv_at hl 2 rfl) ?_
                  refine lv_lconst (v := 1) hx hb dX11_bitsOf_88 (by decide) ?_
                  refine lv_lsub hx hb dX11_bitsOf_89 ?_
                  refine lv_topl (fun x_146 ex_146 => ?_)
                  refine lv_lstore (lv' := [(4, .long x_146), (2, .double y_144), (6, .int j6), (0, .double p0)]) hx hb dX11_bitsOf_90 hl (by decide) rfl (fun ls hl => ?_)
                  obtain ⟨x_147, ex_147⟩ : ∃ zz : Int32, zz = j6 + 1 := ⟨_, rfl⟩
                  refine lv_iinc (v := x_147) (lv' := [(6, .int x_147), (4, .long x_146), (2, .double y_144), (0, .double p0)]) hx hb dX11_bitsOf_92 hl (k := 2) rfl (by rw [ex_147]; rfl) (by decide) rfl (fun ls hl => ?_)
                  refine lv_goto (tgt := 66) hx hb dX11_bitsOf_95 (by decide) ?_
                  exact ih66 x_147 y_144 x_146 _ _ _ _ (cnt_m iv66_0 (Int32.not_le.mp c_115) hm66 ex_147) (cnt_0 iv66_0 (Int32.not_le.mp c_115) ex_147) hd0 hP hD hS (lv_sub hl [0, 1, 2, 3] rfl)
          · refine lv_dload_n hx hb dX11_bitsOf_45 rfl (lv_at hl 2 rfl) ?_
            refine lv_ldc2d (v := 4611686018427387904) hx hb hown (hts (.constantDouble RX11 284 (4611686018427387904)) (by decide +kernel)) dX11_bitsOf_46 ?_
            refine lv_ddiv_any hd0 lw_bits hx hb dX11_bitsOf_49 (fun y_148 d_149 _ hd0 => ?_)
            have hts := dr_words hts0 (d_149)
            have hK := gKd hK0 (d_149)
            have hown : (s.setDrawn (d_149)).vm.findClass RX11 = some m.cls := hown0
            refine lv_dstore_n (lv' := [(2, .double y_148), (6, .int i6), (4, .long x4), (0, .double p0)]) hx hb dX11_bitsOf_50 rfl hl (by decide) rfl (fun ls hl => ?_)
            refine lv_lload hx hb dX11_bitsOf_51 (lv_at hl 2 rfl) ?_
            refine lv_lconst (v := 1) hx hb dX11_bitsOf_53 (by decide) ?_
            refine lv_ladd hx hb dX11_bitsOf_54 ?_
            refine lv_topl (fun x_150 ex_150 => ?_)
            refine lv_lstore (lv' := [(4, .long x_150), (2, .double y_148), (6, .int i6), (0, .double p0)]) hx hb dX11_bitsOf_55 hl (by decide) rfl (fun ls hl => ?_)
            obtain ⟨x_151, ex_151⟩ : ∃ zz : Int32, zz = i6 + 1 := ⟨_, rfl⟩
            refine lv_iinc (v := x_151) (lv' := [(6, .int x_151), (4, .long x_150), (2, .double y_148), (0, .double p0)]) hx hb dX11_bitsOf_57 hl (k := 2) rfl (by rw [ex_151]; rfl) (by decide) rfl (fun ls hl => ?_)
            refine lv_goto (tgt := 29) hx hb dX11_bitsOf_60 (by decide) ?_
            exact ih29 x_151 y_148 x_150 _ _ _ _ (cnt_m iv29_0 (Int32.not_le.mp c_79) hm29 ex_151) (cnt_0 iv29_0 (Int32.not_le.mp c_79) ex_151) hd0 hP hD hS (lv_sub hl [0, 1, 2, 3] rfl)
  · refine lv_lconst (v := 0) hx hb dX11_bitsOf_6 (by decide) ?_
    refine W.endD hd0 ?_
    exact W.lret (v := 0) hx hb hr (fun t ht hW => ⟨⟨0, σ, rfl, ⟨hI, rfl, trivial⟩, ⟨by rw [ht]; exact hP, hD⟩⟩, hS.F ht⟩) hS.2.2 dX11_bitsOf_7
set_option maxHeartbeats 8000000 in
set_option maxRecDepth 100000 in
theorem n_X11_refuse (l : Launch) (dC : Nat → ClassId) (dI : Nat → Nat → Nat) (ad : Nat → Nat) (cA : Nat → ClassId) (adK adV : Nat → Nat) (sz : Nat) (σ : gs) (hI : InvX σ) (p0 : Int32) : MetD lw_cs l yX11_refuse wsX11_refuse ({ frames := 0, cells := 0, slots := 0, locals := 0 }) (va_Pc [.ref (ad 0), .int p0] (gPre adK adV (dC, dI) (wX ad cA σ) (tX cA) sz)) (va_Qi (fun (r : Int32) (τ : gs) => InvX τ ∧ gFr [10] σ τ ∧ (True)) (fun τ t => gPost (dC, dI) (va_A (wX ad cA σ) sz) (wX ad cA τ) t) (va_A (wX ad cA σ) sz)) 0 0 (va_A (wX ad cA σ) sz) := by
  refine MetD.ofW (cc := cX11_refuse) (maxL := 2) (ret := (some .int)) (by decide) rfl ?_
  intro p e s m args below meth c s₁ B hml hv hd0
  obtain ⟨rfl, hsz, hP, hK, hD0, hT⟩ := hv
  have hx := B.exec
  have hb := B.bytes
  have hr := B.returns
  have hts0 := atoms_spec (ws := wsX11_refuse) B.pre
  have hK0 := hK
  have hown0 : s.vm.findClass RX11 = some m.cls := findClass_of_methodNamed B.named
  have hlocks := B.notSynchronized
  have hinX11 : ∀ w ∈ u_ws RX11 TX11 15, w ∈ wsX11_refuse := (fun _ h9 => List.mem_cons_of_mem _ (List.mem_append_right _ h9))
  subst hsz
  have hD := hD0.self (sz := s.heap.size)
  generalize hAe : va_A (wX ad cA σ) s.heap.size = A at hD hT ⊢
  have hA : ∀ q : Nat, s.heap.size ≤ q → A q := fun q h => by rw [← hAe]; exact Or.inr h
  have hS : va_S A s.heap s.heap [] := va_S.rf
  have hl := lv_entry ([.ref (ad 0), .int p0]) (n := 2) (Nat.le_of_ble_eq_true rfl)
  rw [lg_entry_eq]
  generalize (lg_sl ([.ref (ad 0), .int p0]) ++ List.replicate (2 - (lg_sl ([.ref (ad 0), .int p0])).length) Slot.unset).toArray = ls at hl ⊢
  have hl : lv_has ls 2 [(0, .ref (ad 0)), (1, .int p0)] := hl
  have hts := dr_words hts0 (s.drawn)
  have hK := gKd hK0 (s.drawn)
  have hown : (s.setDrawn (s.drawn)).vm.findClass RX11 = some m.cls := hown0
  refine lv_aload_n hx hb dX11_refuse_0 rfl (lv_at hl 0 rfl) ?_
  refine lv_iload_n hx hb dX11_refuse_1 rfl (lv_at hl 1 rfl) ?_
  refine va_put (D := (dC, dI)) (ci := 10) (v := .int p0) (C := RX11) (T := TX11) (N := 15) hx hb hts hinX11 tyX11 tyX11_ok nmX11 hown hK hP hD hS 0 (at_10 rfl) rfl 12 (by decide) (hts (.fieldLink RX11 74 "BondCalendars" "refusal" "I") (by decide +kernel)) (fun _ h9 => h9) rfl (ty := .int) (by decide +kernel) rfl rfl (Nat.le_of_ble_eq_true rfl) dX11_refuse_2 (fun H locs hP hD hS => ?_)
  obtain ⟨σ1, eσ1, hP, hD⟩ := gPut (se_10_12 rfl) hP hD
  have hIσ1 : InvX σ1 := by rw [eσ1]; exact inv_I hI (ok_10_12 rfl _)
  have frσ1 : gFr [10] σ σ1 := by rw [eσ1]; exact gFr.pI (gFr.rfl (L := [10]) (σ := σ)) rfl (by decide)
  refine lv_iconst (v := (-1)) hx hb dX11_refuse_5 (by decide) ?_
  refine W.endD hd0 ?_
  exact W.iret (v := (-1)) hx hb hr (fun t ht hW => ⟨⟨(-1), σ1, rfl, ⟨hIσ1, frσ1, trivial⟩, ⟨by rw [ht]; exact hP, hD⟩⟩, hS.F ht⟩) hS.2.2 dX11_refuse_6
set_option maxHeartbeats 8000000 in
set_option maxRecDepth 100000 in
theorem n_X11_refuseLong (l : Launch) (dC : Nat → ClassId) (dI : Nat → Nat → Nat) (ad : Nat → Nat) (cA : Nat → ClassId) (adK adV : Nat → Nat) (sz : Nat) (σ : gs) (hI : InvX σ) (p0 : Int32) : MetD lw_cs l yX11_refuseLong wsX11_refuseLong ({ frames := 0, cells := 0, slots := 0, locals := 0 }) (va_Pc [.ref (ad 0), .int p0] (gPre adK adV (dC, dI) (wX ad cA σ) (tX cA) sz)) (va_Ql (fun (r : Int64) (τ : gs) => InvX τ ∧ gFr [10] σ τ ∧ (True)) (fun τ t => gPost (dC, dI) (va_A (wX ad cA σ) sz) (wX ad cA τ) t) (va_A (wX ad cA σ) sz)) 0 0 (va_A (wX ad cA σ) sz) := by
  refine MetD.ofW (cc := cX11_refuseLong) (maxL := 2) (ret := (some .long)) (by decide) rfl ?_
  intro p e s m args below meth c s₁ B hml hv hd0
  obtain ⟨rfl, hsz, hP, hK, hD0, hT⟩ := hv
  have hx := B.exec
  have hb := B.bytes
  have hr := B.returns
  have hts0 := atoms_spec (ws := wsX11_refuseLong) B.pre
  have hK0 := hK
  have hown0 : s.vm.findClass RX11 = some m.cls := findClass_of_methodNamed B.named
  have hlocks := B.notSynchronized
  have hinX11 : ∀ w ∈ u_ws RX11 TX11 15, w ∈ wsX11_refuseLong := (fun _ h9 => List.mem_cons_of_mem _ (List.mem_append_right _ h9))
  subst hsz
  have hD := hD0.self (sz := s.heap.size)
  generalize hAe : va_A (wX ad cA σ) s.heap.size = A at hD hT ⊢
  have hA : ∀ q : Nat, s.heap.size ≤ q → A q := fun q h => by rw [← hAe]; exact Or.inr h
  have hS : va_S A s.heap s.heap [] := va_S.rf
  have hl := lv_entry ([.ref (ad 0), .int p0]) (n := 2) (Nat.le_of_ble_eq_true rfl)
  rw [lg_entry_eq]
  generalize (lg_sl ([.ref (ad 0), .int p0]) ++ List.replicate (2 - (lg_sl ([.ref (ad 0), .int p0])).length) Slot.unset).toArray = ls at hl ⊢
  have hl : lv_has ls 2 [(0, .ref (ad 0)), (1, .int p0)] := hl
  have hts := dr_words hts0 (s.drawn)
  have hK := gKd hK0 (s.drawn)
  have hown : (s.setDrawn (s.drawn)).vm.findClass RX11 = some m.cls := hown0
  refine lv_aload_n hx hb dX11_refuseLong_0 rfl (lv_at hl 0 rfl) ?_
  refine lv_iload_n hx hb dX11_refuseLong_1 rfl (lv_at hl 1 rfl) ?_
  refine va_put (D := (dC, dI)) (ci := 10) (v := .int p0) (C := RX11) (T := TX11) (N := 15) hx hb hts hinX11 tyX11 tyX11_ok nmX11 hown hK hP hD hS 0 (at_10 rfl) rfl 12 (by decide) (hts (.fieldLink RX11 74 "BondCalendars" "refusal" "I") (by decide +kernel)) (fun _ h9 => h9) rfl (ty := .int) (by decide +kernel) rfl rfl (Nat.le_of_ble_eq_true rfl) dX11_refuseLong_2 (fun H locs hP hD hS => ?_)
  obtain ⟨σ1, eσ1, hP, hD⟩ := gPut (se_10_12 rfl) hP hD
  have hIσ1 : InvX σ1 := by rw [eσ1]; exact inv_I hI (ok_10_12 rfl _)
  have frσ1 : gFr [10] σ σ1 := by rw [eσ1]; exact gFr.pI (gFr.rfl (L := [10]) (σ := σ)) rfl (by decide)
  refine lv_ldc2 (v := (-9223372036854775808)) hx hb hown (hts (.constantLong RX11 256 (-9223372036854775808)) (by decide +kernel)) dX11_refuseLong_5 ?_
  refine W.endD hd0 ?_
  exact W.lret (v := (-9223372036854775808)) hx hb hr (fun t ht hW => ⟨⟨(-9223372036854775808), σ1, rfl, ⟨hIσ1, frσ1, trivial⟩, ⟨by rw [ht]; exact hP, hD⟩⟩, hS.F ht⟩) hS.2.2 dX11_refuseLong_8
set_option maxHeartbeats 8000000 in
set_option maxRecDepth 100000 in
theorem n_X11_bondOf (l : Launch) (dC : Nat → ClassId) (dI : Nat → Nat → Nat) (ad : Nat → Nat) (cA : Nat → ClassId) (adK adV : Nat → Nat) (sz : Nat) (σ : gs) (hI : InvX σ) (p0 : Int32) : MetD lw_cs l yX11_bondOf wsX11_bondOf ({ frames := 0, cells := 0, slots := 0, locals := 0 }) (va_Pc [.ref (ad 0), .int p0] (gPre adK adV (dC, dI) (wX ad cA σ) (tX cA) sz)) (va_Qq (fun (r : Option Nat) (τ : gs) => InvX τ ∧ σ = τ ∧ (r = none ∨ ∃ b, kX b = 0 ∧ r = some (ad b) ∧ 0 ≤ p0 ∧ p0 < 4)) (fun τ t => gPost (dC, dI) (va_A (wX ad cA σ) sz) (wX ad cA τ) t) (va_A (wX ad cA σ) sz)) 0 0 (va_A (wX ad cA σ) sz) := by
  refine MetD.ofW (cc := cX11_bondOf) (maxL := 2) (ret := (some (.object "BondCalendars$Bond"))) (by decide) rfl ?_
  intro p e s m args below meth c s₁ B hml hv hd0
  obtain ⟨rfl, hsz, hP, hK, hD0, hT⟩ := hv
  have hx := B.exec
  have hb := B.bytes
  have hr := B.returns
  have hts0 := atoms_spec (ws := wsX11_bondOf) B.pre
  have hK0 := hK
  have hown0 : s.vm.findClass RX11 = some m.cls := findClass_of_methodNamed B.named
  have hlocks := B.notSynchronized
  have hinX11 : ∀ w ∈ u_ws RX11 TX11 15, w ∈ wsX11_bondOf := (fun _ h9 => List.mem_cons_of_mem _ (List.mem_append_left _ (List.mem_append_right _ h9)))
  have hinX4 : ∀ w ∈ u_ws RX4 TX4 12, w ∈ wsX11_bondOf := (fun _ h9 => List.mem_cons_of_mem _ (List.mem_append_right _ h9))
  subst hsz
  have hD := hD0.self (sz := s.heap.size)
  generalize hAe : va_A (wX ad cA σ) s.heap.size = A at hD hT ⊢
  have hA : ∀ q : Nat, s.heap.size ≤ q → A q := fun q h => by rw [← hAe]; exact Or.inr h
  have hS : va_S A s.heap s.heap [] := va_S.rf
  have hl := lv_entry ([.ref (ad 0), .int p0]) (n := 2) (Nat.le_of_ble_eq_true rfl)
  rw [lg_entry_eq]
  generalize (lg_sl ([.ref (ad 0), .int p0]) ++ List.replicate (2 - (lg_sl ([.ref (ad 0), .int p0])).length) Slot.unset).toArray = ls at hl ⊢
  have hl : lv_has ls 2 [(0, .ref (ad 0)), (1, .int p0)] := hl
  have hts := dr_words hts0 (s.drawn)
  have hK := gKd hK0 (s.drawn)
  have hown : (s.setDrawn (s.drawn)).vm.findClass RX11 = some m.cls := hown0
  refine lv_aload_n hx hb dX11_bondOf_0 rfl (lv_at hl 0 rfl) ?_
  refine va_get (D := (dC, dI)) (ci := 10) (v := .int ((σ 0).1 10)) (C := RX11) (T := TX11) (N := 15) hx hb hts hinX11 hown hK hP 0 (at_10 rfl) rfl 10 (by decide) (hts (.fieldLink RX11 67 "BondCalendars" "hasDesk" "Z") (by decide +kernel)) (fun _ h9 => h9) rfl dX11_bondOf_1 ?_
  refine lv_if_eq (tgt := 34) hx hb dX11_bondOf_4 (by decide) (fun c_1 => ?_) (fun c_1 => ?_)
  · refine lv_null hx hb dX11_bondOf_34 ?_
    refine W.endD hd0 ?_
    exact W.aret (v := .null) hx hb hr (Or.inl ⟨_, rfl⟩) (Or.inl rfl) (fun t ht hW => ⟨⟨none, σ, rfl, ⟨hI, rfl, Or.inl rfl⟩, ⟨by rw [ht]; exact hP, hD⟩⟩, hS.F ht⟩) hS.2.2 dX11_bondOf_35
  · refine lv_iload_n hx hb dX11_bondOf_7 rfl (lv_at hl 1 rfl) ?_
    refine lv_if_lt (tgt := 34) hx hb dX11_bondOf_8 (by decide) (fun c_2 => ?_) (fun c_2 => ?_)
    · refine lv_null hx hb dX11_bondOf_34 ?_
      refine W.endD hd0 ?_
      exact W.aret (v := .null) hx hb hr (Or.inl ⟨_, rfl⟩) (Or.inl rfl) (fun t ht hW => ⟨⟨none, σ, rfl, ⟨hI, rfl, Or.inl rfl⟩, ⟨by rw [ht]; exact hP, hD⟩⟩, hS.F ht⟩) hS.2.2 dX11_bondOf_35
    · refine lv_iload_n hx hb dX11_bondOf_11 rfl (lv_at hl 1 rfl) ?_
      refine lv_aload_n hx hb dX11_bondOf_12 rfl (lv_at hl 0 rfl) ?_
      obtain ⟨b_3, hb_4, q_5⟩ := rq_10_8 (c := 0) hI rfl
      refine va_get (D := (dC, dI)) (ci := 10) (v := .ref (ad b_3)) (C := RX11) (T := TX11) (N := 15) hx hb hts hinX11 hown hK hP 0 (at_10 rfl) rfl 8 (by decide) (hts (.fieldLink RX11 60 "BondCalendars" "live" "LBondCalendars$Desk;") (by decide +kernel)) (fun _ h9 => h9) (by show some (va_re ad ((σ 0).2.2.2 8)) = _; rw [q_5]; rfl) dX11_bondOf_13 ?_
      refine va_get (D := (dC, dI)) (ci := 3) (v := .int ((σ b_3).1 4)) (C := RX4) (T := TX4) (N := 12) hx hb hts hinX4 hown hK hP b_3 (at_3 hb_4) rfl 4 (by decide) (hts (.fieldLink RX11 124 "BondCalendars$Desk" "bondCount" "I") (by decide +kernel)) (fun _ h9 => h9) rfl dX11_bondOf_16 ?_
      refine lv_icmp_ge (tgt := 34) hx hb dX11_bondOf_19 (by decide) (fun c_6 => ?_) (fun c_6 => ?_)
      · refine lv_null hx hb dX11_bondOf_34 ?_
        refine W.endD hd0 ?_
        exact W.aret (v := .null) hx hb hr (Or.inl ⟨_, rfl⟩) (Or.inl rfl) (fun t ht hW => ⟨⟨none, σ, rfl, ⟨hI, rfl, Or.inl rfl⟩, ⟨by rw [ht]; exact hP, hD⟩⟩, hS.F ht⟩) hS.2.2 dX11_bondOf_35
      · refine lv_iload_n hx hb dX11_bondOf_22 rfl (lv_at hl 1 rfl) ?_
        refine lv_aload_n hx hb dX11_bondOf_23 rfl (lv_at hl 0 rfl) ?_
        refine va_get (D := (dC, dI)) (ci := 10) (v := .ref (ad b_3)) (C := RX11) (T := TX11) (N := 15) hx hb hts hinX11 hown hK hP 0 (at_10 rfl) rfl 8 (by decide) (hts (.fieldLink RX11 60 "BondCalendars" "live" "LBondCalendars$Desk;") (by decide +kernel)) (fun _ h9 => h9) (by show some (va_re ad ((σ 0).2.2.2 8)) = _; rw [q_5]; rfl) dX11_bondOf_24 ?_
        refine va_get (D := (dC, dI)) (ci := 3) (v := .ref (ad (b_3 + 3))) (C := RX4) (T := TX4) (N := 12) hx hb hts hinX4 hown hK hP b_3 (at_3 hb_4) rfl 3 (by decide) (hts (.fieldLink RX11 352 "BondCalendars$Desk" "bonds" "[LBondCalendars$Bond;") (by decide +kernel)) (fun _ h9 => h9) rfl dX11_bondOf_27 ?_
        refine va_alen (v := 4) hx hb hK hP ((b_3 + 3)) ((b_3 + 3)) (at_26 (kk_3_3 hb_4)) (ty_26 (kk_3_3 hb_4)) rfl dX11_bondOf_30 ?_
        refine lv_icmp_lt (tgt := 36) hx hb dX11_bondOf_31 (by decide) (fun c_7 => ?_) (fun c_7 => ?_)
        · refine lv_aload_n hx hb dX11_bondOf_36 rfl (lv_at hl 0 rfl) ?_
          refine va_get (D := (dC, dI)) (ci := 10) (v := .ref (ad b_3)) (C := RX11) (T := TX11) (N := 15) hx hb hts hinX11 hown hK hP 0 (at_10 rfl) rfl 8 (by decide) (hts (.fieldLink RX11 60 "BondCalendars" "live" "LBondCalendars$Desk;") (by decide +kernel)) (fun _ h9 => h9) (by show some (va_re ad ((σ 0).2.2.2 8)) = _; rw [q_5]; rfl) dX11_bondOf_37 ?_
          refine va_get (D := (dC, dI)) (ci := 3) (v := .ref (ad (b_3 + 3))) (C := RX4) (T := TX4) (N := 12) hx hb hts hinX4 hown hK hP b_3 (at_3 hb_4) rfl 3 (by decide) (hts (.fieldLink RX11 352 "BondCalendars$Desk" "bonds" "[LBondCalendars$Bond;") (by decide +kernel)) (fun _ h9 => h9) rfl dX11_bondOf_40 ?_
          refine lv_iload_n hx hb dX11_bondOf_43 rfl (lv_at hl 1 rfl) ?_
          have hi_8 : vp_in p0 4 := (gin (N := 4) (by decide) (Int32.not_lt.mp c_2) c_7)
          refine va_aldq hx hb hK hP ((b_3 + 3)) ((b_3 + 3)) (at_26 (kk_3_3 hb_4)) (ty_26 (kk_3_3 hb_4)) hi_8 dX11_bondOf_44 ?_
          refine (fun h => (va_rd_26 (ad := ad) (c := (b_3 + 3)) hi_8) ▸ h) ?_
          obtain ⟨c_9, hc_10, ecc_9⟩ : ∃ z, kX z = 0 ∧ (b_3 + 3) + 1 + 7 * p0.toNatClampNeg = z := ⟨_, kr_26 (kk_3_3 hb_4) (Nat.not_le.mp fun q => hi_8 (Or.inr q)), rfl⟩
          rw [ecc_9]
          refine W.endD hd0 ?_
          exact W.aret (v := .ref (ad c_9)) hx hb hr (Or.inl ⟨_, rfl⟩) (Or.inr ⟨_, rfl⟩) (fun t ht hW => ⟨⟨some (ad c_9), σ, rfl, ⟨hI, rfl, Or.inr ⟨_, hc_10, rfl, (Int32.not_lt.mp c_2), c_7⟩⟩, ⟨by rw [ht]; exact hP, hD⟩⟩, hS.F ht⟩) hS.2.2 dX11_bondOf_45
        · refine lv_null hx hb dX11_bondOf_34 ?_
          refine W.endD hd0 ?_
          exact W.aret (v := .null) hx hb hr (Or.inl ⟨_, rfl⟩) (Or.inl rfl) (fun t ht hW => ⟨⟨none, σ, rfl, ⟨hI, rfl, Or.inl rfl⟩, ⟨by rw [ht]; exact hP, hD⟩⟩, hS.F ht⟩) hS.2.2 dX11_bondOf_35
set_option maxHeartbeats 8000000 in
set_option maxRecDepth 100000 in
theorem n_X11_openSettle (l : Launch) (dC : Nat → ClassId) (dI : Nat → Nat → Nat) (ad : Nat → Nat) (cA : Nat → ClassId) (adK adV : Nat → Nat) (sz : Nat) (σ : gs) (hI : InvX σ) (p0 : Int32) (p1 : Int32) (p2 : Int32) : MetD lw_cs l yX11_openSettle wsX11_openSettle ({ frames := 6, cells := 0, slots := 0, locals := 154 }) (va_Pc [.ref (ad 0), .int p0, .int p1, .int p2] (gPre adK adV (dC, dI) (wX ad cA σ) (tX cA) sz)) (va_Qi (fun (r : Int32) (τ : gs) => InvX τ ∧ gFr [5, 7, 10] σ τ ∧ (r = 0 ∨ r = 1)) (fun τ t => gPost (dC, dI) (va_A (wX ad cA σ) sz) (wX ad cA τ) t) (va_A (wX ad cA σ) sz)) 0 0 (va_A (wX ad cA σ) sz) := by
  refine MetD.ofW (cc := cX11_openSettle) (maxL := 6) (ret := (some .boolean)) (by decide) rfl ?_
  intro p e s m args below meth c s₁ B hml hv hd0
  obtain ⟨rfl, hsz, hP, hK, hD0, hT⟩ := hv
  have hx := B.exec
  have hb := B.bytes
  have hr := B.returns
  have hts0 := atoms_spec (ws := wsX11_openSettle) B.pre
  have hK0 := hK
  have hown0 : s.vm.findClass RX11 = some m.cls := findClass_of_methodNamed B.named
  have hlocks := B.notSynchronized
  have hinX11 : ∀ w ∈ u_ws RX11 TX11 15, w ∈ wsX11_openSettle := (fun _ h9 => List.mem_cons_of_mem _ (List.mem_append_left _ (List.mem_append_left _ (List.mem_append_left _ (List.mem_append_left _ (List.mem_append_right _ h9))))))
  subst hsz
  have hD := hD0.self (sz := s.heap.size)
  generalize hAe : va_A (wX ad cA σ) s.heap.size = A at hD hT ⊢
  have hA : ∀ q : Nat, s.heap.size ≤ q → A q := fun q h => by rw [← hAe]; exact Or.inr h
  have hS : va_S A s.heap s.heap [] := va_S.rf
  have hl := lv_entry ([.ref (ad 0), .int p0, .int p1, .int p2]) (n := 6) (Nat.le_of_ble_eq_true rfl)
  rw [lg_entry_eq]
  generalize (lg_sl ([.ref (ad 0), .int p0, .int p1, .int p2]) ++ List.replicate (6 - (lg_sl ([.ref (ad 0), .int p0, .int p1, .int p2])).length) Slot.unset).toArray = ls at hl ⊢
  have hl : lv_has ls 6 [(0, .ref (ad 0)), (1, .int p0), (2, .int p1), (3, .int p2)] := hl
  have hts := dr_words hts0 (s.drawn)
  have hK := gKd hK0 (s.drawn)
  have hown : (s.setDrawn (s.drawn)).vm.findClass RX11 = some m.cls := hown0
  refine lv_aload_n hx hb dX11_openSettle_0 rfl (lv_at hl 0 rfl) ?_
  refine lv_iload_n hx hb dX11_openSettle_1 rfl (lv_at hl 1 rfl) ?_
  have hF := gFree hD hS hA
  refine va_callqD hd0 (va_runV_D (As := [.int p0]) (rest := []) ⟨hx, hb, hml, hown, hts⟩ (n_X11_bondOf l dC dI ad cA adK adV s.heap.size σ hI p0) (cwV 1 hts gX11_openSettle_X11_bondOf rfl rfl rfl (by decide +kernel) ⟨Nat.le_of_ble_eq_true rfl, Nat.le_of_ble_eq_true rfl⟩) ⟨gBlind, va_recv hK hP (ci := 10) (q0 := 0) rfl (at_10 rfl), gStart (As := [.ref (ad 0), .int p0]) hP hD hK0 hT hS hF (s.drawn)⟩ rfl rfl hl.1 rfl (lv_room (Nat.le_of_ble_eq_true rfl)) dX11_openSettle_2 ⟨Nat.le_of_ble_eq_true rfl, Nat.le_of_ble_eq_true rfl⟩) hS (fun q _ h => hF q h) hF (fun r_1 σ1 t H locs ht hvm hw hB hz1 hk1 hS d_2 hd0 => ?_)
  have hts := dr_words hts0 (d_2)
  have hK := gKd hK0 (d_2)
  have hown : (s.setDrawn (d_2)).vm.findClass RX11 = some m.cls := hown0
  obtain ⟨hP, hD⟩ := gBack hF ht hB
  obtain ⟨hIσ1, hro, hp_3⟩ := hw
  subst hro
  rcases hp_3 with rfl | ⟨b_4, hb_5, rfl, hq_6, hq_7⟩
  · refine W.eq (g2 := F0 m 5 ls [.null]) rfl ?_
    refine lv_astoreN (lv' := [(4, .null), (0, .ref (ad 0)), (1, .int p0), (2, .int p1), (3, .int p2)]) hx hb dX11_openSettle_5 hl (by decide) rfl (fun ls hl => ?_)
    refine lv_aloadN hx hb dX11_openSettle_7 (lv_at hl 0 rfl) ?_
    refine lv_ifnonnullN hx hb dX11_openSettle_9 ?_
    refine lv_aload_n hx hb dX11_openSettle_12 rfl (lv_at hl 1 rfl) ?_
    refine lv_iconst (v := 1) hx hb dX11_openSettle_13 (by decide) ?_
    refine va_put (D := (dC, dI)) (ci := 10) (v := .int 1) (C := RX11) (T := TX11) (N := 15) hx hb hts hinX11 tyX11 tyX11_ok nmX11 hown hK hP hD hS 0 (at_10 rfl) rfl 12 (by decide) (hts (.fieldLink RX11 74 "BondCalendars" "refusal" "I") (by decide +kernel)) (fun _ h9 => h9) rfl (ty := .int) (by decide +kernel) rfl rfl (Nat.le_of_ble_eq_true rfl) dX11_openSettle_14 (fun H locs hP hD hS => ?_)
    obtain ⟨σ2, eσ2, hP, hD⟩ := gPut (se_10_12 rfl) hP hD
    have hIσ2 : InvX σ2 := by rw [eσ2]; exact inv_I hI (ok_10_12 rfl _)
    have frσ2 : gFr [5, 7, 10] σ σ2 := by rw [eσ2]; exact gFr.pI (gFr.rfl (L := [5, 7, 10]) (σ := σ)) rfl (by decide)
    refine lv_iconst (v := 0) hx hb dX11_openSettle_17 (by decide) ?_
    refine W.endD hd0 ?_
    exact W.zret (v := 0) hx hb hr (by decide) (fun t ht hW => ⟨⟨0, σ2, rfl, ⟨hIσ2, frσ2, Or.inl rfl⟩, ⟨by rw [ht]; exact hP, hD⟩⟩, hS.F ht⟩) hS.2.2 dX11_openSettle_18
  · refine W.eq (g2 := F0 m 5 ls [.ref (ad b_4)]) rfl ?_
    refine lv_astore (lv' := [(4, .ref (ad b_4)), (0, .ref (ad 0)), (1, .int p0), (2, .int p1), (3, .int p2)]) hx hb dX11_openSettle_5 hl (by decide) rfl (fun ls hl => ?_)
    refine lv_aload hx hb dX11_openSettle_7 (lv_at hl 0 rfl) ?_
    refine lv_ifnonnull (tgt := 19) hx hb dX11_openSettle_9 (by decide) ?_
    refine lv_iload_n hx hb dX11_openSettle_19 rfl (lv_at hl 3 rfl) ?_
    have hF := gFree (w := []) (hx_D0 (A := A)) hS hA
    have hKe := hK.sub (tys' := []) [] rfl
    refine va_calli (va_runS (As := [.int p1]) (rest := []) ⟨hx, hb, hml, hown, hts⟩ (k_X3_isDate l dC dI H.size p1 ) (va_cwS 1 hts gX11_openSettle_X3_isDate rfl rfl rfl (by decide +kernel) ⟨Nat.le_of_ble_eq_true rfl, Nat.le_of_ble_eq_true rfl⟩) ⟨fun a U g mk q => by obtain ⟨q0, q1, qP, qK, qD⟩ := q; exact ⟨q0, q1, qP, va_K.moved (u := U) (U := U.calling g mk a) (Vm.Alike.refl U.vm) qK, qD⟩, fun U hU hW => ⟨rfl, by rw [hU], hx_P0, va_K.moved hW.alike hKe, hx_D0⟩⟩ rfl rfl hl.1 rfl (lv_room (Nat.le_of_ble_eq_true rfl)) dX11_openSettle_20 ⟨Nat.le_of_ble_eq_true rfl, Nat.le_of_ble_eq_true rfl⟩) hS (fun q _ h => hF q h) hF (fun r_8 u t H locs ht hvm hw hB hz1 hk1 hS => ?_)
    have hP := gKeep hP hk1
    refine lv_if_eq (tgt := 30) hx hb dX11_openSettle_23 (by decide) (fun c_9 => ?_) (fun c_9 => ?_)
    · refine lv_aload_n hx hb dX11_openSettle_30 rfl (lv_at hl 1 rfl) ?_
      refine lv_iconst (v := 2) hx hb dX11_openSettle_31 (by decide) ?_
      refine va_put (D := (dC, dI)) (ci := 10) (v := .int 2) (C := RX11) (T := TX11) (N := 15) hx hb hts hinX11 tyX11 tyX11_ok nmX11 hown hK hP hD hS 0 (at_10 rfl) rfl 12 (by decide) (hts (.fieldLink RX11 74 "BondCalendars" "refusal" "I") (by decide +kernel)) (fun _ h9 => h9) rfl (ty := .int) (by decide +kernel) rfl rfl (Nat.le_of_ble_eq_true rfl) dX11_openSettle_32 (fun H locs hP hD hS => ?_)
      obtain ⟨σ3, eσ3, hP, hD⟩ := gPut (se_10_12 rfl) hP hD
      have hIσ3 : InvX σ3 := by rw [eσ3]; exact inv_I hI (ok_10_12 rfl _)
      have frσ3 : gFr [5, 7, 10] σ σ3 := by rw [eσ3]; exact gFr.pI (gFr.rfl (L := [5, 7, 10]) (σ := σ)) rfl (by decide)
      refine lv_iconst (v := 0) hx hb dX11_openSettle_35 (by decide) ?_
      refine W.endD hd0 ?_
      exact W.zret (v := 0) hx hb hr (by decide) (fun t ht hW => ⟨⟨0, σ3, rfl, ⟨hIσ3, frσ3, Or.inl rfl⟩, ⟨by rw [ht]; exact hP, hD⟩⟩, hS.F ht⟩) hS.2.2 dX11_openSettle_36
    · refine lv_iload_n hx hb dX11_openSettle_26 rfl (lv_at hl 4 rfl) ?_
      refine lv_if_ne (tgt := 37) hx hb dX11_openSettle_27 (by decide) (fun c_10 => ?_) (fun c_10 => ?_)
      · refine lv_iload_n hx hb dX11_openSettle_37 rfl (lv_at hl 3 rfl) ?_
        have hF := gFree (w := []) (hx_D0 (A := A)) hS hA
        have hKe := hK.sub (tys' := []) [] rfl
        refine va_calli (va_runS (As := [.int p1]) (rest := []) ⟨hx, hb, hml, hown, hts⟩ (k_X3_dayOf l dC dI H.size p1 ) (va_cwS 1 hts gX11_openSettle_X3_dayOf rfl rfl rfl (by decide +kernel) ⟨Nat.le_of_ble_eq_true rfl, Nat.le_of_ble_eq_true rfl⟩) ⟨fun a U g mk q => by obtain ⟨q0, q1, qP, qK, qD⟩ := q; exact ⟨q0, q1, qP, va_K.moved (u := U) (U := U.calling g mk a) (Vm.Alike.refl U.vm) qK, qD⟩, fun U hU hW => ⟨rfl, by rw [hU], hx_P0, va_K.moved hW.alike hKe, hx_D0⟩⟩ rfl rfl hl.1 rfl (lv_room (Nat.le_of_ble_eq_true rfl)) dX11_openSettle_38 ⟨Nat.le_of_ble_eq_true rfl, Nat.le_of_ble_eq_true rfl⟩) hS (fun q _ h => hF q h) hF (fun r_11 u t H locs ht hvm hw hB hz1 hk1 hS => ?_)
        have hP := gKeep hP hk1
        refine lv_istore (lv' := [(5, .int r_11), (4, .ref (ad b_4)), (0, .ref (ad 0)), (1, .int p0), (2, .int p1), (3, .int p2)]) hx hb dX11_openSettle_41 hl (by decide) rfl (fun ls hl => ?_)
        refine lv_aload hx hb dX11_openSettle_43 (lv_at hl 1 rfl) ?_
        refine lv_iload hx hb dX11_openSettle_45 (lv_at hl 0 rfl) ?_
        have hF := gFree hD hS hA
        refine va_calliD hd0 (va_runV_D (As := [.int r_11]) (rest := []) ⟨hx, hb, hml, hown, hts⟩ (n_X0_isSettle l dC dI ad cA adK adV H.size σ hI b_4 hb_5 r_11) (cwV 1 hts gX11_openSettle_X0_isSettle rfl rfl rfl (by decide +kernel) ⟨Nat.le_of_ble_eq_true rfl, Nat.le_of_ble_eq_true rfl⟩) ⟨gBlind, va_recv hK hP (ci := 0) (q0 := b_4) rfl (at_0 hb_5), gStart (As := [.ref (ad b_4), .int r_11]) hP hD hK0 hT hS hF (d_2)⟩ rfl rfl hl.1 rfl (lv_room (Nat.le_of_ble_eq_true rfl)) dX11_openSettle_47 ⟨Nat.le_of_ble_eq_true rfl, Nat.le_of_ble_eq_true rfl⟩) hS (fun q _ h => hF q h) hF (fun r_12 σ4 t H locs ht hvm hw hB hz1 hk1 hS d_13 hd0 => ?_)
        have hts := dr_words hts0 (d_13)
        have hK := gKd hK0 (d_13)
        have hown : (s.setDrawn (d_13)).vm.findClass RX11 = some m.cls := hown0
        obtain ⟨hP, hD⟩ := gBack hF ht hB
        obtain ⟨hIσ4, hro, hp_14⟩ := hw
        subst hro
        refine lv_if_ne (tgt := 60) hx hb dX11_openSettle_50 (by decide) (fun c_15 => ?_) (fun c_15 => ?_)
        · refine lv_aload_n hx hb dX11_openSettle_60 rfl (lv_at hl 2 rfl) ?_
          refine lv_iconst (v := 0) hx hb dX11_openSettle_61 (by decide) ?_
          refine va_put (D := (dC, dI)) (ci := 10) (v := .int 0) (C := RX11) (T := TX11) (N := 15) hx hb hts hinX11 tyX11 tyX11_ok nmX11 hown hK hP hD hS 0 (at_10 rfl) rfl 12 (by decide) (hts (.fieldLink RX11 74 "BondCalendars" "refusal" "I") (by decide +kernel)) (fun _ h9 => h9) rfl (ty := .int) (by decide +kernel) rfl rfl (Nat.le_of_ble_eq_true rfl) dX11_openSettle_62 (fun H locs hP hD hS => ?_)
          obtain ⟨σ5, eσ5, hP, hD⟩ := gPut (se_10_12 rfl) hP hD
          have hIσ5 : InvX σ5 := by rw [eσ5]; exact inv_I hI (ok_10_12 rfl _)
          have frσ5 : gFr [5, 7, 10] σ σ5 := by rw [eσ5]; exact gFr.pI (gFr.rfl (L := [5, 7, 10]) (σ := σ)) rfl (by decide)
          refine lv_aload_n hx hb dX11_openSettle_65 rfl (lv_at hl 2 rfl) ?_
          refine va_get (D := (dC, dI)) (ci := 10) (v := .ref (ad 4)) (C := RX11) (T := TX11) (N := 15) hx hb hts hinX11 hown hK hP 0 (at_10 rfl) rfl 1 (by decide) (hts (.fieldLink RX11 19 "BondCalendars" "settle" "LBondCalendars$Settle;") (by decide +kernel)) (fun _ h9 => h9) rfl dX11_openSettle_66 ?_
          refine lv_aload hx hb dX11_openSettle_69 (lv_at hl 1 rfl) ?_
          refine lv_iload hx hb dX11_openSettle_71 (lv_at hl 0 rfl) ?_
          have hF := gFree hD hS hA
          refine va_callvD hd0 (va_runV_D (As := [.ref (ad b_4), .int r_11]) (rest := []) ⟨hx, hb, hml, hown, hts⟩ (n_X8_open l dC dI ad cA adK adV H.size σ5 hIσ5 4 rfl b_4 hb_5 r_11) (cwV 2 hts gX11_openSettle_X8_open rfl rfl rfl (by decide +kernel) ⟨Nat.le_of_ble_eq_true rfl, Nat.le_of_ble_eq_true rfl⟩) ⟨gBlind, va_recv hK hP (ci := 7) (q0 := 4) rfl (at_7 rfl), gStart (As := [.ref (ad 4), .ref (ad b_4), .int r_11]) hP hD hK0 hT hS hF (d_13)⟩ rfl rfl hl.1 rfl (lv_room (Nat.le_of_ble_eq_true rfl)) dX11_openSettle_73 ⟨Nat.le_of_ble_eq_true rfl, Nat.le_of_ble_eq_true rfl⟩) hS (fun q _ h => hF q h) hF (fun σ6 t H locs ht hvm hw hB hz1 hk1 hS d_17 hd0 => ?_)
          have hts := dr_words hts0 (d_17)
          have hK := gKd hK0 (d_17)
          have hown : (s.setDrawn (d_17)).vm.findClass RX11 = some m.cls := hown0
          obtain ⟨hP, hD⟩ := gBack hF ht hB
          obtain ⟨hIσ6, fcσ6, hp_18⟩ := hw
          refine lv_iconst (v := 1) hx hb dX11_openSettle_76 (by decide) ?_
          refine W.endD hd0 ?_
          exact W.zret (v := 1) hx hb hr (by decide) (fun t ht hW => ⟨⟨1, σ6, rfl, ⟨hIσ6, (gFr.tr frσ5 fcσ6 (by decide)), Or.inr rfl⟩, ⟨by rw [ht]; exact hP, hD⟩⟩, hS.F ht⟩) hS.2.2 dX11_openSettle_77
        · refine lv_aload_n hx hb dX11_openSettle_53 rfl (lv_at hl 2 rfl) ?_
          refine lv_iconst (v := 5) hx hb dX11_openSettle_54 (by decide) ?_
          refine va_put (D := (dC, dI)) (ci := 10) (v := .int 5) (C := RX11) (T := TX11) (N := 15) hx hb hts hinX11 tyX11 tyX11_ok nmX11 hown hK hP hD hS 0 (at_10 rfl) rfl 12 (by decide) (hts (.fieldLink RX11 74 "BondCalendars" "refusal" "I") (by decide +kernel)) (fun _ h9 => h9) rfl (ty := .int) (by decide +kernel) rfl rfl (Nat.le_of_ble_eq_true rfl) dX11_openSettle_55 (fun H locs hP hD hS => ?_)
          obtain ⟨σ7, eσ7, hP, hD⟩ := gPut (se_10_12 rfl) hP hD
          have hIσ7 : InvX σ7 := by rw [eσ7]; exact inv_I hI (ok_10_12 rfl _)
          have frσ7 : gFr [5, 7, 10] σ σ7 := by rw [eσ7]; exact gFr.pI (gFr.rfl (L := [5, 7, 10]) (σ := σ)) rfl (by decide)
          refine lv_iconst (v := 0) hx hb dX11_openSettle_58 (by decide) ?_
          refine W.endD hd0 ?_
          exact W.zret (v := 0) hx hb hr (by decide) (fun t ht hW => ⟨⟨0, σ7, rfl, ⟨hIσ7, frσ7, Or.inl rfl⟩, ⟨by rw [ht]; exact hP, hD⟩⟩, hS.F ht⟩) hS.2.2 dX11_openSettle_59
      · refine lv_aload_n hx hb dX11_openSettle_30 rfl (lv_at hl 1 rfl) ?_
        refine lv_iconst (v := 2) hx hb dX11_openSettle_31 (by decide) ?_
        refine va_put (D := (dC, dI)) (ci := 10) (v := .int 2) (C := RX11) (T := TX11) (N := 15) hx hb hts hinX11 tyX11 tyX11_ok nmX11 hown hK hP hD hS 0 (at_10 rfl) rfl 12 (by decide) (hts (.fieldLink RX11 74 "BondCalendars" "refusal" "I") (by decide +kernel)) (fun _ h9 => h9) rfl (ty := .int) (by decide +kernel) rfl rfl (Nat.le_of_ble_eq_true rfl) dX11_openSettle_32 (fun H locs hP hD hS => ?_)
        obtain ⟨σ8, eσ8, hP, hD⟩ := gPut (se_10_12 rfl) hP hD
        have hIσ8 : InvX σ8 := by rw [eσ8]; exact inv_I hI (ok_10_12 rfl _)
        have frσ8 : gFr [5, 7, 10] σ σ8 := by rw [eσ8]; exact gFr.pI (gFr.rfl (L := [5, 7, 10]) (σ := σ)) rfl (by decide)
        refine lv_iconst (v := 0) hx hb dX11_openSettle_35 (by decide) ?_
        refine W.endD hd0 ?_
        exact W.zret (v := 0) hx hb hr (by decide) (fun t ht hW => ⟨⟨0, σ8, rfl, ⟨hIσ8, frσ8, Or.inl rfl⟩, ⟨by rw [ht]; exact hP, hD⟩⟩, hS.F ht⟩) hS.2.2 dX11_openSettle_36
set_option maxHeartbeats 8000000 in
set_option maxRecDepth 100000 in
theorem n_X11_mayGo (l : Launch) (dC : Nat → ClassId) (dI : Nat → Nat → Nat) (ad : Nat → Nat) (cA : Nat → ClassId) (adK adV : Nat → Nat) (sz : Nat) (σ : gs) (hI : InvX σ) (p0 : Int32) : MetD lw_cs l yX11_mayGo wsX11_mayGo ({ frames := 1, cells := 0, slots := 0, locals := 24 }) (va_Pc [.ref (ad 0), .int p0] (gPre adK adV (dC, dI) (wX ad cA σ) (tX cA) sz)) (va_Qi (fun (r : Int32) (τ : gs) => InvX τ ∧ gFr [10] σ τ ∧ (r = 0 ∨ r = 1)) (fun τ t => gPost (dC, dI) (va_A (wX ad cA σ) sz) (wX ad cA τ) t) (va_A (wX ad cA σ) sz)) 0 0 (va_A (wX ad cA σ) sz) := by
  refine MetD.ofW (cc := cX11_mayGo) (maxL := 2) (ret := (some .boolean)) (by decide) rfl ?_
  intro p e s m args below meth c s₁ B hml hv hd0
  obtain ⟨rfl, hsz, hP, hK, hD0, hT⟩ := hv
  have hx := B.exec
  have hb := B.bytes
  have hr := B.returns
  have hts0 := atoms_spec (ws := wsX11_mayGo) B.pre
  have hK0 := hK
  have hown0 : s.vm.findClass RX11 = some m.cls := findClass_of_methodNamed B.named
  have hlocks := B.notSynchronized
  have hinX11 : ∀ w ∈ u_ws RX11 TX11 15, w ∈ wsX11_mayGo := (fun _ h9 => List.mem_cons_of_mem _ (List.mem_append_left _ (List.mem_append_right _ h9)))
  have hinX1 : ∀ w ∈ u_ws RX1 TX1 4, w ∈ wsX11_mayGo := (fun _ h9 => List.mem_cons_of_mem _ (List.mem_append_right _ h9))
  subst hsz
  have hD := hD0.self (sz := s.heap.size)
  generalize hAe : va_A (wX ad cA σ) s.heap.size = A at hD hT ⊢
  have hA : ∀ q : Nat, s.heap.size ≤ q → A q := fun q h => by rw [← hAe]; exact Or.inr h
  have hS : va_S A s.heap s.heap [] := va_S.rf
  have hl := lv_entry ([.ref (ad 0), .int p0]) (n := 2) (Nat.le_of_ble_eq_true rfl)
  rw [lg_entry_eq]
  generalize (lg_sl ([.ref (ad 0), .int p0]) ++ List.replicate (2 - (lg_sl ([.ref (ad 0), .int p0])).length) Slot.unset).toArray = ls at hl ⊢
  have hl : lv_has ls 2 [(0, .ref (ad 0)), (1, .int p0)] := hl
  have hts := dr_words hts0 (s.drawn)
  have hK := gKd hK0 (s.drawn)
  have hown : (s.setDrawn (s.drawn)).vm.findClass RX11 = some m.cls := hown0
  refine lv_aload_n hx hb dX11_mayGo_0 rfl (lv_at hl 0 rfl) ?_
  refine va_get (D := (dC, dI)) (ci := 10) (v := .int ((σ 0).1 10)) (C := RX11) (T := TX11) (N := 15) hx hb hts hinX11 hown hK hP 0 (at_10 rfl) rfl 10 (by decide) (hts (.fieldLink RX11 67 "BondCalendars" "hasDesk" "Z") (by decide +kernel)) (fun _ h9 => h9) rfl dX11_mayGo_1 ?_
  refine lv_if_ne (tgt := 14) hx hb dX11_mayGo_4 (by decide) (fun c_1 => ?_) (fun c_1 => ?_)
  · refine lv_iload_n hx hb dX11_mayGo_14 rfl (lv_at hl 1 rfl) ?_
    refine lv_iconst (v := 1) hx hb dX11_mayGo_15 (by decide) ?_
    refine lv_icmp_lt (tgt := 44) hx hb dX11_mayGo_16 (by decide) (fun c_2 => ?_) (fun c_2 => ?_)
    · refine lv_aload_n hx hb dX11_mayGo_44 rfl (lv_at hl 0 rfl) ?_
      refine lv_iconst (v := 2) hx hb dX11_mayGo_45 (by decide) ?_
      refine va_put (D := (dC, dI)) (ci := 10) (v := .int 2) (C := RX11) (T := TX11) (N := 15) hx hb hts hinX11 tyX11 tyX11_ok nmX11 hown hK hP hD hS 0 (at_10 rfl) rfl 12 (by decide) (hts (.fieldLink RX11 74 "BondCalendars" "refusal" "I") (by decide +kernel)) (fun _ h9 => h9) rfl (ty := .int) (by decide +kernel) rfl rfl (Nat.le_of_ble_eq_true rfl) dX11_mayGo_46 (fun H locs hP hD hS => ?_)
      obtain ⟨σ1, eσ1, hP, hD⟩ := gPut (se_10_12 rfl) hP hD
      have hIσ1 : InvX σ1 := by rw [eσ1]; exact inv_I hI (ok_10_12 rfl _)
      have frσ1 : gFr [10] σ σ1 := by rw [eσ1]; exact gFr.pI (gFr.rfl (L := [10]) (σ := σ)) rfl (by decide)
      refine lv_iconst (v := 0) hx hb dX11_mayGo_49 (by decide) ?_
      refine W.endD hd0 ?_
      exact W.zret (v := 0) hx hb hr (by decide) (fun t ht hW => ⟨⟨0, σ1, rfl, ⟨hIσ1, frσ1, Or.inl rfl⟩, ⟨by rw [ht]; exact hP, hD⟩⟩, hS.F ht⟩) hS.2.2 dX11_mayGo_50
    · refine lv_iload_n hx hb dX11_mayGo_19 rfl (lv_at hl 1 rfl) ?_
      refine lv_sipush (v := 4000) hx hb dX11_mayGo_20 (by decide) ?_
      refine lv_icmp_gt (tgt := 44) hx hb dX11_mayGo_23 (by decide) (fun c_3 => ?_) (fun c_3 => ?_)
      · refine lv_aload_n hx hb dX11_mayGo_44 rfl (lv_at hl 0 rfl) ?_
        refine lv_iconst (v := 2) hx hb dX11_mayGo_45 (by decide) ?_
        refine va_put (D := (dC, dI)) (ci := 10) (v := .int 2) (C := RX11) (T := TX11) (N := 15) hx hb hts hinX11 tyX11 tyX11_ok nmX11 hown hK hP hD hS 0 (at_10 rfl) rfl 12 (by decide) (hts (.fieldLink RX11 74 "BondCalendars" "refusal" "I") (by decide +kernel)) (fun _ h9 => h9) rfl (ty := .int) (by decide +kernel) rfl rfl (Nat.le_of_ble_eq_true rfl) dX11_mayGo_46 (fun H locs hP hD hS => ?_)
        obtain ⟨σ2, eσ2, hP, hD⟩ := gPut (se_10_12 rfl) hP hD
        have hIσ2 : InvX σ2 := by rw [eσ2]; exact inv_I hI (ok_10_12 rfl _)
        have frσ2 : gFr [10] σ σ2 := by rw [eσ2]; exact gFr.pI (gFr.rfl (L := [10]) (σ := σ)) rfl (by decide)
        refine lv_iconst (v := 0) hx hb dX11_mayGo_49 (by decide) ?_
        refine W.endD hd0 ?_
        exact W.zret (v := 0) hx hb hr (by decide) (fun t ht hW => ⟨⟨0, σ2, rfl, ⟨hIσ2, frσ2, Or.inl rfl⟩, ⟨by rw [ht]; exact hP, hD⟩⟩, hS.F ht⟩) hS.2.2 dX11_mayGo_50
      · refine lv_aload_n hx hb dX11_mayGo_26 rfl (lv_at hl 0 rfl) ?_
        refine va_get (D := (dC, dI)) (ci := 10) (v := .ref (ad 12)) (C := RX11) (T := TX11) (N := 15) hx hb hts hinX11 hown hK hP 0 (at_10 rfl) rfl 5 (by decide) (hts (.fieldLink RX11 47 "BondCalendars" "book" "LBondCalendars$Book;") (by decide +kernel)) (fun _ h9 => h9) rfl dX11_mayGo_27 ?_
        refine va_get (D := (dC, dI)) (ci := 1) (v := .int ((σ 12).1 3)) (C := RX1) (T := TX1) (N := 4) hx hb hts hinX1 hown hK hP 12 (at_1 rfl) rfl 3 (by decide) (hts (.fieldLink RX11 342 "BondCalendars$Book" "today" "I") (by decide +kernel)) (fun _ h9 => h9) rfl dX11_mayGo_30 ?_
        refine lv_iload_n hx hb dX11_mayGo_33 rfl (lv_at hl 1 rfl) ?_
        refine lv_iadd hx hb dX11_mayGo_34 ?_
        refine lv_topi (fun x_4 ex_4 => ?_)
        refine lv_ldcw (v := 20791231) hx hb hown (hts (.constant RX11 391 (20791231)) (by decide +kernel)) dX11_mayGo_35 ?_
        have hF := gFree (w := []) (hx_D0 (A := A)) hS hA
        have hKe := hK.sub (tys' := []) [] rfl
        refine va_calli (va_runS (As := [.int 20791231]) (rest := [.int x_4]) ⟨hx, hb, hml, hown, hts⟩ (k_X3_dayOf l dC dI s.heap.size 20791231 ) (va_cwS 1 hts gX11_mayGo_X3_dayOf rfl rfl rfl (by decide +kernel) ⟨Nat.le_of_ble_eq_true rfl, Nat.le_of_ble_eq_true rfl⟩) ⟨fun a U g mk q => by obtain ⟨q0, q1, qP, qK, qD⟩ := q; exact ⟨q0, q1, qP, va_K.moved (u := U) (U := U.calling g mk a) (Vm.Alike.refl U.vm) qK, qD⟩, fun U hU hW => ⟨rfl, by rw [hU], hx_P0, va_K.moved hW.alike hKe, hx_D0⟩⟩ rfl rfl hl.1 rfl (lv_room (Nat.le_of_ble_eq_true rfl)) dX11_mayGo_38 ⟨Nat.le_of_ble_eq_true rfl, Nat.le_of_ble_eq_true rfl⟩) hS (fun q _ h => hF q h) hF (fun r_5 u t H locs ht hvm hw hB hz1 hk1 hS => ?_)
        have hP := gKeep hP hk1
        refine lv_icmp_le (tgt := 51) hx hb dX11_mayGo_41 (by decide) (fun c_6 => ?_) (fun c_6 => ?_)
        · refine lv_aload_n hx hb dX11_mayGo_51 rfl (lv_at hl 0 rfl) ?_
          refine lv_iconst (v := 0) hx hb dX11_mayGo_52 (by decide) ?_
          refine va_put (D := (dC, dI)) (ci := 10) (v := .int 0) (C := RX11) (T := TX11) (N := 15) hx hb hts hinX11 tyX11 tyX11_ok nmX11 hown hK hP hD hS 0 (at_10 rfl) rfl 12 (by decide) (hts (.fieldLink RX11 74 "BondCalendars" "refusal" "I") (by decide +kernel)) (fun _ h9 => h9) rfl (ty := .int) (by decide +kernel) rfl rfl (Nat.le_of_ble_eq_true rfl) dX11_mayGo_53 (fun H locs hP hD hS => ?_)
          obtain ⟨σ3, eσ3, hP, hD⟩ := gPut (se_10_12 rfl) hP hD
          have hIσ3 : InvX σ3 := by rw [eσ3]; exact inv_I hI (ok_10_12 rfl _)
          have frσ3 : gFr [10] σ σ3 := by rw [eσ3]; exact gFr.pI (gFr.rfl (L := [10]) (σ := σ)) rfl (by decide)
          refine lv_iconst (v := 1) hx hb dX11_mayGo_56 (by decide) ?_
          refine W.endD hd0 ?_
          exact W.zret (v := 1) hx hb hr (by decide) (fun t ht hW => ⟨⟨1, σ3, rfl, ⟨hIσ3, frσ3, Or.inr rfl⟩, ⟨by rw [ht]; exact hP, hD⟩⟩, hS.F ht⟩) hS.2.2 dX11_mayGo_57
        · refine lv_aload_n hx hb dX11_mayGo_44 rfl (lv_at hl 0 rfl) ?_
          refine lv_iconst (v := 2) hx hb dX11_mayGo_45 (by decide) ?_
          refine va_put (D := (dC, dI)) (ci := 10) (v := .int 2) (C := RX11) (T := TX11) (N := 15) hx hb hts hinX11 tyX11 tyX11_ok nmX11 hown hK hP hD hS 0 (at_10 rfl) rfl 12 (by decide) (hts (.fieldLink RX11 74 "BondCalendars" "refusal" "I") (by decide +kernel)) (fun _ h9 => h9) rfl (ty := .int) (by decide +kernel) rfl rfl (Nat.le_of_ble_eq_true rfl) dX11_mayGo_46 (fun H locs hP hD hS => ?_)
          obtain ⟨σ4, eσ4, hP, hD⟩ := gPut (se_10_12 rfl) hP hD
          have hIσ4 : InvX σ4 := by rw [eσ4]; exact inv_I hI (ok_10_12 rfl _)
          have frσ4 : gFr [10] σ σ4 := by rw [eσ4]; exact gFr.pI (gFr.rfl (L := [10]) (σ := σ)) rfl (by decide)
          refine lv_iconst (v := 0) hx hb dX11_mayGo_49 (by decide) ?_
          refine W.endD hd0 ?_
          exact W.zret (v := 0) hx hb hr (by decide) (fun t ht hW => ⟨⟨0, σ4, rfl, ⟨hIσ4, frσ4, Or.inl rfl⟩, ⟨by rw [ht]; exact hP, hD⟩⟩, hS.F ht⟩) hS.2.2 dX11_mayGo_50
  · refine lv_aload_n hx hb dX11_mayGo_7 rfl (lv_at hl 0 rfl) ?_
    refine lv_iconst (v := 1) hx hb dX11_mayGo_8 (by decide) ?_
    refine va_put (D := (dC, dI)) (ci := 10) (v := .int 1) (C := RX11) (T := TX11) (N := 15) hx hb hts hinX11 tyX11 tyX11_ok nmX11 hown hK hP hD hS 0 (at_10 rfl) rfl 12 (by decide) (hts (.fieldLink RX11 74 "BondCalendars" "refusal" "I") (by decide +kernel)) (fun _ h9 => h9) rfl (ty := .int) (by decide +kernel) rfl rfl (Nat.le_of_ble_eq_true rfl) dX11_mayGo_9 (fun H locs hP hD hS => ?_)
    obtain ⟨σ5, eσ5, hP, hD⟩ := gPut (se_10_12 rfl) hP hD
    have hIσ5 : InvX σ5 := by rw [eσ5]; exact inv_I hI (ok_10_12 rfl _)
    have frσ5 : gFr [10] σ σ5 := by rw [eσ5]; exact gFr.pI (gFr.rfl (L := [10]) (σ := σ)) rfl (by decide)
    refine lv_iconst (v := 0) hx hb dX11_mayGo_12 (by decide) ?_
    refine W.endD hd0 ?_
    exact W.zret (v := 0) hx hb hr (by decide) (fun t ht hW => ⟨⟨0, σ5, rfl, ⟨hIσ5, frσ5, Or.inl rfl⟩, ⟨by rw [ht]; exact hP, hD⟩⟩, hS.F ht⟩) hS.2.2 dX11_mayGo_13
set_option maxHeartbeats 8000000 in
set_option maxRecDepth 100000 in
theorem n_X11_nearestPoints (l : Launch) (dC : Nat → ClassId) (dI : Nat → Nat → Nat) (ad : Nat → Nat) (cA : Nat → ClassId) (adK adV : Nat → Nat) (sz : Nat) (σ : gs) (hI : InvX σ)  : MetD lw_cs l yX11_nearestPoints wsX11_nearestPoints ({ frames := 3, cells := 0, slots := 0, locals := 81 }) (va_Pc [.ref (ad 0)] (gPre adK adV (dC, dI) (wX ad cA σ) (tX cA) sz)) (va_Qi (fun (r : Int32) (τ : gs) => InvX τ ∧ σ = τ ∧ (True)) (fun τ t => gPost (dC, dI) (va_A (wX ad cA σ) sz) (wX ad cA τ) t) (va_A (wX ad cA σ) sz)) 0 0 (va_A (wX ad cA σ) sz) := by
  refine MetD.ofW (cc := cX11_nearestPoints) (maxL := 7) (ret := (some .int)) (by decide) rfl ?_
  intro p e s m args below meth c s₁ B hml hv hd0
  obtain ⟨rfl, hsz, hP, hK, hD0, hT⟩ := hv
  have hx := B.exec
  have hb := B.bytes
  have hr := B.returns
  have hts0 := atoms_spec (ws := wsX11_nearestPoints) B.pre
  have hK0 := hK
  have hown0 : s.vm.findClass RX11 = some m.cls := findClass_of_methodNamed B.named
  have hlocks := B.notSynchronized
  have hinX11 : ∀ w ∈ u_ws RX11 TX11 15, w ∈ wsX11_nearestPoints := (fun _ h9 => List.mem_cons_of_mem _ (List.mem_append_left _ (List.mem_append_left _ (List.mem_append_left _ (List.mem_append_right _ h9)))))
  subst hsz
  have hD := hD0.self (sz := s.heap.size)
  generalize hAe : va_A (wX ad cA σ) s.heap.size = A at hD hT ⊢
  have hA : ∀ q : Nat, s.heap.size ≤ q → A q := fun q h => by rw [← hAe]; exact Or.inr h
  have hS : va_S A s.heap s.heap [] := va_S.rf
  have hl := lv_entry ([.ref (ad 0)]) (n := 7) (Nat.le_of_ble_eq_true rfl)
  rw [lg_entry_eq]
  generalize (lg_sl ([.ref (ad 0)]) ++ List.replicate (7 - (lg_sl ([.ref (ad 0)])).length) Slot.unset).toArray = ls at hl ⊢
  have hl : lv_has ls 7 [(0, .ref (ad 0))] := hl
  have hts := dr_words hts0 (s.drawn)
  have hK := gKd hK0 (s.drawn)
  have hown : (s.setDrawn (s.drawn)).vm.findClass RX11 = some m.cls := hown0
  refine lv_iconst (v := 0) hx hb dX11_nearestPoints_0 (by decide) ?_
  refine lv_istore_n (lv' := [(1, .int 0), (0, .ref (ad 0))]) hx hb dX11_nearestPoints_1 rfl hl (by decide) rfl (fun ls hl => ?_)
  refine lv_aload_n hx hb dX11_nearestPoints_2 rfl (lv_at hl 1 rfl) ?_
  obtain ⟨b_1, hb_2, q_3⟩ := rq_10_8 (c := 0) hI rfl
  refine va_get (D := (dC, dI)) (ci := 10) (v := .ref (ad b_1)) (C := RX11) (T := TX11) (N := 15) hx hb hts hinX11 hown hK hP 0 (at_10 rfl) rfl 8 (by decide) (hts (.fieldLink RX11 60 "BondCalendars" "live" "LBondCalendars$Desk;") (by decide +kernel)) (fun _ h9 => h9) (by show some (va_re ad ((σ 0).2.2.2 8)) = _; rw [q_3]; rfl) dX11_nearestPoints_3 ?_
  refine lv_iconst (v := 0) hx hb dX11_nearestPoints_6 (by decide) ?_
  have hF := gFree hD hS hA
  refine va_calldD hd0 (va_runS_D (As := [.int 0]) (rest := [.ref (ad b_1)]) ⟨hx, hb, hml, hown, hts⟩ (n_X11_yieldOf l dC dI ad cA adK adV s.heap.size σ hI 0) (va_cwS 1 hts gX11_nearestPoints_X11_yieldOf rfl rfl rfl (by decide +kernel) ⟨Nat.le_of_ble_eq_true rfl, Nat.le_of_ble_eq_true rfl⟩) ⟨gBlind, gStart (As := [.int 0]) hP hD hK0 hT hS hF (s.drawn)⟩ rfl rfl hl.1 rfl (lv_room (Nat.le_of_ble_eq_true rfl)) dX11_nearestPoints_7 ⟨Nat.le_of_ble_eq_true rfl, Nat.le_of_ble_eq_true rfl⟩) hS (fun q _ h => hF q h) hF (fun r_4 σ1 t H locs ht hvm hw hB hz1 hk1 hS d_5 hd0 => ?_)
  have hts := dr_words hts0 (d_5)
  have hK := gKd hK0 (d_5)
  have hown : (s.setDrawn (d_5)).vm.findClass RX11 = some m.cls := hown0
  obtain ⟨hP, hD⟩ := gBack hF ht hB
  obtain ⟨hIσ1, hro, hp_6⟩ := hw
  subst hro
  have hF := gFree hD hS hA
  refine va_calldD hd0 (va_runV_D (As := [.double r_4]) (rest := []) ⟨hx, hb, hml, hown, hts⟩ (n_X4_distanceAt l dC dI ad cA adK adV H.size σ hI b_1 hb_2 r_4) (cwV 1 hts gX11_nearestPoints_X4_distanceAt rfl rfl rfl (by decide +kernel) ⟨Nat.le_of_ble_eq_true rfl, Nat.le_of_ble_eq_true rfl⟩) ⟨gBlind, va_recv hK hP (ci := 3) (q0 := b_1) rfl (at_3 hb_2), gStart (As := [.ref (ad b_1), .double r_4]) hP hD hK0 hT hS hF (d_5)⟩ rfl rfl hl.1 rfl (lv_room (Nat.le_of_ble_eq_true rfl)) dX11_nearestPoints_10 ⟨Nat.le_of_ble_eq_true rfl, Nat.le_of_ble_eq_true rfl⟩) hS (fun q _ h => hF q h) hF (fun r_7 σ2 t H locs ht hvm hw hB hz1 hk1 hS d_8 hd0 => ?_)
  have hts := dr_words hts0 (d_8)
  have hK := gKd hK0 (d_8)
  have hown : (s.setDrawn (d_8)).vm.findClass RX11 = some m.cls := hown0
  obtain ⟨hP, hD⟩ := gBack hF ht hB
  obtain ⟨hIσ2, hro, hp_9⟩ := hw
  subst hro
  refine lv_dstore_n (lv' := [(2, .double r_7), (1, .int 0), (0, .ref (ad 0))]) hx hb dX11_nearestPoints_13 rfl hl (by decide) rfl (fun ls hl => ?_)
  refine lv_iconst (v := 1) hx hb dX11_nearestPoints_14 (by decide) ?_
  refine lv_istore (lv' := [(4, .int 1), (2, .double r_7), (1, .int 0), (0, .ref (ad 0))]) hx hb dX11_nearestPoints_15 hl (by decide) rfl (fun ls hl => ?_)
  refine (fun (h : ∀ (n : Nat) (i4 : Int32) (bs : Int32) (lt : UInt64) (d17 : Drawn) (H : Heap) (locs : List Loc) (ls : Array Slot), ((2001 : Int32).toInt - i4.toInt).toNat < n → 0 ≤ i4 → s.drawn.sameBut d17 lw_cs → va_P (dC, dI) vwCl (wX ad cA σ) H → va_D A (wX ad cA σ) → va_S A s.heap H locs → lv_has ls 7 [(4, .int i4), (2, .double lt), (1, .int bs), (0, .ref (ad 0))] → W p l e _ (s.setDrawn d17) m _ below meth c H locs _ _ _ (F0 m 17 ls [])) => h _ 1 0 r_7 _ _ _ _ (Nat.lt_succ_self _) (by decide) hd0 hP hD hS (lv_sub hl [0, 1, 2, 3] rfl)) ?_
  intro n17
  induction n17 with
  | zero => intro i4 bs lt  d17 H locs ls hm; exact absurd hm (Nat.not_lt_zero _)
  | succ n17 ih17 =>
    intro i4 bs lt  d17 H locs ls hm17 iv17_0  hd0 hP hD hS hl
    have hts := dr_words hts0 (d17)
    have hK := gKd hK0 (d17)
    have hown : (s.setDrawn (d17)).vm.findClass RX11 = some m.cls := hown0
    refine lv_iload hx hb dX11_nearestPoints_17 (lv_at hl 0 rfl) ?_
    refine lv_sipush (v := 2000) hx hb dX11_nearestPoints_19 (by decide) ?_
    refine lv_icmp_gt (tgt := 58) hx hb dX11_nearestPoints_22 (by decide) (fun c_10 => ?_) (fun c_10 => ?_)
    · refine lv_iload_n hx hb dX11_nearestPoints_58 rfl (lv_at hl 2 rfl) ?_
      refine W.endD hd0 ?_
      exact W.iret (v := bs) hx hb hr (fun t ht hW => ⟨⟨bs, σ, rfl, ⟨hI, rfl, trivial⟩, ⟨by rw [ht]; exact hP, hD⟩⟩, hS.F ht⟩) hS.2.2 dX11_nearestPoints_59
    · refine lv_aload_n hx hb dX11_nearestPoints_25 rfl (lv_at hl 3 rfl) ?_
      refine va_get (D := (dC, dI)) (ci := 10) (v := .ref (ad b_1)) (C := RX11) (T := TX11) (N := 15) hx hb hts hinX11 hown hK hP 0 (at_10 rfl) rfl 8 (by decide) (hts (.fieldLink RX11 60 "BondCalendars" "live" "LBondCalendars$Desk;") (by decide +kernel)) (fun _ h9 => h9) (by show some (va_re ad ((σ 0).2.2.2 8)) = _; rw [q_3]; rfl) dX11_nearestPoints_26 ?_
      refine lv_iload hx hb dX11_nearestPoints_29 (lv_at hl 0 rfl) ?_
      have hF := gFree hD hS hA
      refine va_calldD hd0 (va_runS_D (As := [.int i4]) (rest := [.ref (ad b_1)]) ⟨hx, hb, hml, hown, hts⟩ (n_X11_yieldOf l dC dI ad cA adK adV H.size σ hI i4) (va_cwS 1 hts gX11_nearestPoints_X11_yieldOf rfl rfl rfl (by decide +kernel) ⟨Nat.le_of_ble_eq_true rfl, Nat.le_of_ble_eq_true rfl⟩) ⟨gBlind, gStart (As := [.int i4]) hP hD hK0 hT hS hF (d17)⟩ rfl rfl hl.1 rfl (lv_room (Nat.le_of_ble_eq_true rfl)) dX11_nearestPoints_31 ⟨Nat.le_of_ble_eq_true rfl, Nat.le_of_ble_eq_true rfl⟩) hS (fun q _ h => hF q h) hF (fun r_11 σ3 t H locs ht hvm hw hB hz1 hk1 hS d_12 hd0 => ?_)
      have hts := dr_words hts0 (d_12)
      have hK := gKd hK0 (d_12)
      have hown : (s.setDrawn (d_12)).vm.findClass RX11 = some m.cls := hown0
      obtain ⟨hP, hD⟩ := gBack hF ht hB
      obtain ⟨hIσ3, hro, hp_13⟩ := hw
      subst hro
      have hF := gFree hD hS hA
      refine va_calldD hd0 (va_runV_D (As := [.double r_11]) (rest := []) ⟨hx, hb, hml, hown, hts⟩ (n_X4_distanceAt l dC dI ad cA adK adV H.size σ hI b_1 hb_2 r_11) (cwV 1 hts gX11_nearestPoints_X4_distanceAt rfl rfl rfl (by decide +kernel) ⟨Nat.le_of_ble_eq_true rfl, Nat.le_of_ble_eq_true rfl⟩) ⟨gBlind, va_recv hK hP (ci := 3) (q0 := b_1) rfl (at_3 hb_2), gStart (As := [.ref (ad b_1), .double r_11]) hP hD hK0 hT hS hF (d_12)⟩ rfl rfl hl.1 rfl (lv_room (Nat.le_of_ble_eq_true rfl)) dX11_nearestPoints_34 ⟨Nat.le_of_ble_eq_true rfl, Nat.le_of_ble_eq_true rfl⟩) hS (fun q _ h => hF q h) hF (fun r_14 σ4 t H locs ht hvm hw hB hz1 hk1 hS d_15 hd0 => ?_)
      have hts := dr_words hts0 (d_15)
      have hK := gKd hK0 (d_15)
      have hown : (s.setDrawn (d_15)).vm.findClass RX11 = some m.cls := hown0
      obtain ⟨hP, hD⟩ := gBack hF ht hB
      obtain ⟨hIσ4, hro, hp_16⟩ := hw
      subst hro
      refine lv_dstore (lv' := [(5, .double r_14), (4, .int i4), (2, .double lt), (1, .int bs), (0, .ref (ad 0))]) hx hb dX11_nearestPoints_37 hl (by decide) rfl (fun ls hl => ?_)
      refine lv_dload hx hb dX11_nearestPoints_39 (lv_at hl 0 rfl) ?_
      refine lv_dload_n hx hb dX11_nearestPoints_41 rfl (lv_at hl 2 rfl) ?_
      refine lv_dcmp hx hb dX11_nearestPoints_42 ?_
      refine lv_topi (fun x_17 _ => ?_)
      refine lv_if_ge (tgt := 52) hx hb dX11_nearestPoints_43 (by decide) (fun c_18 => ?_) (fun c_18 => ?_)
      · obtain ⟨x_19, ex_19⟩ : ∃ zz : Int32, zz = i4 + 1 := ⟨_, rfl⟩
        refine lv_iinc (v := x_19) (lv' := [(4, .int x_19), (5, .double r_14), (2, .double lt), (1, .int bs), (0, .ref (ad 0))]) hx hb dX11_nearestPoints_52 hl (k := 1) rfl (by rw [ex_19]; rfl) (by decide) rfl (fun ls hl => ?_)
        refine lv_goto (tgt := 17) hx hb dX11_nearestPoints_55 (by decide) ?_
        exact ih17 x_19 bs lt _ _ _ _ (cnt_m iv17_0 (Int32.lt_of_le_of_lt (Int32.not_lt.mp c_10) (show (2000 : Int32) < 2001 by decide)) hm17 ex_19) (cnt_0 iv17_0 (Int32.lt_of_le_of_lt (Int32.not_lt.mp c_10) (show (2000 : Int32) < 2001 by decide)) ex_19) hd0 hP hD hS (lv_sub hl [0, 2, 3, 4] rfl)
      · refine lv_dload hx hb dX11_nearestPoints_46 (lv_at hl 0 rfl) ?_
        refine lv_dstore_n (lv' := [(2, .double r_14), (5, .double r_14), (4, .int i4), (1, .int bs), (0, .ref (ad 0))]) hx hb dX11_nearestPoints_48 rfl hl (by decide) rfl (fun ls hl => ?_)
        refine lv_iload hx hb dX11_nearestPoints_49 (lv_at hl 2 rfl) ?_
        refine lv_istore_n (lv' := [(1, .int i4), (2, .double r_14), (5, .double r_14), (4, .int i4), (0, .ref (ad 0))]) hx hb dX11_nearestPoints_51 rfl hl (by decide) rfl (fun ls hl => ?_)
        obtain ⟨x_20, ex_20⟩ : ∃ zz : Int32, zz = i4 + 1 := ⟨_, rfl⟩
        refine lv_iinc (v := x_20) (lv' := [(4, .int x_20), (1, .int i4), (2, .double r_14), (5, .double r_14), (0, .ref (ad 0))]) hx hb dX11_nearestPoints_52 hl (k := 3) rfl (by rw [ex_20]; rfl) (by decide) rfl (fun ls hl => ?_)
        refine lv_goto (tgt := 17) hx hb dX11_nearestPoints_55 (by decide) ?_
        exact ih17 x_20 i4 r_14 _ _ _ _ (cnt_m iv17_0 (Int32.lt_of_le_of_lt (Int32.not_lt.mp c_10) (show (2000 : Int32) < 2001 by decide)) hm17 ex_20) (cnt_0 iv17_0 (Int32.lt_of_le_of_lt (Int32.not_lt.mp c_10) (show (2000 : Int32) < 2001 by decide)) ex_20) hd0 hP hD hS (lv_sub hl [0, 2, 1, 4] rfl)
set_option maxHeartbeats 8000000 in
set_option maxRecDepth 100000 in
theorem n_X11_writeLine (l : Launch) (dC : Nat → ClassId) (dI : Nat → Nat → Nat) (ad : Nat → Nat) (cA : Nat → ClassId) (adK adV : Nat → Nat) (sz : Nat) (σ : gs) (hI : InvX σ) (a0 : Nat) (ha0 : kX a0 = 0) (p1 : Int32) (hh0 : 0 ≤ p1) (hh1 : p1 < 81) : MetD lw_cs l yX11_writeLine wsX11_writeLine ({ frames := 5, cells := 0, slots := 0, locals := 131 }) (va_Pc [.ref (ad 0), .ref (ad a0), .int p1] (gPre adK adV (dC, dI) (wX ad cA σ) (tX cA) sz)) (va_Qv (fun (τ : gs) => InvX τ ∧ gFr [5, 8, 21] σ τ ∧ (True)) (fun τ t => gPost (dC, dI) (va_A (wX ad cA σ) sz) (wX ad cA τ) t) (va_A (wX ad cA σ) sz)) 0 0 (va_A (wX ad cA σ) sz) := by
  refine MetD.ofW (cc := cX11_writeLine) (maxL := 4) (ret := none) (by decide) rfl ?_
  intro p e s m args below meth c s₁ B hml hv hd0
  obtain ⟨rfl, hsz, hP, hK, hD0, hT⟩ := hv
  have hx := B.exec
  have hb := B.bytes
  have hr := B.returns
  have hts0 := atoms_spec (ws := wsX11_writeLine) B.pre
  have hK0 := hK
  have hown0 : s.vm.findClass RX11 = some m.cls := findClass_of_methodNamed B.named
  have hlocks := B.notSynchronized
  have hinX11 : ∀ w ∈ u_ws RX11 TX11 15, w ∈ wsX11_writeLine := (fun _ h9 => List.mem_cons_of_mem _ (List.mem_append_left _ (List.mem_append_left _ (List.mem_append_left _ (List.mem_append_right _ h9)))))
  have hinX0 : ∀ w ∈ u_ws RX0 TX0 16, w ∈ wsX11_writeLine := (fun _ h9 => List.mem_cons_of_mem _ (List.mem_append_left _ (List.mem_append_left _ (List.mem_append_right _ h9))))
  have hinX9 : ∀ w ∈ u_ws RX9 TX9 2, w ∈ wsX11_writeLine := (fun _ h9 => List.mem_cons_of_mem _ (List.mem_append_left _ (List.mem_append_right _ h9)))
  have hinX6 : ∀ w ∈ u_ws RX6 TX6 2, w ∈ wsX11_writeLine := (fun _ h9 => List.mem_cons_of_mem _ (List.mem_append_right _ h9))
  subst hsz
  have hD := hD0.self (sz := s.heap.size)
  generalize hAe : va_A (wX ad cA σ) s.heap.size = A at hD hT ⊢
  have hA : ∀ q : Nat, s.heap.size ≤ q → A q := fun q h => by rw [← hAe]; exact Or.inr h
  have hS : va_S A s.heap s.heap [] := va_S.rf
  have hl := lv_entry ([.ref (ad 0), .ref (ad a0), .int p1]) (n := 4) (Nat.le_of_ble_eq_true rfl)
  rw [lg_entry_eq]
  generalize (lg_sl ([.ref (ad 0), .ref (ad a0), .int p1]) ++ List.replicate (4 - (lg_sl ([.ref (ad 0), .ref (ad a0), .int p1])).length) Slot.unset).toArray = ls at hl ⊢
  have hl : lv_has ls 4 [(0, .ref (ad 0)), (1, .ref (ad a0)), (2, .int p1)] := hl
  have hts := dr_words hts0 (s.drawn)
  have hK := gKd hK0 (s.drawn)
  have hown : (s.setDrawn (s.drawn)).vm.findClass RX11 = some m.cls := hown0
  refine lv_aload_n hx hb dX11_writeLine_0 rfl (lv_at hl 1 rfl) ?_
  refine lv_iload_n hx hb dX11_writeLine_1 rfl (lv_at hl 2 rfl) ?_
  refine lv_aload_n hx hb dX11_writeLine_2 rfl (lv_at hl 0 rfl) ?_
  refine va_get (D := (dC, dI)) (ci := 10) (v := .ref (ad 9)) (C := RX11) (T := TX11) (N := 15) hx hb hts hinX11 hown hK hP 0 (at_10 rfl) rfl 3 (by decide) (hts (.fieldLink RX11 33 "BondCalendars" "ratio" "LBondCalendars$Ratio;") (by decide +kernel)) (fun _ h9 => h9) rfl dX11_writeLine_3 ?_
  have hF := gFree hD hS hA
  refine va_callvD hd0 (va_runV_D (As := [.int p1, .ref (ad 9)]) (rest := []) ⟨hx, hb, hml, hown, hts⟩ (n_X0_measureCoupon l dC dI ad cA adK adV s.heap.size σ hI a0 ha0 p1 9 rfl) (cwV 2 hts gX11_writeLine_X0_measureCoupon rfl rfl rfl (by decide +kernel) ⟨Nat.le_of_ble_eq_true rfl, Nat.le_of_ble_eq_true rfl⟩) ⟨gBlind, va_recv hK hP (ci := 0) (q0 := a0) rfl (at_0 ha0), gStart (As := [.ref (ad a0), .int p1, .ref (ad 9)]) hP hD hK0 hT hS hF (s.drawn)⟩ rfl rfl hl.1 rfl (lv_room (Nat.le_of_ble_eq_true rfl)) dX11_writeLine_6 ⟨Nat.le_of_ble_eq_true rfl, Nat.le_of_ble_eq_true rfl⟩) hS (fun q _ h => hF q h) hF (fun σ1 t H locs ht hvm hw hB hz1 hk1 hS d_2 hd0 => ?_)
  have hts := dr_words hts0 (d_2)
  have hK := gKd hK0 (d_2)
  have hown : (s.setDrawn (d_2)).vm.findClass RX11 = some m.cls := hown0
  obtain ⟨hP, hD⟩ := gBack hF ht hB
  obtain ⟨hIσ1, fcσ1, hp_3⟩ := hw
  refine lv_aload_n hx hb dX11_writeLine_9 rfl (lv_at hl 1 rfl) ?_
  refine va_get (D := (dC, dI)) (ci := 0) (v := .ref (ad (a0 + 2))) (C := RX0) (T := TX0) (N := 16) hx hb hts hinX0 hown hK hP a0 (at_0 ha0) rfl 11 (by decide) (hts (.fieldLink RX11 213 "BondCalendars$Bond" "endDays" "[I") (by decide +kernel)) (fun _ h9 => h9) rfl dX11_writeLine_10 ?_
  refine lv_iload_n hx hb dX11_writeLine_13 rfl (lv_at hl 2 rfl) ?_
  refine va_iald hx hb hK hP ((a0 + 2)) ((a0 + 2)) (at_24 (kk_0_2 ha0)) (ty_24 (kk_0_2 ha0)) (gin (N := 81) (by decide) hh0 hh1) dX11_writeLine_14 ?_
  refine lv_topi (fun x_4 _ => ?_)
  have hF := gFree (w := []) (hx_D0 (A := A)) hS hA
  have hKe := hK.sub (tys' := []) [] rfl
  refine va_calli (va_runS (As := [.int x_4]) (rest := []) ⟨hx, hb, hml, hown, hts⟩ (k_X3_numberOf l dC dI H.size x_4 ) (va_cwS 1 hts gX11_writeLine_X3_numberOf rfl rfl rfl (by decide +kernel) ⟨Nat.le_of_ble_eq_true rfl, Nat.le_of_ble_eq_true rfl⟩) ⟨fun a U g mk q => by obtain ⟨q0, q1, qP, qK, qD⟩ := q; exact ⟨q0, q1, qP, va_K.moved (u := U) (U := U.calling g mk a) (Vm.Alike.refl U.vm) qK, qD⟩, fun U hU hW => ⟨rfl, by rw [hU], hx_P0, va_K.moved hW.alike hKe, hx_D0⟩⟩ rfl rfl hl.1 rfl (lv_room (Nat.le_of_ble_eq_true rfl)) dX11_writeLine_15 ⟨Nat.le_of_ble_eq_true rfl, Nat.le_of_ble_eq_true rfl⟩) hS (fun q _ h => hF q h) hF (fun r_5 u t H locs ht hvm hw hB hz1 hk1 hS => ?_)
  have hP := gKeep hP hk1
  refine lv_istore_n (lv' := [(3, .int r_5), (0, .ref (ad 0)), (1, .ref (ad a0)), (2, .int p1)]) hx hb dX11_writeLine_18 rfl hl (by decide) rfl (fun ls hl => ?_)
  refine lv_aload_n hx hb dX11_writeLine_19 rfl (lv_at hl 1 rfl) ?_
  refine va_get (D := (dC, dI)) (ci := 10) (v := .ref (ad 10)) (C := RX11) (T := TX11) (N := 15) hx hb hts hinX11 hown hK hP 0 (at_10 rfl) rfl 4 (by decide) (hts (.fieldLink RX11 40 "BondCalendars" "sheet" "LBondCalendars$Sheet;") (by decide +kernel)) (fun _ h9 => h9) rfl dX11_writeLine_20 ?_
  refine lv_iconst (v := 0) hx hb dX11_writeLine_23 (by decide) ?_
  refine va_put (D := (dC, dI)) (ci := 8) (v := .int 0) (C := RX9) (T := TX9) (N := 2) hx hb hts hinX9 tyX9 tyX9_ok nmX9 hown hK hP hD hS 10 (at_8 rfl) rfl 1 (by decide) (hts (.fieldLink RX11 239 "BondCalendars$Sheet" "length" "I") (by decide +kernel)) (fun _ h9 => h9) rfl (ty := .int) (by decide +kernel) rfl rfl (Nat.le_of_ble_eq_true rfl) dX11_writeLine_24 (fun H locs hP hD hS => ?_)
  obtain ⟨σ2, eσ2, hP, hD⟩ := gPut (se_8_1 rfl) hP hD
  have hIσ2 : InvX σ2 := by rw [eσ2]; exact inv_I hIσ1 (ok_8_1 rfl _ ⟨(show (0 : Int32) ≤ 0 by decide), (show (0 : Int32) ≤ 64 by decide)⟩)
  have frσ2 : gFr [5, 8, 21] σ σ2 := by rw [eσ2]; exact gFr.pI (gFr.tr (gFr.rfl (L := [5, 8, 21]) (σ := σ)) fcσ1 (by decide)) rfl (by decide)
  refine lv_aload_n hx hb dX11_writeLine_27 rfl (lv_at hl 1 rfl) ?_
  refine va_get (D := (dC, dI)) (ci := 10) (v := .ref (ad 10)) (C := RX11) (T := TX11) (N := 15) hx hb hts hinX11 hown hK hP 0 (at_10 rfl) rfl 4 (by decide) (hts (.fieldLink RX11 40 "BondCalendars" "sheet" "LBondCalendars$Sheet;") (by decide +kernel)) (fun _ h9 => h9) rfl dX11_writeLine_28 ?_
  refine lv_iload_n hx hb dX11_writeLine_31 rfl (lv_at hl 0 rfl) ?_
  refine lv_sipush (v := 10000) hx hb dX11_writeLine_32 (by decide) ?_
  refine lv_idiv hx hb dX11_writeLine_35 (by decide) ?_
  refine lv_topi (fun x_6 ex_6 => ?_)
  refine lv_i2l hx hb dX11_writeLine_36 rfl ?_
  refine lv_iconst (v := 4) hx hb dX11_writeLine_37 (by decide) ?_
  have hF := gFree hD hS hA
  refine va_callvD hd0 (va_runV_D (As := [.long (x_6.toInt64), .int 4]) (rest := []) ⟨hx, hb, hml, hown, hts⟩ (n_X9_putNumber l dC dI ad cA adK adV H.size σ2 hIσ2 (x_6.toInt64) 4) (cwV 2 hts gX11_writeLine_X9_putNumber rfl rfl rfl (by decide +kernel) ⟨Nat.le_of_ble_eq_true rfl, Nat.le_of_ble_eq_true rfl⟩) ⟨gBlind, va_recv hK hP (ci := 8) (q0 := 10) rfl (at_8 rfl), gStart (As := [.ref (ad 10), .long (x_6.toInt64), .int 4]) hP hD hK0 hT hS hF (d_2)⟩ rfl rfl hl.1 rfl (lv_room (Nat.le_of_ble_eq_true rfl)) dX11_writeLine_38 ⟨Nat.le_of_ble_eq_true rfl, Nat.le_of_ble_eq_true rfl⟩) hS (fun q _ h => hF q h) hF (fun σ3 t H locs ht hvm hw hB hz1 hk1 hS d_8 hd0 => ?_)
  have hts := dr_words hts0 (d_8)
  have hK := gKd hK0 (d_8)
  have hown : (s.setDrawn (d_8)).vm.findClass RX11 = some m.cls := hown0
  obtain ⟨hP, hD⟩ := gBack hF ht hB
  obtain ⟨hIσ3, fcσ3, hp_9⟩ := hw
  refine lv_aload_n hx hb dX11_writeLine_41 rfl (lv_at hl 1 rfl) ?_
  refine va_get (D := (dC, dI)) (ci := 10) (v := .ref (ad 10)) (C := RX11) (T := TX11) (N := 15) hx hb hts hinX11 hown hK hP 0 (at_10 rfl) rfl 4 (by decide) (hts (.fieldLink RX11 40 "BondCalendars" "sheet" "LBondCalendars$Sheet;") (by decide +kernel)) (fun _ h9 => h9) rfl dX11_writeLine_42 ?_
  refine lv_bipush (v := 45) hx hb dX11_writeLine_45 (by decide) ?_
  have hF := gFree hD hS hA
  refine va_callvD hd0 (va_runV_D (As := [.int 45]) (rest := []) ⟨hx, hb, hml, hown, hts⟩ (n_X9_putSign l dC dI ad cA adK adV H.size σ3 hIσ3 45) (cwV 1 hts gX11_writeLine_X9_putSign rfl rfl rfl (by decide +kernel) ⟨Nat.le_of_ble_eq_true rfl, Nat.le_of_ble_eq_true rfl⟩) ⟨gBlind, va_recv hK hP (ci := 8) (q0 := 10) rfl (at_8 rfl), gStart (As := [.ref (ad 10), .int 45]) hP hD hK0 hT hS hF (d_8)⟩ rfl rfl hl.1 rfl (lv_room (Nat.le_of_ble_eq_true rfl)) dX11_writeLine_47 ⟨Nat.le_of_ble_eq_true rfl, Nat.le_of_ble_eq_true rfl⟩) hS (fun q _ h => hF q h) hF (fun σ4 t H locs ht hvm hw hB hz1 hk1 hS d_11 hd0 => ?_)
  have hts := dr_words hts0 (d_11)
  have hK := gKd hK0 (d_11)
  have hown : (s.setDrawn (d_11)).vm.findClass RX11 = some m.cls := hown0
  obtain ⟨hP, hD⟩ := gBack hF ht hB
  obtain ⟨hIσ4, fcσ4, hp_12⟩ := hw
  refine lv_aload_n hx hb dX11_writeLine_50 rfl (lv_at hl 1 rfl) ?_
  refine va_get (D := (dC, dI)) (ci := 10) (v := .ref (ad 10)) (C := RX11) (T := TX11) (N := 15) hx hb hts hinX11 hown hK hP 0 (at_10 rfl) rfl 4 (by decide) (hts (.fieldLink RX11 40 "BondCalendars" "sheet" "LBondCalendars$Sheet;") (by decide +kernel)) (fun _ h9 => h9) rfl dX11_writeLine_51 ?_
  refine lv_iload_n hx hb dX11_writeLine_54 rfl (lv_at hl 0 rfl) ?_
  refine lv_bipush (v := 100) hx hb dX11_writeLine_55 (by decide) ?_
  refine lv_idiv hx hb dX11_writeLine_57 (by decide) ?_
  refine lv_topi (fun x_13 ex_13 => ?_)
  refine lv_bipush (v := 100) hx hb dX11_writeLine_58 (by decide) ?_
  refine lv_irem hx hb dX11_writeLine_60 (by decide) ?_
  refine lv_topi (fun x_14 ex_14 => ?_)
  refine lv_i2l hx hb dX11_writeLine_61 rfl ?_
  refine lv_iconst (v := 2) hx hb dX11_writeLine_62 (by decide) ?_
  have hF := gFree hD hS hA
  refine va_callvD hd0 (va_runV_D (As := [.long (x_14.toInt64), .int 2]) (rest := []) ⟨hx, hb, hml, hown, hts⟩ (n_X9_putNumber l dC dI ad cA adK adV H.size σ4 hIσ4 (x_14.toInt64) 2) (cwV 2 hts gX11_writeLine_X9_putNumber rfl rfl rfl (by decide +kernel) ⟨Nat.le_of_ble_eq_true rfl, Nat.le_of_ble_eq_true rfl⟩) ⟨gBlind, va_recv hK hP (ci := 8) (q0 := 10) rfl (at_8 rfl), gStart (As := [.ref (ad 10), .long (x_14.toInt64), .int 2]) hP hD hK0 hT hS hF (d_11)⟩ rfl rfl hl.1 rfl (lv_room (Nat.le_of_ble_eq_true rfl)) dX11_writeLine_63 ⟨Nat.le_of_ble_eq_true rfl, Nat.le_of_ble_eq_true rfl⟩) hS (fun q _ h => hF q h) hF (fun σ5 t H locs ht hvm hw hB hz1 hk1 hS d_16 hd0 => ?_)
  have hts := dr_words hts0 (d_16)
  have hK := gKd hK0 (d_16)
  have hown : (s.setDrawn (d_16)).vm.findClass RX11 = some m.cls := hown0
  obtain ⟨hP, hD⟩ := gBack hF ht hB
  obtain ⟨hIσ5, fcσ5, hp_17⟩ := hw
  refine lv_aload_n hx hb dX11_writeLine_66 rfl (lv_at hl 1 rfl) ?_
  refine va_get (D := (dC, dI)) (ci := 10) (v := .ref (ad 10)) (C := RX11) (T := TX11) (N := 15) hx hb hts hinX11 hown hK hP 0 (at_10 rfl) rfl 4 (by decide) (hts (.fieldLink RX11 40 "BondCalendars" "sheet" "LBondCalendars$Sheet;") (by decide +kernel)) (fun _ h9 => h9) rfl dX11_writeLine_67 ?_
  refine lv_bipush (v := 45) hx hb dX11_writeLine_70 (by decide) ?_
  have hF := gFree hD hS hA
  refine va_callvD hd0 (va_runV_D (As := [.int 45]) (rest := []) ⟨hx, hb, hml, hown, hts⟩ (n_X9_putSign l dC dI ad cA adK adV H.size σ5 hIσ5 45) (cwV 1 hts gX11_writeLine_X9_putSign rfl rfl rfl (by decide +kernel) ⟨Nat.le_of_ble_eq_true rfl, Nat.le_of_ble_eq_true rfl⟩) ⟨gBlind, va_recv hK hP (ci := 8) (q0 := 10) rfl (at_8 rfl), gStart (As := [.ref (ad 10), .int 45]) hP hD hK0 hT hS hF (d_16)⟩ rfl rfl hl.1 rfl (lv_room (Nat.le_of_ble_eq_true rfl)) dX11_writeLine_72 ⟨Nat.le_of_ble_eq_true rfl, Nat.le_of_ble_eq_true rfl⟩) hS (fun q _ h => hF q h) hF (fun σ6 t H locs ht hvm hw hB hz1 hk1 hS d_19 hd0 => ?_)
  have hts := dr_words hts0 (d_19)
  have hK := gKd hK0 (d_19)
  have hown : (s.setDrawn (d_19)).vm.findClass RX11 = some m.cls := hown0
  obtain ⟨hP, hD⟩ := gBack hF ht hB
  obtain ⟨hIσ6, fcσ6, hp_20⟩ := hw
  refine lv_aload_n hx hb dX11_writeLine_75 rfl (lv_at hl 1 rfl) ?_
  refine va_get (D := (dC, dI)) (ci := 10) (v := .ref (ad 10)) (C := RX11) (T := TX11) (N := 15) hx hb hts hinX11 hown hK hP 0 (at_10 rfl) rfl 4 (by decide) (hts (.fieldLink RX11 40 "BondCalendars" "sheet" "LBondCalendars$Sheet;") (by decide +kernel)) (fun _ h9 => h9) rfl dX11_writeLine_76 ?_
  refine lv_iload_n hx hb dX11_writeLine_79 rfl (lv_at hl 0 rfl) ?_
  refine lv_bipush (v := 100) hx hb dX11_writeLine_80 (by decide) ?_
  refine lv_irem hx hb dX11_writeLine_82 (by decide) ?_
  refine lv_topi (fun x_21 ex_21 => ?_)
  refine lv_i2l hx hb dX11_writeLine_83 rfl ?_
  refine lv_iconst (v := 2) hx hb dX11_writeLine_84 (by decide) ?_
  have hF := gFree hD hS hA
  refine va_callvD hd0 (va_runV_D (As := [.long (x_21.toInt64), .int 2]) (rest := []) ⟨hx, hb, hml, hown, hts⟩ (n_X9_putNumber l dC dI ad cA adK adV H.size σ6 hIσ6 (x_21.toInt64) 2) (cwV 2 hts gX11_writeLine_X9_putNumber rfl rfl rfl (by decide +kernel) ⟨Nat.le_of_ble_eq_true rfl, Nat.le_of_ble_eq_true rfl⟩) ⟨gBlind, va_recv hK hP (ci := 8) (q0 := 10) rfl (at_8 rfl), gStart (As := [.ref (ad 10), .long (x_21.toInt64), .int 2]) hP hD hK0 hT hS hF (d_19)⟩ rfl rfl hl.1 rfl (lv_room (Nat.le_of_ble_eq_true rfl)) dX11_writeLine_85 ⟨Nat.le_of_ble_eq_true rfl, Nat.le_of_ble_eq_true rfl⟩) hS (fun q _ h => hF q h) hF (fun σ7 t H locs ht hvm hw hB hz1 hk1 hS d_23 hd0 => ?_)
  have hts := dr_words hts0 (d_23)
  have hK := gKd hK0 (d_23)
  have hown : (s.setDrawn (d_23)).vm.findClass RX11 = some m.cls := hown0
  obtain ⟨hP, hD⟩ := gBack hF ht hB
  obtain ⟨hIσ7, fcσ7, hp_24⟩ := hw
  refine lv_aload_n hx hb dX11_writeLine_88 rfl (lv_at hl 1 rfl) ?_
  refine va_get (D := (dC, dI)) (ci := 10) (v := .ref (ad 10)) (C := RX11) (T := TX11) (N := 15) hx hb hts hinX11 hown hK hP 0 (at_10 rfl) rfl 4 (by decide) (hts (.fieldLink RX11 40 "BondCalendars" "sheet" "LBondCalendars$Sheet;") (by decide +kernel)) (fun _ h9 => h9) rfl dX11_writeLine_89 ?_
  refine lv_bipush (v := 32) hx hb dX11_writeLine_92 (by decide) ?_
  have hF := gFree hD hS hA
  refine va_callvD hd0 (va_runV_D (As := [.int 32]) (rest := []) ⟨hx, hb, hml, hown, hts⟩ (n_X9_putSign l dC dI ad cA adK adV H.size σ7 hIσ7 32) (cwV 1 hts gX11_writeLine_X9_putSign rfl rfl rfl (by decide +kernel) ⟨Nat.le_of_ble_eq_true rfl, Nat.le_of_ble_eq_true rfl⟩) ⟨gBlind, va_recv hK hP (ci := 8) (q0 := 10) rfl (at_8 rfl), gStart (As := [.ref (ad 10), .int 32]) hP hD hK0 hT hS hF (d_23)⟩ rfl rfl hl.1 rfl (lv_room (Nat.le_of_ble_eq_true rfl)) dX11_writeLine_94 ⟨Nat.le_of_ble_eq_true rfl, Nat.le_of_ble_eq_true rfl⟩) hS (fun q _ h => hF q h) hF (fun σ8 t H locs ht hvm hw hB hz1 hk1 hS d_26 hd0 => ?_)
  have hts := dr_words hts0 (d_26)
  have hK := gKd hK0 (d_26)
  have hown : (s.setDrawn (d_26)).vm.findClass RX11 = some m.cls := hown0
  obtain ⟨hP, hD⟩ := gBack hF ht hB
  obtain ⟨hIσ8, fcσ8, hp_27⟩ := hw
  refine lv_aload_n hx hb dX11_writeLine_97 rfl (lv_at hl 1 rfl) ?_
  refine va_get (D := (dC, dI)) (ci := 10) (v := .ref (ad 10)) (C := RX11) (T := TX11) (N := 15) hx hb hts hinX11 hown hK hP 0 (at_10 rfl) rfl 4 (by decide) (hts (.fieldLink RX11 40 "BondCalendars" "sheet" "LBondCalendars$Sheet;") (by decide +kernel)) (fun _ h9 => h9) rfl dX11_writeLine_98 ?_
  refine lv_aload_n hx hb dX11_writeLine_101 rfl (lv_at hl 1 rfl) ?_
  refine va_get (D := (dC, dI)) (ci := 10) (v := .ref (ad 9)) (C := RX11) (T := TX11) (N := 15) hx hb hts hinX11 hown hK hP 0 (at_10 rfl) rfl 3 (by decide) (hts (.fieldLink RX11 33 "BondCalendars" "ratio" "LBondCalendars$Ratio;") (by decide +kernel)) (fun _ h9 => h9) rfl dX11_writeLine_102 ?_
  refine va_get (D := (dC, dI)) (ci := 5) (v := .long ((σ1 9).2.1 0)) (C := RX6) (T := TX6) (N := 2) hx hb hts hinX6 hown hK hP 9 (at_5 rfl) rfl 0 (by decide) (hts (.fieldLink RX11 400 "BondCalendars$Ratio" "upper" "J") (by decide +kernel)) (fun _ h9 => h9) (congrArg (fun z => some (Value.long z)) (show (σ8 9).2.1 0 = ((σ1 9).2.1 0) from by rw [fcσ8 9 (by decide), fcσ7 9 (by decide), fcσ6 9 (by decide), fcσ5 9 (by decide), fcσ4 9 (by decide), fcσ3 9 (by decide), eσ2, gI_ne _ _ _ (by decide)])) dX11_writeLine_105 ?_
  refine lv_iconst (v := 1) hx hb dX11_writeLine_108 (by decide) ?_
  have hF := gFree hD hS hA
  refine va_callvD hd0 (va_runV_D (As := [.long ((σ1 9).2.1 0), .int 1]) (rest := []) ⟨hx, hb, hml, hown, hts⟩ (n_X9_putNumber l dC dI ad cA adK adV H.size σ8 hIσ8 ((σ1 9).2.1 0) 1) (cwV 2 hts gX11_writeLine_X9_putNumber rfl rfl rfl (by decide +kernel) ⟨Nat.le_of_ble_eq_true rfl, Nat.le_of_ble_eq_true rfl⟩) ⟨gBlind, va_recv hK hP (ci := 8) (q0 := 10) rfl (at_8 rfl), gStart (As := [.ref (ad 10), .long ((σ1 9).2.1 0), .int 1]) hP hD hK0 hT hS hF (d_26)⟩ rfl rfl hl.1 rfl (lv_room (Nat.le_of_ble_eq_true rfl)) dX11_writeLine_109 ⟨Nat.le_of_ble_eq_true rfl, Nat.le_of_ble_eq_true rfl⟩) hS (fun q _ h => hF q h) hF (fun σ9 t H locs ht hvm hw hB hz1 hk1 hS d_29 hd0 => ?_)
  have hts := dr_words hts0 (d_29)
  have hK := gKd hK0 (d_29)
  have hown : (s.setDrawn (d_29)).vm.findClass RX11 = some m.cls := hown0
  obtain ⟨hP, hD⟩ := gBack hF ht hB
  obtain ⟨hIσ9, fcσ9, hp_30⟩ := hw
  refine lv_aload_n hx hb dX11_writeLine_112 rfl (lv_at hl 1 rfl) ?_
  refine va_get (D := (dC, dI)) (ci := 10) (v := .ref (ad 10)) (C := RX11) (T := TX11) (N := 15) hx hb hts hinX11 hown hK hP 0 (at_10 rfl) rfl 4 (by decide) (hts (.fieldLink RX11 40 "BondCalendars" "sheet" "LBondCalendars$Sheet;") (by decide +kernel)) (fun _ h9 => h9) rfl dX11_writeLine_113 ?_
  refine lv_bipush (v := 47) hx hb dX11_writeLine_116 (by decide) ?_
  have hF := gFree hD hS hA
  refine va_callvD hd0 (va_runV_D (As := [.int 47]) (rest := []) ⟨hx, hb, hml, hown, hts⟩ (n_X9_putSign l dC dI ad cA adK adV H.size σ9 hIσ9 47) (cwV 1 hts gX11_writeLine_X9_putSign rfl rfl rfl (by decide +kernel) ⟨Nat.le_of_ble_eq_true rfl, Nat.le_of_ble_eq_true rfl⟩) ⟨gBlind, va_recv hK hP (ci := 8) (q0 := 10) rfl (at_8 rfl), gStart (As := [.ref (ad 10), .int 47]) hP hD hK0 hT hS hF (d_29)⟩ rfl rfl hl.1 rfl (lv_room (Nat.le_of_ble_eq_true rfl)) dX11_writeLine_118 ⟨Nat.le_of_ble_eq_true rfl, Nat.le_of_ble_eq_true rfl⟩) hS (fun q _ h => hF q h) hF (fun σ10 t H locs ht hvm hw hB hz1 hk1 hS d_32 hd0 => ?_)
  have hts := dr_words hts0 (d_32)
  have hK := gKd hK0 (d_32)
  have hown : (s.setDrawn (d_32)).vm.findClass RX11 = some m.cls := hown0
  obtain ⟨hP, hD⟩ := gBack hF ht hB
  obtain ⟨hIσ10, fcσ10, hp_33⟩ := hw
  refine lv_aload_n hx hb dX11_writeLine_121 rfl (lv_at hl 1 rfl) ?_
  refine va_get (D := (dC, dI)) (ci := 10) (v := .ref (ad 10)) (C := RX11) (T := TX11) (N := 15) hx hb hts hinX11 hown hK hP 0 (at_10 rfl) rfl 4 (by decide) (hts (.fieldLink RX11 40 "BondCalendars" "sheet" "LBondCalendars$Sheet;") (by decide +kernel)) (fun _ h9 => h9) rfl dX11_writeLine_122 ?_
  refine lv_aload_n hx hb dX11_writeLine_125 rfl (lv_at hl 1 rfl) ?_
  refine va_get (D := (dC, dI)) (ci := 10) (v := .ref (ad 9)) (C := RX11) (T := TX11) (N := 15) hx hb hts hinX11 hown hK hP 0 (at_10 rfl) rfl 3 (by decide) (hts (.fieldLink RX11 33 "BondCalendars" "ratio" "LBondCalendars$Ratio;") (by decide +kernel)) (fun _ h9 => h9) rfl dX11_writeLine_126 ?_
  refine va_get (D := (dC, dI)) (ci := 5) (v := .long ((σ1 9).2.1 1)) (C := RX6) (T := TX6) (N := 2) hx hb hts hinX6 hown hK hP 9 (at_5 rfl) rfl 1 (by decide) (hts (.fieldLink RX11 403 "BondCalendars$Ratio" "lower" "J") (by decide +kernel)) (fun _ h9 => h9) (congrArg (fun z => some (Value.long z)) (show (σ10 9).2.1 1 = ((σ1 9).2.1 1) from by rw [fcσ10 9 (by decide), fcσ9 9 (by decide), fcσ8 9 (by decide), fcσ7 9 (by decide), fcσ6 9 (by decide), fcσ5 9 (by decide), fcσ4 9 (by decide), fcσ3 9 (by decide), eσ2, gI_ne _ _ _ (by decide)])) dX11_writeLine_129 ?_
  refine lv_iconst (v := 1) hx hb dX11_writeLine_132 (by decide) ?_
  have hF := gFree hD hS hA
  refine va_callvD hd0 (va_runV_D (As := [.long ((σ1 9).2.1 1), .int 1]) (rest := []) ⟨hx, hb, hml, hown, hts⟩ (n_X9_putNumber l dC dI ad cA adK adV H.size σ10 hIσ10 ((σ1 9).2.1 1) 1) (cwV 2 hts gX11_writeLine_X9_putNumber rfl rfl rfl (by decide +kernel) ⟨Nat.le_of_ble_eq_true rfl, Nat.le_of_ble_eq_true rfl⟩) ⟨gBlind, va_recv hK hP (ci := 8) (q0 := 10) rfl (at_8 rfl), gStart (As := [.ref (ad 10), .long ((σ1 9).2.1 1), .int 1]) hP hD hK0 hT hS hF (d_32)⟩ rfl rfl hl.1 rfl (lv_room (Nat.le_of_ble_eq_true rfl)) dX11_writeLine_133 ⟨Nat.le_of_ble_eq_true rfl, Nat.le_of_ble_eq_true rfl⟩) hS (fun q _ h => hF q h) hF (fun σ11 t H locs ht hvm hw hB hz1 hk1 hS d_35 hd0 => ?_)
  have hts := dr_words hts0 (d_35)
  have hK := gKd hK0 (d_35)
  have hown : (s.setDrawn (d_35)).vm.findClass RX11 = some m.cls := hown0
  obtain ⟨hP, hD⟩ := gBack hF ht hB
  obtain ⟨hIσ11, fcσ11, hp_36⟩ := hw
  refine W.endD hd0 ?_
  exact W.vret hx hb hr (fun t ht hW => ⟨⟨σ11, rfl, ⟨hIσ11, (gFr.tr (gFr.tr (gFr.tr (gFr.tr (gFr.tr (gFr.tr (gFr.tr (gFr.tr (gFr.tr frσ2 fcσ3 (by decide)) fcσ4 (by decide)) fcσ5 (by decide)) fcσ6 (by decide)) fcσ7 (by decide)) fcσ8 (by decide)) fcσ9 (by decide)) fcσ10 (by decide)) fcσ11 (by decide)), trivial⟩, ⟨by rw [ht]; exact hP, hD⟩⟩, hS.F ht⟩) hS.2.2 dX11_writeLine_136
