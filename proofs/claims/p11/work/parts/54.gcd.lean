set_option maxHeartbeats 8000000 in
set_option maxRecDepth 100000 in
theorem n_X12_common (l : Launch) (dC : Nat → ClassId) (dI : Nat → Nat → Nat) (ad : Nat → Nat) (cA : Nat → ClassId) (adK adV : Nat → Nat) (sz : Nat) (σ : gs) (hI : InvM σ) (p0 : Int64) (p1 : Int64) : MetD lw_cs l yX12_common wsX12_common ({ frames := 0, cells := 0, slots := 0, locals := 0 }) (va_Pc [.long p0, .long p1] (gPre adK adV (dC, dI) (wM ad cA σ) (tM cA) sz)) (va_Ql (fun (r : Int64) (τ : gs) => InvM τ ∧ σ = τ ∧ (r.toInt.natAbs = Nat.gcd p0.toInt.natAbs p1.toInt.natAbs)) (fun τ t => gPost (dC, dI) (va_A (wM ad cA σ) sz) (wM ad cA τ) t) (va_A (wM ad cA σ) sz)) 0 0 (va_A (wM ad cA σ) sz) := by
  refine MetD.ofW (cc := cX12_common) (maxL := 10) (ret := (some .long)) (by decide) rfl ?_
  intro p e s m args below meth c s₁ B hml hv hd0
  obtain ⟨rfl, hsz, hP, hK, hD0, hT⟩ := hv
  have hx := B.exec
  have hb := B.bytes
  have hr := B.returns
  have hts0 := atoms_spec (ws := wsX12_common) B.pre
  have hK0 := hK
  have hown0 : s.vm.findClass RX12 = some m.cls := findClass_of_methodNamed B.named
  have hlocks := B.notSynchronized
  subst hsz
  have hD := hD0.self (sz := s.heap.size)
  generalize hAe : va_A (wM ad cA σ) s.heap.size = A at hD hT ⊢
  have hA : ∀ q : Nat, s.heap.size ≤ q → A q := fun q h => by rw [← hAe]; exact Or.inr h
  have hS : va_S A s.heap s.heap [] := va_S.rf
  have hl := lv_entry ([.long p0, .long p1]) (n := 10) (Nat.le_of_ble_eq_true rfl)
  rw [lg_entry_eq]
  generalize (lg_sl ([.long p0, .long p1]) ++ List.replicate (10 - (lg_sl ([.long p0, .long p1])).length) Slot.unset).toArray = ls at hl ⊢
  have hl : lv_has ls 10 [(0, .long p0), (2, .long p1)] := hl
  have hts := dr_words hts0 (s.drawn)
  have hK := gKd hK0 (s.drawn)
  have hown : (s.setDrawn (s.drawn)).vm.findClass RX12 = some m.cls := hown0
  refine lv_lload_n hx hb dX12_common_0 rfl (lv_at hl 0 rfl) ?_
  refine lv_lconst (v := 0) hx hb dX12_common_1 (by decide) ?_
  refine W.lcmp hx hb dX12_common_2 ?_
  refine lv_if_ge (tgt := 11) hx hb dX12_common_3 (by decide) (fun c_1 => ?_) (fun c_1 => ?_)
  · refine lv_lload_n hx hb dX12_common_11 rfl (lv_at hl 0 rfl) ?_
    refine lv_lstore (lv' := [(4, .long p0), (0, .long p0), (2, .long p1)]) hx hb dX12_common_12 hl (by decide) rfl (fun ls hl => ?_)
    refine lv_lload_n hx hb dX12_common_14 rfl (lv_at hl 2 rfl) ?_
    refine lv_lstore (lv' := [(6, .long p1), (4, .long p0), (0, .long p0), (2, .long p1)]) hx hb dX12_common_15 hl (by decide) rfl (fun ls hl => ?_)
    refine (fun (h : ∀ (n : Nat) (x4 : Int64) (y6 : Int64) (d17 : Drawn) (H : Heap) (locs : List Loc) (ls : Array Slot), y6.toInt.natAbs < n → gc p0 p1 x4 y6 → s.drawn.sameBut d17 lw_cs → va_P (dC, dI) vwCl (wM ad cA σ) H → va_D A (wM ad cA σ) → va_S A s.heap H locs → lv_has ls 10 [(6, .long y6), (4, .long x4), (0, .long p0), (2, .long p1)] → W p l e _ (s.setDrawn d17) m _ below meth c H locs _ _ _ (F0 m 17 ls [])) => h _ p0 p1 _ _ _ _ (Nat.lt_succ_self _) (gc_0 p0 p1) hd0 hP hD hS (lv_sub hl [0, 1, 2, 3] rfl)) ?_
    intro n17
    induction n17 with
    | zero => intro x4 y6  d17 H locs ls hm; exact absurd hm (Nat.not_lt_zero _)
    | succ n17 ih17 =>
      intro x4 y6  d17 H locs ls hm17 iv17_0  hd0 hP hD hS hl
      have hts := dr_words hts0 (d17)
      have hK := gKd hK0 (d17)
      have hown : (s.setDrawn (d17)).vm.findClass RX12 = some m.cls := hown0
      refine lv_lload hx hb dX12_common_17 (lv_at hl 0 rfl) ?_
      refine lv_lconst (v := 0) hx hb dX12_common_19 (by decide) ?_
      refine W.lcmp hx hb dX12_common_20 ?_
      refine lv_if_eq (tgt := 42) hx hb dX12_common_21 (by decide) (fun c_2 => ?_) (fun c_2 => ?_)
      · refine lv_lload hx hb dX12_common_42 (lv_at hl 1 rfl) ?_
        refine W.endD hd0 ?_
        exact W.lret (v := x4) hx hb hr (fun t ht hW => ⟨⟨x4, σ, rfl, ⟨hI, rfl, (gc_e iv17_0 ((lg_cmp_eq _ _).mp c_2))⟩, ⟨by rw [ht]; exact hP, hD⟩⟩, hS.F ht⟩) hS.2.2 dX12_common_44
      · refine lv_lload hx hb dX12_common_24 (lv_at hl 1 rfl) ?_
        refine lv_lload hx hb dX12_common_26 (lv_at hl 0 rfl) ?_
        refine lv_lrem hx hb dX12_common_28 (fun q => c_2 ((lg_cmp_eq _ _).mpr q)) ?_
        refine lv_topl (fun x_3 ex_3 => ?_)
        refine lv_lstore (lv' := [(8, .long x_3), (6, .long y6), (4, .long x4), (0, .long p0), (2, .long p1)]) hx hb dX12_common_29 hl (by decide) rfl (fun ls hl => ?_)
        refine lv_lload hx hb dX12_common_31 (lv_at hl 1 rfl) ?_
        refine lv_lstore (lv' := [(4, .long y6), (8, .long x_3), (6, .long y6), (0, .long p0), (2, .long p1)]) hx hb dX12_common_33 hl (by decide) rfl (fun ls hl => ?_)
        refine lv_lload hx hb dX12_common_35 (lv_at hl 1 rfl) ?_
        refine lv_lstore (lv' := [(6, .long x_3), (4, .long y6), (8, .long x_3), (0, .long p0), (2, .long p1)]) hx hb dX12_common_37 hl (by decide) rfl (fun ls hl => ?_)
        refine lv_goto (tgt := 17) hx hb dX12_common_39 (by decide) ?_
        exact ih17 y6 x_3 _ _ _ _ (gc_m (fun q => c_2 ((lg_cmp_eq _ _).mpr q)) ex_3 hm17) (gc_s iv17_0 (fun q => c_2 ((lg_cmp_eq _ _).mpr q)) ex_3) hd0 hP hD hS (lv_sub hl [0, 1, 3, 4] rfl)
  · refine lv_lload_n hx hb dX12_common_6 rfl (lv_at hl 0 rfl) ?_
    refine lv_lneg hx hb dX12_common_7 ?_
    refine lv_goto (tgt := 12) hx hb dX12_common_8 (by decide) ?_
    refine lv_topl (fun x_4 ex_4 => ?_)
    refine lv_lstore (lv' := [(4, .long x_4), (0, .long p0), (2, .long p1)]) hx hb dX12_common_12 hl (by decide) rfl (fun ls hl => ?_)
    refine lv_lload_n hx hb dX12_common_14 rfl (lv_at hl 2 rfl) ?_
    refine lv_lstore (lv' := [(6, .long p1), (4, .long x_4), (0, .long p0), (2, .long p1)]) hx hb dX12_common_15 hl (by decide) rfl (fun ls hl => ?_)
    refine (fun (h : ∀ (n : Nat) (x4 : Int64) (y6 : Int64) (d17 : Drawn) (H : Heap) (locs : List Loc) (ls : Array Slot), y6.toInt.natAbs < n → gc p0 p1 x4 y6 → s.drawn.sameBut d17 lw_cs → va_P (dC, dI) vwCl (wM ad cA σ) H → va_D A (wM ad cA σ) → va_S A s.heap H locs → lv_has ls 10 [(6, .long y6), (4, .long x4), (0, .long p0), (2, .long p1)] → W p l e _ (s.setDrawn d17) m _ below meth c H locs _ _ _ (F0 m 17 ls [])) => h _ x_4 p1 _ _ _ _ (Nat.lt_succ_self _) (gc_n ex_4) hd0 hP hD hS (lv_sub hl [0, 1, 2, 3] rfl)) ?_
    intro n17
    induction n17 with
    | zero => intro x4 y6  d17 H locs ls hm; exact absurd hm (Nat.not_lt_zero _)
    | succ n17 ih17 =>
      intro x4 y6  d17 H locs ls hm17 iv17_0  hd0 hP hD hS hl
      have hts := dr_words hts0 (d17)
      have hK := gKd hK0 (d17)
      have hown : (s.setDrawn (d17)).vm.findClass RX12 = some m.cls := hown0
      refine lv_lload hx hb dX12_common_17 (lv_at hl 0 rfl) ?_
      refine lv_lconst (v := 0) hx hb dX12_common_19 (by decide) ?_
      refine W.lcmp hx hb dX12_common_20 ?_
      refine lv_if_eq (tgt := 42) hx hb dX12_common_21 (by decide) (fun c_5 => ?_) (fun c_5 => ?_)
      · refine lv_lload hx hb dX12_common_42 (lv_at hl 1 rfl) ?_
        refine W.endD hd0 ?_
        exact W.lret (v := x4) hx hb hr (fun t ht hW => ⟨⟨x4, σ, rfl, ⟨hI, rfl, (gc_e iv17_0 ((lg_cmp_eq _ _).mp c_5))⟩, ⟨by rw [ht]; exact hP, hD⟩⟩, hS.F ht⟩) hS.2.2 dX12_common_44
      · refine lv_lload hx hb dX12_common_24 (lv_at hl 1 rfl) ?_
        refine lv_lload hx hb dX12_common_26 (lv_at hl 0 rfl) ?_
        refine lv_lrem hx hb dX12_common_28 (fun q => c_5 ((lg_cmp_eq _ _).mpr q)) ?_
        refine lv_topl (fun x_6 ex_6 => ?_)
        refine lv_lstore (lv' := [(8, .long x_6), (6, .long y6), (4, .long x4), (0, .long p0), (2, .long p1)]) hx hb dX12_common_29 hl (by decide) rfl (fun ls hl => ?_)
        refine lv_lload hx hb dX12_common_31 (lv_at hl 1 rfl) ?_
        refine lv_lstore (lv' := [(4, .long y6), (8, .long x_6), (6, .long y6), (0, .long p0), (2, .long p1)]) hx hb dX12_common_33 hl (by decide) rfl (fun ls hl => ?_)
        refine lv_lload hx hb dX12_common_35 (lv_at hl 1 rfl) ?_
        refine lv_lstore (lv' := [(6, .long x_6), (4, .long y6), (8, .long x_6), (0, .long p0), (2, .long p1)]) hx hb dX12_common_37 hl (by decide) rfl (fun ls hl => ?_)
        refine lv_goto (tgt := 17) hx hb dX12_common_39 (by decide) ?_
        exact ih17 y6 x_6 _ _ _ _ (gc_m (fun q => c_5 ((lg_cmp_eq _ _).mpr q)) ex_6 hm17) (gc_s iv17_0 (fun q => c_5 ((lg_cmp_eq _ _).mpr q)) ex_6) hd0 hP hD hS (lv_sub hl [0, 1, 3, 4] rfl)
