set_option maxHeartbeats 8000000 in
set_option maxRecDepth 100000 in
theorem n_X12_isBusiness (l : Launch) (dC : Nat → ClassId) (dI : Nat → Nat → Nat) (ad : Nat → Nat) (cA : Nat → ClassId) (adK adV : Nat → Nat) (sz : Nat) (σ : gs) (hI : InvM σ) (p0 : Int32) : MetD lw_cs l yX12_isBusiness wsX12_isBusiness ({ frames := 3, cells := 0, slots := 0, locals := 63 }) (va_Pc [.ref (ad 0), .int p0] (gPre adK adV (dC, dI) (wM ad cA σ) (tM cA) sz)) (va_Qi (fun (r : Int32) (τ : gs) => InvM τ ∧ σ = τ ∧ ((r = 0 ∨ r = 1) ∧ (r = 0 → nob σ p0))) (fun τ t => gPost (dC, dI) (va_A (wM ad cA σ) sz) (wM ad cA τ) t) (va_A (wM ad cA σ) sz)) 0 0 (va_A (wM ad cA σ) sz) := by
  refine MetD.ofW (cc := cX12_isBusiness) (maxL := 3) (ret := (some .boolean)) (by decide) rfl ?_
  intro p e s m args below meth c s₁ B hml hv hd0
  obtain ⟨rfl, hsz, hP, hK, hD0, hT⟩ := hv
  have hx := B.exec
  have hb := B.bytes
  have hr := B.returns
  have hts0 := atoms_spec (ws := wsX12_isBusiness) B.pre
  have hK0 := hK
  have hown0 : s.vm.findClass RX12 = some m.cls := findClass_of_methodNamed B.named
  have hlocks := B.notSynchronized
  have hinX12 : ∀ w ∈ u_ws RX12 TX12 69, w ∈ wsX12_isBusiness := (fun _ h9 => List.mem_cons_of_mem _ (List.mem_append_right _ h9))
  subst hsz
  have hD := hD0.self (sz := s.heap.size)
  generalize hAe : va_A (wM ad cA σ) s.heap.size = A at hD hT ⊢
  have hA : ∀ q : Nat, s.heap.size ≤ q → A q := fun q h => by rw [← hAe]; exact Or.inr h
  have hS : va_S A s.heap s.heap [] := va_S.rf
  have hl := lv_entry ([.ref (ad 0), .int p0]) (n := 3) (Nat.le_of_ble_eq_true rfl)
  rw [lg_entry_eq]
  generalize (lg_sl ([.ref (ad 0), .int p0]) ++ List.replicate (3 - (lg_sl ([.ref (ad 0), .int p0])).length) Slot.unset).toArray = ls at hl ⊢
  have hl : lv_has ls 3 [(0, .ref (ad 0)), (1, .int p0)] := hl
  have hts := dr_words hts0 (s.drawn)
  have hK := gKd hK0 (s.drawn)
  have hown : (s.setDrawn (s.drawn)).vm.findClass RX12 = some m.cls := hown0
  refine lv_iload_n hx hb dX12_isBusiness_0 rfl (lv_at hl 1 rfl) ?_
  have hF := gFree (w := []) (hx_D0 (A := A)) hS hA
  have hKe := hK.sub (tys' := []) [] rfl
  refine va_calli (va_runS (As := [.int p0]) (rest := []) ⟨hx, hb, hml, hown, hts⟩ (k_X12_weekdayOf l dC dI s.heap.size p0 ) (va_cwS 1 hts gX12_isBusiness_X12_weekdayOf rfl rfl rfl (by decide +kernel) ⟨Nat.le_of_ble_eq_true rfl, Nat.le_of_ble_eq_true rfl⟩) ⟨fun a U g mk q => by obtain ⟨q0, q1, qP, qK, qD⟩ := q; exact ⟨q0, q1, qP, va_K.moved (u := U) (U := U.calling g mk a) (Vm.Alike.refl U.vm) qK, qD⟩, fun U hU hW => ⟨rfl, by rw [hU], hx_P0, va_K.moved hW.alike hKe, hx_D0⟩⟩ rfl rfl hl.1 rfl (lv_room (Nat.le_of_ble_eq_true rfl)) dX12_isBusiness_1 ⟨Nat.le_of_ble_eq_true rfl, Nat.le_of_ble_eq_true rfl⟩) hS (fun q _ h => hF q h) hF (fun r_1 u t H locs ht hvm hw hB hz1 hk1 hS => ?_)
  have hP := gKeep hP hk1
  have pu_2 : r_1 = f_X12_weekdayOf p0 := hw
  refine lv_iconst (v := 4) hx hb dX12_isBusiness_4 (by decide) ?_
  refine lv_icmp_le (tgt := 10) hx hb dX12_isBusiness_5 (by decide) (fun c_3 => ?_) (fun c_3 => ?_)
  · refine lv_iconst (v := 0) hx hb dX12_isBusiness_10 (by decide) ?_
    refine lv_istore_n (lv' := [(2, .int 0), (0, .ref (ad 0)), (1, .int p0)]) hx hb dX12_isBusiness_11 rfl hl (by decide) rfl (fun ls hl => ?_)
    refine (fun (h : ∀ (n : Nat) (i2 : Int32) (d12 : Drawn) (H : Heap) (locs : List Loc) (ls : Array Slot), ((10 : Int32).toInt - i2.toInt).toNat < n → 0 ≤ i2 → s.drawn.sameBut d12 lw_cs → va_P (dC, dI) vwCl (wM ad cA σ) H → va_D A (wM ad cA σ) → va_S A s.heap H locs → lv_has ls 3 [(2, .int i2), (0, .ref (ad 0)), (1, .int p0)] → W p l e _ (s.setDrawn d12) m _ below meth c H locs _ _ _ (F0 m 12 ls [])) => h _ 0 _ _ _ _ (Nat.lt_succ_self _) (by decide) hd0 hP hD hS (lv_sub hl [0, 1, 2] rfl)) ?_
    intro n12
    induction n12 with
    | zero => intro i2  d12 H locs ls hm; exact absurd hm (Nat.not_lt_zero _)
    | succ n12 ih12 =>
      intro i2  d12 H locs ls hm12 iv12_0  hd0 hP hD hS hl
      have hts := dr_words hts0 (d12)
      have hK := gKd hK0 (d12)
      have hown : (s.setDrawn (d12)).vm.findClass RX12 = some m.cls := hown0
      refine lv_iload_n hx hb dX12_isBusiness_12 rfl (lv_at hl 0 rfl) ?_
      refine lv_aload_n hx hb dX12_isBusiness_13 rfl (lv_at hl 1 rfl) ?_
      have bd_4 := mrd_11_22 (c := 0) hI rfl
      refine va_get (D := (dC, dI)) (ci := 11) (v := .int ((σ 0).1 22)) (C := RX12) (T := TX12) (N := 69) hx hb hts hinX12 hown hK hP 0 (mat_11 rfl) rfl 22 (by decide) (hts (.fieldLink RX12 150 "BondCalendarsModel" "freeMany" "I") (by decide +kernel)) (fun _ h9 => h9) rfl dX12_isBusiness_14 ?_
      refine lv_icmp_ge (tgt := 38) hx hb dX12_isBusiness_17 (by decide) (fun c_5 => ?_) (fun c_5 => ?_)
      · refine lv_iconst (v := 1) hx hb dX12_isBusiness_38 (by decide) ?_
        refine W.endD hd0 ?_
        exact W.zret (v := 1) hx hb hr (by decide) (fun t ht hW => ⟨⟨1, σ, rfl, ⟨hI, rfl, ⟨Or.inr rfl, fun h => absurd h (by decide)⟩⟩, ⟨by rw [ht]; exact hP, hD⟩⟩, hS.F ht⟩) hS.2.2 dX12_isBusiness_39
      · refine lv_aload_n hx hb dX12_isBusiness_20 rfl (lv_at hl 1 rfl) ?_
        refine va_get (D := (dC, dI)) (ci := 11) (v := .ref (ad 14)) (C := RX12) (T := TX12) (N := 69) hx hb hts hinX12 hown hK hP 0 (mat_11 rfl) rfl 18 (by decide) (hts (.fieldLink RX12 54 "BondCalendarsModel" "free" "[I") (by decide +kernel)) (fun _ h9 => h9) rfl dX12_isBusiness_21 ?_
        refine lv_iload_n hx hb dX12_isBusiness_24 rfl (lv_at hl 0 rfl) ?_
        refine va_iald hx hb hK hP 14 14 (mat_54 rfl) (mty_54 rfl) (gin (N := 10) (by decide) iv12_0 (Int32.lt_of_lt_of_le (Int32.not_le.mp c_5) bd_4.2)) dX12_isBusiness_25 ?_
        refine lv_topi (fun x_6 ex_6 => ?_)
        have bd_7 := mrd_54 (c := 14) hI rfl i2.toNatClampNeg
        refine lv_iload_n hx hb dX12_isBusiness_26 rfl (lv_at hl 2 rfl) ?_
        refine lv_icmp_ne (tgt := 32) hx hb dX12_isBusiness_27 (by decide) (fun c_8 => ?_) (fun c_8 => ?_)
        · obtain ⟨x_9, ex_9⟩ : ∃ zz : Int32, zz = i2 + 1 := ⟨_, rfl⟩
          refine lv_iinc (v := x_9) (lv' := [(2, .int x_9), (0, .ref (ad 0)), (1, .int p0)]) hx hb dX12_isBusiness_32 hl (k := 0) rfl (by rw [ex_9]; rfl) (by decide) rfl (fun ls hl => ?_)
          refine lv_goto (tgt := 12) hx hb dX12_isBusiness_35 (by decide) ?_
          exact ih12 x_9 _ _ _ _ (cnt_m iv12_0 (Int32.lt_of_lt_of_le (Int32.not_le.mp c_5) bd_4.2) hm12 ex_9) (cnt_0 iv12_0 (Int32.lt_of_lt_of_le (Int32.not_le.mp c_5) bd_4.2) ex_9) hd0 hP hD hS (lv_sub hl [0, 1, 2] rfl)
        · refine lv_iconst (v := 0) hx hb dX12_isBusiness_30 (by decide) ?_
          refine W.endD hd0 ?_
          exact W.zret (v := 0) hx hb hr (by decide) (fun t ht hW => ⟨⟨0, σ, rfl, ⟨hI, rfl, ⟨Or.inl rfl, fun _ => Or.inr ⟨_, nc_lt iv12_0 (Int32.not_le.mp c_5), ex_6.symm.trans c_8⟩⟩⟩, ⟨by rw [ht]; exact hP, hD⟩⟩, hS.F ht⟩) hS.2.2 dX12_isBusiness_31
  · refine lv_iconst (v := 0) hx hb dX12_isBusiness_8 (by decide) ?_
    refine W.endD hd0 ?_
    exact W.zret (v := 0) hx hb hr (by decide) (fun t ht hW => ⟨⟨0, σ, rfl, ⟨hI, rfl, ⟨Or.inl rfl, fun _ => Or.inl (by rw [← pu_2]; exact Int32.not_le.mp c_3)⟩⟩, ⟨by rw [ht]; exact hP, hD⟩⟩, hS.F ht⟩) hS.2.2 dX12_isBusiness_9
set_option maxHeartbeats 8000000 in
set_option maxRecDepth 100000 in
theorem n_X12_business (l : Launch) (dC : Nat → ClassId) (dI : Nat → Nat → Nat) (ad : Nat → Nat) (cA : Nat → ClassId) (adK adV : Nat → Nat) (sz : Nat) (σ : gs) (hI : InvM σ) (p0 : Int32) : MetD lw_cs l yX12_business wsX12_business ({ frames := 4, cells := 0, slots := 0, locals := 85 }) (va_Pc [.ref (ad 0), .int p0] (gPre adK adV (dC, dI) (wM ad cA σ) (tM cA) sz)) (va_Qi (fun (r : Int32) (τ : gs) => InvM τ ∧ mFr [] [0, 1, 2] σ τ ∧ (True)) (fun τ t => gPost (dC, dI) (va_A (wM ad cA σ) sz) (wM ad cA τ) t) (va_A (wM ad cA σ) sz)) 0 0 (va_A (wM ad cA σ) sz) := by
  refine MetD.ofW (cc := cX12_business) (maxL := 2) (ret := (some .int)) (by decide) rfl ?_
  intro p e s m args below meth c s₁ B hml hv hd0
  obtain ⟨rfl, hsz, hP, hK, hD0, hT⟩ := hv
  have hx := B.exec
  have hb := B.bytes
  have hr := B.returns
  have hts0 := atoms_spec (ws := wsX12_business) B.pre
  have hK0 := hK
  have hown0 : s.vm.findClass RX12 = some m.cls := findClass_of_methodNamed B.named
  have hlocks := B.notSynchronized
  have hinX12 : ∀ w ∈ u_ws RX12 TX12 69, w ∈ wsX12_business := (fun _ h9 => List.mem_cons_of_mem _ (List.mem_append_right _ h9))
  subst hsz
  have hD := hD0.self (sz := s.heap.size)
  generalize hAe : va_A (wM ad cA σ) s.heap.size = A at hD hT ⊢
  have hA : ∀ q : Nat, s.heap.size ≤ q → A q := fun q h => by rw [← hAe]; exact Or.inr h
  have hS : va_S A s.heap s.heap [] := va_S.rf
  have hl := lv_entry ([.ref (ad 0), .int p0]) (n := 2) (Nat.le_of_ble_eq_true rfl)
  rw [lg_entry_eq]
  generalize (lg_sl ([.ref (ad 0), .int p0]) ++ List.replicate (2 - (lg_sl ([.ref (ad 0), .int p0])).length) Slot.unset).toArray = ls at hl ⊢
  have hl : lv_has ls 2 [(0, .ref (ad 0)), (1, .int p0)] := hl
  have hts := dr_words hts0 (s.drawn)
  have hK := gKd hK0 (s.drawn)
  have hown : (s.setDrawn (s.drawn)).vm.findClass RX12 = some m.cls := hown0
  refine lv_aload_n hx hb dX12_business_0 rfl (lv_at hl 0 rfl) ?_
  refine lv_iconst (v := 0) hx hb dX12_business_1 (by decide) ?_
  refine va_put (D := (dC, dI)) (ci := 11) (v := .int 0) (C := RX12) (T := TX12) (N := 69) hx hb hts hinX12 tyX12 tyX12_ok nmX12 hown hK hP hD hS 0 (mat_11 rfl) rfl 0 (by decide) (hts (.fieldLink RX12 107 "BondCalendarsModel" "thrown" "I") (by decide +kernel)) (fun _ h9 => h9) rfl (ty := .int) (by decide +kernel) rfl rfl (Nat.le_of_ble_eq_true rfl) dX12_business_2 (fun H locs hP hD hS => ?_)
  obtain ⟨σ1, eσ1, hP, hD⟩ := gPut (mse_11_0 rfl) hP hD
  have hIσ1 : InvM σ1 := by rw [eσ1]; exact minv_I hI (mok_11_0 rfl _)
  have frσ1 : mFr [] [0, 1, 2] σ σ1 := by rw [eσ1]; exact mFr.oI (mFr.rfl (L := []) (F := [0, 1, 2]) (σ := σ)) (by decide)
  refine lv_iload_n hx hb dX12_business_5 rfl (lv_at hl 1 rfl) ?_
  have hF := gFree (w := []) (hx_D0 (A := A)) hS hA
  have hKe := hK.sub (tys' := []) [] rfl
  refine va_calli (va_runS (As := [.int p0]) (rest := []) ⟨hx, hb, hml, hown, hts⟩ (k_X12_isDate l dC dI H.size p0 ) (va_cwS 1 hts gX12_business_X12_isDate rfl rfl rfl (by decide +kernel) ⟨Nat.le_of_ble_eq_true rfl, Nat.le_of_ble_eq_true rfl⟩) ⟨fun a U g mk q => by obtain ⟨q0, q1, qP, qK, qD⟩ := q; exact ⟨q0, q1, qP, va_K.moved (u := U) (U := U.calling g mk a) (Vm.Alike.refl U.vm) qK, qD⟩, fun U hU hW => ⟨rfl, by rw [hU], hx_P0, va_K.moved hW.alike hKe, hx_D0⟩⟩ rfl rfl hl.1 rfl (lv_room (Nat.le_of_ble_eq_true rfl)) dX12_business_6 ⟨Nat.le_of_ble_eq_true rfl, Nat.le_of_ble_eq_true rfl⟩) hS (fun q _ h => hF q h) hF (fun r_1 u t H locs ht hvm hw hB hz1 hk1 hS => ?_)
  have hP := gKeep hP hk1
  have pu_2 : r_1 = f_X12_isDate p0 := hw
  have b0_3 : r_1 = 0 ∨ r_1 = 1 := by rw [pu_2]; exact isDate01 _
  refine lv_if_ne (tgt := 18) hx hb dX12_business_9 (by decide) (fun c_4 => ?_) (fun c_4 => ?_)
  · refine lv_aload_n hx hb dX12_business_18 rfl (lv_at hl 0 rfl) ?_
    refine lv_aload_n hx hb dX12_business_19 rfl (lv_at hl 0 rfl) ?_
    refine lv_iload_n hx hb dX12_business_20 rfl (lv_at hl 1 rfl) ?_
    have hF := gFree (w := []) (hx_D0 (A := A)) hS hA
    have hKe := hK.sub (tys' := []) [] rfl
    refine va_calli (va_runS (As := [.int p0]) (rest := [.ref (ad 0), .ref (ad 0)]) ⟨hx, hb, hml, hown, hts⟩ (k_X12_dayOf l dC dI H.size p0 ) (va_cwS 1 hts gX12_business_X12_dayOf rfl rfl rfl (by decide +kernel) ⟨Nat.le_of_ble_eq_true rfl, Nat.le_of_ble_eq_true rfl⟩) ⟨fun a U g mk q => by obtain ⟨q0, q1, qP, qK, qD⟩ := q; exact ⟨q0, q1, qP, va_K.moved (u := U) (U := U.calling g mk a) (Vm.Alike.refl U.vm) qK, qD⟩, fun U hU hW => ⟨rfl, by rw [hU], hx_P0, va_K.moved hW.alike hKe, hx_D0⟩⟩ rfl rfl hl.1 rfl (lv_room (Nat.le_of_ble_eq_true rfl)) dX12_business_21 ⟨Nat.le_of_ble_eq_true rfl, Nat.le_of_ble_eq_true rfl⟩) hS (fun q _ h => hF q h) hF (fun r_5 u t H locs ht hvm hw hB hz1 hk1 hS => ?_)
    have hP := gKeep hP hk1
    have pu_6 : r_5 = f_X12_dayOf p0 := hw
    have hF := gFree hD hS hA
    refine va_calliD hd0 (va_runV_D (As := [.int r_5]) (rest := [.ref (ad 0)]) ⟨hx, hb, hml, hown, hts⟩ (n_X12_isBusiness l dC dI ad cA adK adV H.size σ1 hIσ1 r_5) (cwV 1 hts gX12_business_X12_isBusiness rfl rfl rfl (by decide +kernel) ⟨Nat.le_of_ble_eq_true rfl, Nat.le_of_ble_eq_true rfl⟩) ⟨gBlind, va_recv hK hP (ci := 11) (q0 := 0) rfl (mat_11 rfl), gStart (As := [.ref (ad 0), .int r_5]) hP hD hK0 hT hS hF (s.drawn)⟩ rfl rfl hl.1 rfl (lv_room (Nat.le_of_ble_eq_true rfl)) dX12_business_24 ⟨Nat.le_of_ble_eq_true rfl, Nat.le_of_ble_eq_true rfl⟩) hS (fun q _ h => hF q h) hF (fun r_7 σ2 t H locs ht hvm hw hB hz1 hk1 hS d_8 hd0 => ?_)
    have hts := dr_words hts0 (d_8)
    have hK := gKd hK0 (d_8)
    have hown : (s.setDrawn (d_8)).vm.findClass RX12 = some m.cls := hown0
    obtain ⟨hP, hD⟩ := gBack hF ht hB
    obtain ⟨hIσ2, hro, hp_9⟩ := hw
    subst hro
    refine lv_if_eq (tgt := 34) hx hb dX12_business_27 (by decide) (fun c_10 => ?_) (fun c_10 => ?_)
    · refine lv_iconst (v := 0) hx hb dX12_business_34 (by decide) ?_
      have hF := gFree hD hS hA
      refine va_calliD hd0 (va_runV_D (As := [.int 0]) (rest := []) ⟨hx, hb, hml, hown, hts⟩ (n_X12_good l dC dI ad cA adK adV H.size σ1 hIσ1 0) (cwV 1 hts gX12_business_X12_good rfl rfl rfl (by decide +kernel) ⟨Nat.le_of_ble_eq_true rfl, Nat.le_of_ble_eq_true rfl⟩) ⟨gBlind, va_recv hK hP (ci := 11) (q0 := 0) rfl (mat_11 rfl), gStart (As := [.ref (ad 0), .int 0]) hP hD hK0 hT hS hF (d_8)⟩ rfl rfl hl.1 rfl (lv_room (Nat.le_of_ble_eq_true rfl)) dX12_business_35 ⟨Nat.le_of_ble_eq_true rfl, Nat.le_of_ble_eq_true rfl⟩) hS (fun q _ h => hF q h) hF (fun r_11 σ3 t H locs ht hvm hw hB hz1 hk1 hS d_12 hd0 => ?_)
      have hts := dr_words hts0 (d_12)
      have hK := gKd hK0 (d_12)
      have hown : (s.setDrawn (d_12)).vm.findClass RX12 = some m.cls := hown0
      obtain ⟨hP, hD⟩ := gBack hF ht hB
      obtain ⟨hIσ3, fcσ3, hp_13⟩ := hw
      refine W.endD hd0 ?_
      exact W.iret (v := r_11) hx hb hr (fun t ht hW => ⟨⟨r_11, σ3, rfl, ⟨hIσ3, (mFr.tr frσ1 fcσ3 (by decide) (by decide)), trivial⟩, ⟨by rw [ht]; exact hP, hD⟩⟩, hS.F ht⟩) hS.2.2 dX12_business_38
    · refine lv_iconst (v := 1) hx hb dX12_business_30 (by decide) ?_
      refine lv_goto (tgt := 35) hx hb dX12_business_31 (by decide) ?_
      have hF := gFree hD hS hA
      refine va_calliD hd0 (va_runV_D (As := [.int 1]) (rest := []) ⟨hx, hb, hml, hown, hts⟩ (n_X12_good l dC dI ad cA adK adV H.size σ1 hIσ1 1) (cwV 1 hts gX12_business_X12_good rfl rfl rfl (by decide +kernel) ⟨Nat.le_of_ble_eq_true rfl, Nat.le_of_ble_eq_true rfl⟩) ⟨gBlind, va_recv hK hP (ci := 11) (q0 := 0) rfl (mat_11 rfl), gStart (As := [.ref (ad 0), .int 1]) hP hD hK0 hT hS hF (d_8)⟩ rfl rfl hl.1 rfl (lv_room (Nat.le_of_ble_eq_true rfl)) dX12_business_35 ⟨Nat.le_of_ble_eq_true rfl, Nat.le_of_ble_eq_true rfl⟩) hS (fun q _ h => hF q h) hF (fun r_14 σ4 t H locs ht hvm hw hB hz1 hk1 hS d_15 hd0 => ?_)
      have hts := dr_words hts0 (d_15)
      have hK := gKd hK0 (d_15)
      have hown : (s.setDrawn (d_15)).vm.findClass RX12 = some m.cls := hown0
      obtain ⟨hP, hD⟩ := gBack hF ht hB
      obtain ⟨hIσ4, fcσ4, hp_16⟩ := hw
      refine W.endD hd0 ?_
      exact W.iret (v := r_14) hx hb hr (fun t ht hW => ⟨⟨r_14, σ4, rfl, ⟨hIσ4, (mFr.tr frσ1 fcσ4 (by decide) (by decide)), trivial⟩, ⟨by rw [ht]; exact hP, hD⟩⟩, hS.F ht⟩) hS.2.2 dX12_business_38
  · refine lv_aload_n hx hb dX12_business_12 rfl (lv_at hl 0 rfl) ?_
    refine lv_iconst (v := 2) hx hb dX12_business_13 (by decide) ?_
    have hF := gFree hD hS hA
    refine va_calliD hd0 (va_runV_D (As := [.int 2]) (rest := []) ⟨hx, hb, hml, hown, hts⟩ (n_X12_refused l dC dI ad cA adK adV H.size σ1 hIσ1 2) (cwV 1 hts gX12_business_X12_refused rfl rfl rfl (by decide +kernel) ⟨Nat.le_of_ble_eq_true rfl, Nat.le_of_ble_eq_true rfl⟩) ⟨gBlind, va_recv hK hP (ci := 11) (q0 := 0) rfl (mat_11 rfl), gStart (As := [.ref (ad 0), .int 2]) hP hD hK0 hT hS hF (s.drawn)⟩ rfl rfl hl.1 rfl (lv_room (Nat.le_of_ble_eq_true rfl)) dX12_business_14 ⟨Nat.le_of_ble_eq_true rfl, Nat.le_of_ble_eq_true rfl⟩) hS (fun q _ h => hF q h) hF (fun r_17 σ5 t H locs ht hvm hw hB hz1 hk1 hS d_18 hd0 => ?_)
    have hts := dr_words hts0 (d_18)
    have hK := gKd hK0 (d_18)
    have hown : (s.setDrawn (d_18)).vm.findClass RX12 = some m.cls := hown0
    obtain ⟨hP, hD⟩ := gBack hF ht hB
    obtain ⟨hIσ5, fcσ5, hp_19⟩ := hw
    refine W.endD hd0 ?_
    exact W.iret (v := r_17) hx hb hr (fun t ht hW => ⟨⟨r_17, σ5, rfl, ⟨hIσ5, (mFr.tr frσ1 fcσ5 (by decide) (by decide)), trivial⟩, ⟨by rw [ht]; exact hP, hD⟩⟩, hS.F ht⟩) hS.2.2 dX12_business_17
set_option maxHeartbeats 8000000 in
set_option maxRecDepth 100000 in
theorem n_X12_businessAfter (l : Launch) (dC : Nat → ClassId) (dI : Nat → Nat → Nat) (ad : Nat → Nat) (cA : Nat → ClassId) (adK adV : Nat → Nat) (sz : Nat) (σ : gs) (hI : InvM σ) (p0 : Int32) (p1 : Int32) (hh0 : -1000000 ≤ p0) (hh1 : p0 ≤ 5000000) (hh2 : -60 ≤ p1) (hh3 : p1 ≤ 60) : MetD lw_cs l yX12_businessAfter wsX12_businessAfter ({ frames := 4, cells := 0, slots := 0, locals := 85 }) (va_Pc [.ref (ad 0), .int p0, .int p1] (gPre adK adV (dC, dI) (wM ad cA σ) (tM cA) sz)) (va_Qi (fun (r : Int32) (τ : gs) => InvM τ ∧ σ = τ ∧ (r.toInt ≤ p0.toInt + 212 ∧ p0.toInt - 212 ≤ r.toInt)) (fun τ t => gPost (dC, dI) (va_A (wM ad cA σ) sz) (wM ad cA τ) t) (va_A (wM ad cA σ) sz)) 0 0 (va_A (wM ad cA σ) sz) := by
  refine MetD.ofW (cc := cX12_businessAfter) (maxL := 6) (ret := (some .int)) (by decide) rfl ?_
  intro p e s m args below meth c s₁ B hml hv hd0
  obtain ⟨rfl, hsz, hP, hK, hD0, hT⟩ := hv
  have hx := B.exec
  have hb := B.bytes
  have hr := B.returns
  have hts0 := atoms_spec (ws := wsX12_businessAfter) B.pre
  have hK0 := hK
  have hown0 : s.vm.findClass RX12 = some m.cls := findClass_of_methodNamed B.named
  have hlocks := B.notSynchronized
  subst hsz
  have hD := hD0.self (sz := s.heap.size)
  generalize hAe : va_A (wM ad cA σ) s.heap.size = A at hD hT ⊢
  have hA : ∀ q : Nat, s.heap.size ≤ q → A q := fun q h => by rw [← hAe]; exact Or.inr h
  have hS : va_S A s.heap s.heap [] := va_S.rf
  have hl := lv_entry ([.ref (ad 0), .int p0, .int p1]) (n := 6) (Nat.le_of_ble_eq_true rfl)
  rw [lg_entry_eq]
  generalize (lg_sl ([.ref (ad 0), .int p0, .int p1]) ++ List.replicate (6 - (lg_sl ([.ref (ad 0), .int p0, .int p1])).length) Slot.unset).toArray = ls at hl ⊢
  have hl : lv_has ls 6 [(0, .ref (ad 0)), (1, .int p0), (2, .int p1)] := hl
  have hts := dr_words hts0 (s.drawn)
  have hK := gKd hK0 (s.drawn)
  have hown : (s.setDrawn (s.drawn)).vm.findClass RX12 = some m.cls := hown0
  refine lv_iload_n hx hb dX12_businessAfter_0 rfl (lv_at hl 2 rfl) ?_
  refine lv_if_ge (tgt := 8) hx hb dX12_businessAfter_1 (by decide) (fun c_1 => ?_) (fun c_1 => ?_)
  · refine lv_iconst (v := 1) hx hb dX12_businessAfter_8 (by decide) ?_
    refine lv_istore_n (lv' := [(3, .int 1), (0, .ref (ad 0)), (1, .int p0), (2, .int p1)]) hx hb dX12_businessAfter_9 rfl hl (by decide) rfl (fun ls hl => ?_)
    refine lv_iload_n hx hb dX12_businessAfter_10 rfl (lv_at hl 3 rfl) ?_
    refine lv_if_ge (tgt := 19) hx hb dX12_businessAfter_11 (by decide) (fun c_2 => ?_) (fun c_2 => ?_)
    · refine lv_iload_n hx hb dX12_businessAfter_19 rfl (lv_at hl 3 rfl) ?_
      refine lv_istore (lv' := [(4, .int p1), (3, .int 1), (0, .ref (ad 0)), (1, .int p0), (2, .int p1)]) hx hb dX12_businessAfter_20 hl (by decide) rfl (fun ls hl => ?_)
      refine lv_iload_n hx hb dX12_businessAfter_22 rfl (lv_at hl 3 rfl) ?_
      refine lv_istore (lv' := [(5, .int p0), (4, .int p1), (3, .int 1), (0, .ref (ad 0)), (1, .int p0), (2, .int p1)]) hx hb dX12_businessAfter_23 hl (by decide) rfl (fun ls hl => ?_)
      refine (fun (h : ∀ (n : Nat) (lf : Int32) (aa : Int32) (d25 : Drawn) (H : Heap) (locs : List Loc) (ls : Array Slot), bms σ 1 aa.toInt lf.toInt < n → BI σ p0 1 aa lf.toInt → lf ≤ 60 → s.drawn.sameBut d25 lw_cs → va_P (dC, dI) vwCl (wM ad cA σ) H → va_D A (wM ad cA σ) → va_S A s.heap H locs → lv_has ls 6 [(5, .int aa), (4, .int lf), (3, .int 1), (0, .ref (ad 0)), (1, .int p0), (2, .int p1)] → W p l e _ (s.setDrawn d25) m _ below meth c H locs _ _ _ (F0 m 25 ls [])) => h _ p1 p0 _ _ _ _ (Nat.lt_succ_self _) (bi_0 hI hh3) hh3 hd0 hP hD hS (lv_sub hl [0, 1, 2, 3, 4, 5] rfl)) ?_
      intro n25
      induction n25 with
      | zero => intro lf aa  d25 H locs ls hm; exact absurd hm (Nat.not_lt_zero _)
      | succ n25 ih25 =>
        intro lf aa  d25 H locs ls hm25 iv25_0 iv25_1  hd0 hP hD hS hl
        have hts := dr_words hts0 (d25)
        have hK := gKd hK0 (d25)
        have hown : (s.setDrawn (d25)).vm.findClass RX12 = some m.cls := hown0
        refine lv_iload hx hb dX12_businessAfter_25 (lv_at hl 1 rfl) ?_
        refine lv_if_le (tgt := 58) hx hb dX12_businessAfter_27 (by decide) (fun c_3 => ?_) (fun c_3 => ?_)
        · refine lv_iload hx hb dX12_businessAfter_58 (lv_at hl 0 rfl) ?_
          refine W.endD hd0 ?_
          exact W.iret (v := aa) hx hb hr (fun t ht hW => ⟨⟨aa, σ, rfl, ⟨hI, rfl, ⟨(bi_e (Or.inl rfl) iv25_0).2, (bi_e (Or.inl rfl) iv25_0).1⟩⟩, ⟨by rw [ht]; exact hP, hD⟩⟩, hS.F ht⟩) hS.2.2 dX12_businessAfter_60
        · refine lv_iload hx hb dX12_businessAfter_30 (lv_at hl 0 rfl) ?_
          refine lv_iload_n hx hb dX12_businessAfter_32 rfl (lv_at hl 2 rfl) ?_
          refine lv_iadd hx hb dX12_businessAfter_33 ?_
          refine lv_topi (fun x_4 ex_4 => ?_)
          refine lv_istore (lv' := [(5, .int x_4), (4, .int lf), (3, .int 1), (0, .ref (ad 0)), (1, .int p0), (2, .int p1)]) hx hb dX12_businessAfter_34 hl (by decide) rfl (fun ls hl => ?_)
          refine lv_iload hx hb dX12_businessAfter_36 (lv_at hl 1 rfl) ?_
          refine lv_aload_n hx hb dX12_businessAfter_38 rfl (lv_at hl 3 rfl) ?_
          refine lv_iload hx hb dX12_businessAfter_39 (lv_at hl 0 rfl) ?_
          have hF := gFree hD hS hA
          refine va_calliD hd0 (va_runV_D (As := [.int x_4]) (rest := [.int lf]) ⟨hx, hb, hml, hown, hts⟩ (n_X12_isBusiness l dC dI ad cA adK adV H.size σ hI x_4) (cwV 1 hts gX12_businessAfter_X12_isBusiness rfl rfl rfl (by decide +kernel) ⟨Nat.le_of_ble_eq_true rfl, Nat.le_of_ble_eq_true rfl⟩) ⟨gBlind, va_recv hK hP (ci := 11) (q0 := 0) rfl (mat_11 rfl), gStart (As := [.ref (ad 0), .int x_4]) hP hD hK0 hT hS hF (d25)⟩ rfl rfl hl.1 rfl (lv_room (Nat.le_of_ble_eq_true rfl)) dX12_businessAfter_41 ⟨Nat.le_of_ble_eq_true rfl, Nat.le_of_ble_eq_true rfl⟩) hS (fun q _ h => hF q h) hF (fun r_5 σ1 t H locs ht hvm hw hB hz1 hk1 hS d_6 hd0 => ?_)
          have hts := dr_words hts0 (d_6)
          have hK := gKd hK0 (d_6)
          have hown : (s.setDrawn (d_6)).vm.findClass RX12 = some m.cls := hown0
          obtain ⟨hP, hD⟩ := gBack hF ht hB
          obtain ⟨hIσ1, hro, hp_7⟩ := hw
          subst hro
          refine lv_if_eq (tgt := 51) hx hb dX12_businessAfter_44 (by decide) (fun c_8 => ?_) (fun c_8 => ?_)
          · refine lv_iconst (v := 0) hx hb dX12_businessAfter_51 (by decide) ?_
            refine lv_isub hx hb dX12_businessAfter_52 ?_
            refine lv_topi (fun x_9 ex_9 => ?_)
            refine lv_istore (lv' := [(4, .int x_9), (5, .int x_4), (3, .int 1), (0, .ref (ad 0)), (1, .int p0), (2, .int p1)]) hx hb dX12_businessAfter_53 hl (by decide) rfl (fun ls hl => ?_)
            refine lv_goto (tgt := 25) hx hb dX12_businessAfter_55 (by decide) ?_
            exact ih25 x_9 x_4 _ _ _ _ (Nat.lt_of_lt_of_le (bi_s (s := 1) (Or.inl rfl) (c := 1) (by decide) hh0 hh1 iv25_0 ex_4 (Int32.not_le.mp c_3) (Or.inl ⟨hp_7.2 c_8, (bi_l (r := 0) (Int32.not_le.mp c_3) iv25_1 ex_9 (Or.inl rfl)).1 rfl⟩)).2 (Nat.le_of_lt_succ hm25)) (bi_s (s := 1) (Or.inl rfl) (c := 1) (by decide) hh0 hh1 iv25_0 ex_4 (Int32.not_le.mp c_3) (Or.inl ⟨hp_7.2 c_8, (bi_l (r := 0) (Int32.not_le.mp c_3) iv25_1 ex_9 (Or.inl rfl)).1 rfl⟩)).1 (bi_l (r := 0) (Int32.not_le.mp c_3) iv25_1 ex_9 (Or.inl rfl)).2.2.1 hd0 hP hD hS (lv_sub hl [1, 0, 2, 3, 4, 5] rfl)
          · refine lv_iconst (v := 1) hx hb dX12_businessAfter_47 (by decide) ?_
            refine lv_goto (tgt := 52) hx hb dX12_businessAfter_48 (by decide) ?_
            refine lv_isub hx hb dX12_businessAfter_52 ?_
            refine lv_topi (fun x_10 ex_10 => ?_)
            refine lv_istore (lv' := [(4, .int x_10), (5, .int x_4), (3, .int 1), (0, .ref (ad 0)), (1, .int p0), (2, .int p1)]) hx hb dX12_businessAfter_53 hl (by decide) rfl (fun ls hl => ?_)
            refine lv_goto (tgt := 25) hx hb dX12_businessAfter_55 (by decide) ?_
            exact ih25 x_10 x_4 _ _ _ _ (Nat.lt_of_lt_of_le (bi_s (s := 1) (Or.inl rfl) (c := 1) (by decide) hh0 hh1 iv25_0 ex_4 (Int32.not_le.mp c_3) (Or.inr ((bi_l (r := 1) (Int32.not_le.mp c_3) iv25_1 ex_10 (Or.inr rfl)).2.1 rfl))).2 (Nat.le_of_lt_succ hm25)) (bi_s (s := 1) (Or.inl rfl) (c := 1) (by decide) hh0 hh1 iv25_0 ex_4 (Int32.not_le.mp c_3) (Or.inr ((bi_l (r := 1) (Int32.not_le.mp c_3) iv25_1 ex_10 (Or.inr rfl)).2.1 rfl))).1 (bi_l (r := 1) (Int32.not_le.mp c_3) iv25_1 ex_10 (Or.inr rfl)).2.2.1 hd0 hP hD hS (lv_sub hl [1, 0, 2, 3, 4, 5] rfl)
    · exact absurd c_1 c_2
  · refine lv_iconst (v := (-1)) hx hb dX12_businessAfter_4 (by decide) ?_
    refine lv_goto (tgt := 9) hx hb dX12_businessAfter_5 (by decide) ?_
    refine lv_istore_n (lv' := [(3, .int (-1)), (0, .ref (ad 0)), (1, .int p0), (2, .int p1)]) hx hb dX12_businessAfter_9 rfl hl (by decide) rfl (fun ls hl => ?_)
    refine lv_iload_n hx hb dX12_businessAfter_10 rfl (lv_at hl 3 rfl) ?_
    refine lv_if_ge (tgt := 19) hx hb dX12_businessAfter_11 (by decide) (fun c_11 => ?_) (fun c_11 => ?_)
    · exact absurd c_11 c_1
    · refine lv_iload_n hx hb dX12_businessAfter_14 rfl (lv_at hl 3 rfl) ?_
      refine lv_ineg hx hb dX12_businessAfter_15 ?_
      refine lv_goto (tgt := 20) hx hb dX12_businessAfter_16 (by decide) ?_
      refine lv_topi (fun x_12 ex_12 => ?_)
      refine lv_istore (lv' := [(4, .int x_12), (3, .int (-1)), (0, .ref (ad 0)), (1, .int p0), (2, .int p1)]) hx hb dX12_businessAfter_20 hl (by decide) rfl (fun ls hl => ?_)
      refine lv_iload_n hx hb dX12_businessAfter_22 rfl (lv_at hl 3 rfl) ?_
      refine lv_istore (lv' := [(5, .int p0), (4, .int x_12), (3, .int (-1)), (0, .ref (ad 0)), (1, .int p0), (2, .int p1)]) hx hb dX12_businessAfter_23 hl (by decide) rfl (fun ls hl => ?_)
      refine (fun (h : ∀ (n : Nat) (lf : Int32) (aa : Int32) (d25 : Drawn) (H : Heap) (locs : List Loc) (ls : Array Slot), bms σ (-1) aa.toInt lf.toInt < n → BI σ p0 (-1) aa lf.toInt → lf ≤ 60 → s.drawn.sameBut d25 lw_cs → va_P (dC, dI) vwCl (wM ad cA σ) H → va_D A (wM ad cA σ) → va_S A s.heap H locs → lv_has ls 6 [(5, .int aa), (4, .int lf), (3, .int (-1)), (0, .ref (ad 0)), (1, .int p0), (2, .int p1)] → W p l e _ (s.setDrawn d25) m _ below meth c H locs _ _ _ (F0 m 25 ls [])) => h _ x_12 p0 _ _ _ _ (Nat.lt_succ_self _) (bi_0 hI (neg_le (a := (-60)) hh2 ex_12 (by decide))) (neg_le (a := (-60)) hh2 ex_12 (by decide)) hd0 hP hD hS (lv_sub hl [0, 1, 2, 3, 4, 5] rfl)) ?_
      intro n25
      induction n25 with
      | zero => intro lf aa  d25 H locs ls hm; exact absurd hm (Nat.not_lt_zero _)
      | succ n25 ih25 =>
        intro lf aa  d25 H locs ls hm25 iv25_0 iv25_1  hd0 hP hD hS hl
        have hts := dr_words hts0 (d25)
        have hK := gKd hK0 (d25)
        have hown : (s.setDrawn (d25)).vm.findClass RX12 = some m.cls := hown0
        refine lv_iload hx hb dX12_businessAfter_25 (lv_at hl 1 rfl) ?_
        refine lv_if_le (tgt := 58) hx hb dX12_businessAfter_27 (by decide) (fun c_13 => ?_) (fun c_13 => ?_)
        · refine lv_iload hx hb dX12_businessAfter_58 (lv_at hl 0 rfl) ?_
          refine W.endD hd0 ?_
          exact W.iret (v := aa) hx hb hr (fun t ht hW => ⟨⟨aa, σ, rfl, ⟨hI, rfl, ⟨(bi_e (Or.inr rfl) iv25_0).2, (bi_e (Or.inr rfl) iv25_0).1⟩⟩, ⟨by rw [ht]; exact hP, hD⟩⟩, hS.F ht⟩) hS.2.2 dX12_businessAfter_60
        · refine lv_iload hx hb dX12_businessAfter_30 (lv_at hl 0 rfl) ?_
          refine lv_iload_n hx hb dX12_businessAfter_32 rfl (lv_at hl 2 rfl) ?_
          refine lv_iadd hx hb dX12_businessAfter_33 ?_
          refine lv_topi (fun x_14 ex_14 => ?_)
          refine lv_istore (lv' := [(5, .int x_14), (4, .int lf), (3, .int (-1)), (0, .ref (ad 0)), (1, .int p0), (2, .int p1)]) hx hb dX12_businessAfter_34 hl (by decide) rfl (fun ls hl => ?_)
          refine lv_iload hx hb dX12_businessAfter_36 (lv_at hl 1 rfl) ?_
          refine lv_aload_n hx hb dX12_businessAfter_38 rfl (lv_at hl 3 rfl) ?_
          refine lv_iload hx hb dX12_businessAfter_39 (lv_at hl 0 rfl) ?_
          have hF := gFree hD hS hA
          refine va_calliD hd0 (va_runV_D (As := [.int x_14]) (rest := [.int lf]) ⟨hx, hb, hml, hown, hts⟩ (n_X12_isBusiness l dC dI ad cA adK adV H.size σ hI x_14) (cwV 1 hts gX12_businessAfter_X12_isBusiness rfl rfl rfl (by decide +kernel) ⟨Nat.le_of_ble_eq_true rfl, Nat.le_of_ble_eq_true rfl⟩) ⟨gBlind, va_recv hK hP (ci := 11) (q0 := 0) rfl (mat_11 rfl), gStart (As := [.ref (ad 0), .int x_14]) hP hD hK0 hT hS hF (d25)⟩ rfl rfl hl.1 rfl (lv_room (Nat.le_of_ble_eq_true rfl)) dX12_businessAfter_41 ⟨Nat.le_of_ble_eq_true rfl, Nat.le_of_ble_eq_true rfl⟩) hS (fun q _ h => hF q h) hF (fun r_15 σ2 t H locs ht hvm hw hB hz1 hk1 hS d_16 hd0 => ?_)
          have hts := dr_words hts0 (d_16)
          have hK := gKd hK0 (d_16)
          have hown : (s.setDrawn (d_16)).vm.findClass RX12 = some m.cls := hown0
          obtain ⟨hP, hD⟩ := gBack hF ht hB
          obtain ⟨hIσ2, hro, hp_17⟩ := hw
          subst hro
          refine lv_if_eq (tgt := 51) hx hb dX12_businessAfter_44 (by decide) (fun c_18 => ?_) (fun c_18 => ?_)
          · refine lv_iconst (v := 0) hx hb dX12_businessAfter_51 (by decide) ?_
            refine lv_isub hx hb dX12_businessAfter_52 ?_
            refine lv_topi (fun x_19 ex_19 => ?_)
            refine lv_istore (lv' := [(4, .int x_19), (5, .int x_14), (3, .int (-1)), (0, .ref (ad 0)), (1, .int p0), (2, .int p1)]) hx hb dX12_businessAfter_53 hl (by decide) rfl (fun ls hl => ?_)
            refine lv_goto (tgt := 25) hx hb dX12_businessAfter_55 (by decide) ?_
            exact ih25 x_19 x_14 _ _ _ _ (Nat.lt_of_lt_of_le (bi_s (s := (-1)) (Or.inr rfl) (c := (-1)) (by decide) hh0 hh1 iv25_0 ex_14 (Int32.not_le.mp c_13) (Or.inl ⟨hp_17.2 c_18, (bi_l (r := 0) (Int32.not_le.mp c_13) iv25_1 ex_19 (Or.inl rfl)).1 rfl⟩)).2 (Nat.le_of_lt_succ hm25)) (bi_s (s := (-1)) (Or.inr rfl) (c := (-1)) (by decide) hh0 hh1 iv25_0 ex_14 (Int32.not_le.mp c_13) (Or.inl ⟨hp_17.2 c_18, (bi_l (r := 0) (Int32.not_le.mp c_13) iv25_1 ex_19 (Or.inl rfl)).1 rfl⟩)).1 (bi_l (r := 0) (Int32.not_le.mp c_13) iv25_1 ex_19 (Or.inl rfl)).2.2.1 hd0 hP hD hS (lv_sub hl [1, 0, 2, 3, 4, 5] rfl)
          · refine lv_iconst (v := 1) hx hb dX12_businessAfter_47 (by decide) ?_
            refine lv_goto (tgt := 52) hx hb dX12_businessAfter_48 (by decide) ?_
            refine lv_isub hx hb dX12_businessAfter_52 ?_
            refine lv_topi (fun x_20 ex_20 => ?_)
            refine lv_istore (lv' := [(4, .int x_20), (5, .int x_14), (3, .int (-1)), (0, .ref (ad 0)), (1, .int p0), (2, .int p1)]) hx hb dX12_businessAfter_53 hl (by decide) rfl (fun ls hl => ?_)
            refine lv_goto (tgt := 25) hx hb dX12_businessAfter_55 (by decide) ?_
            exact ih25 x_20 x_14 _ _ _ _ (Nat.lt_of_lt_of_le (bi_s (s := (-1)) (Or.inr rfl) (c := (-1)) (by decide) hh0 hh1 iv25_0 ex_14 (Int32.not_le.mp c_13) (Or.inr ((bi_l (r := 1) (Int32.not_le.mp c_13) iv25_1 ex_20 (Or.inr rfl)).2.1 rfl))).2 (Nat.le_of_lt_succ hm25)) (bi_s (s := (-1)) (Or.inr rfl) (c := (-1)) (by decide) hh0 hh1 iv25_0 ex_14 (Int32.not_le.mp c_13) (Or.inr ((bi_l (r := 1) (Int32.not_le.mp c_13) iv25_1 ex_20 (Or.inr rfl)).2.1 rfl))).1 (bi_l (r := 1) (Int32.not_le.mp c_13) iv25_1 ex_20 (Or.inr rfl)).2.2.1 hd0 hP hD hS (lv_sub hl [1, 0, 2, 3, 4, 5] rfl)
set_option maxHeartbeats 8000000 in
set_option maxRecDepth 100000 in
theorem n_X12_dateOf (l : Launch) (dC : Nat → ClassId) (dI : Nat → Nat → Nat) (ad : Nat → Nat) (cA : Nat → ClassId) (adK adV : Nat → Nat) (sz : Nat) (σ : gs) (hI : InvM σ) (p0 : Int32) (hh0 : -1000000 ≤ p0) : MetD lw_cs l yX12_dateOf wsX12_dateOf ({ frames := 1, cells := 0, slots := 0, locals := 20 }) (va_Pc [.int p0] (gPre adK adV (dC, dI) (wM ad cA σ) (tM cA) sz)) (va_Qi (fun (r : Int32) (τ : gs) => InvM τ ∧ σ = τ ∧ (700000 ≤ p0 → p0 ≤ 800000 → f_X12_dayOf r = p0)) (fun τ t => gPost (dC, dI) (va_A (wM ad cA σ) sz) (wM ad cA τ) t) (va_A (wM ad cA σ) sz)) 0 0 (va_A (wM ad cA σ) sz) := by
  refine MetD.ofW (cc := cX12_dateOf) (maxL := 5) (ret := (some .int)) (by decide) rfl ?_
  intro p e s m args below meth c s₁ B hml hv hd0
  obtain ⟨rfl, hsz, hP, hK, hD0, hT⟩ := hv
  have hx := B.exec
  have hb := B.bytes
  have hr := B.returns
  have hts0 := atoms_spec (ws := wsX12_dateOf) B.pre
  have hK0 := hK
  have hown0 : s.vm.findClass RX12 = some m.cls := findClass_of_methodNamed B.named
  have hlocks := B.notSynchronized
  subst hsz
  have hD := hD0.self (sz := s.heap.size)
  generalize hAe : va_A (wM ad cA σ) s.heap.size = A at hD hT ⊢
  have hA : ∀ q : Nat, s.heap.size ≤ q → A q := fun q h => by rw [← hAe]; exact Or.inr h
  have hS : va_S A s.heap s.heap [] := va_S.rf
  have hl := lv_entry ([.int p0]) (n := 5) (Nat.le_of_ble_eq_true rfl)
  rw [lg_entry_eq]
  generalize (lg_sl ([.int p0]) ++ List.replicate (5 - (lg_sl ([.int p0])).length) Slot.unset).toArray = ls at hl ⊢
  have hl : lv_has ls 5 [(0, .int p0)] := hl
  have hts := dr_words hts0 (s.drawn)
  have hK := gKd hK0 (s.drawn)
  have hown : (s.setDrawn (s.drawn)).vm.findClass RX12 = some m.cls := hown0
  refine lv_iload_n hx hb dX12_dateOf_0 rfl (lv_at hl 0 rfl) ?_
  refine lv_sipush (v := 365) hx hb dX12_dateOf_1 (by decide) ?_
  refine lv_idiv hx hb dX12_dateOf_4 (by decide) ?_
  refine lv_topi (fun x_1 ex_1 => ?_)
  refine lv_istore_n (lv' := [(1, .int x_1), (0, .int p0)]) hx hb dX12_dateOf_5 rfl hl (by decide) rfl (fun ls hl => ?_)
  refine (fun (h : ∀ (n : Nat) (yy : Int32) (d6 : Drawn) (H : Heap) (locs : List Loc) (ls : Array Slot), (yy.toInt + 2741).toNat < n → DY p0 yy → s.drawn.sameBut d6 lw_cs → va_P (dC, dI) vwCl (wM ad cA σ) H → va_D A (wM ad cA σ) → va_S A s.heap H locs → lv_has ls 5 [(1, .int yy), (0, .int p0)] → W p l e _ (s.setDrawn d6) m _ below meth c H locs _ _ _ (F0 m 6 ls [])) => h _ x_1 _ _ _ _ (Nat.lt_succ_self _) (dy_0 hh0 ex_1) hd0 hP hD hS (lv_sub hl [0, 1] rfl)) ?_
  intro n6
  induction n6 with
  | zero => intro yy  d6 H locs ls hm; exact absurd hm (Nat.not_lt_zero _)
  | succ n6 ih6 =>
    intro yy  d6 H locs ls hm6 iv6_0  hd0 hP hD hS hl
    have hts := dr_words hts0 (d6)
    have hK := gKd hK0 (d6)
    have hown : (s.setDrawn (d6)).vm.findClass RX12 = some m.cls := hown0
    refine lv_iload_n hx hb dX12_dateOf_6 rfl (lv_at hl 0 rfl) ?_
    have hF := gFree (w := []) (hx_D0 (A := A)) hS hA
    have hKe := hK.sub (tys' := []) [] rfl
    refine va_calli (va_runS (As := [.int yy]) (rest := []) ⟨hx, hb, hml, hown, hts⟩ (k_X12_march l dC dI H.size yy ) (va_cwS 1 hts gX12_dateOf_X12_march rfl rfl rfl (by decide +kernel) ⟨Nat.le_of_ble_eq_true rfl, Nat.le_of_ble_eq_true rfl⟩) ⟨fun a U g mk q => by obtain ⟨q0, q1, qP, qK, qD⟩ := q; exact ⟨q0, q1, qP, va_K.moved (u := U) (U := U.calling g mk a) (Vm.Alike.refl U.vm) qK, qD⟩, fun U hU hW => ⟨rfl, by rw [hU], hx_P0, va_K.moved hW.alike hKe, hx_D0⟩⟩ rfl rfl hl.1 rfl (lv_room (Nat.le_of_ble_eq_true rfl)) dX12_dateOf_7 ⟨Nat.le_of_ble_eq_true rfl, Nat.le_of_ble_eq_true rfl⟩) hS (fun q _ h => hF q h) hF (fun r_2 u t H locs ht hvm hw hB hz1 hk1 hS => ?_)
    have hP := gKeep hP hk1
    have pu_3 : r_2 = f_X12_march yy := hw
    refine lv_iload_n hx hb dX12_dateOf_10 rfl (lv_at hl 1 rfl) ?_
    refine lv_icmp_le (tgt := 20) hx hb dX12_dateOf_11 (by decide) (fun c_4 => ?_) (fun c_4 => ?_)
    · refine lv_iload_n hx hb dX12_dateOf_20 rfl (lv_at hl 1 rfl) ?_
      refine lv_iload_n hx hb dX12_dateOf_21 rfl (lv_at hl 0 rfl) ?_
      have hF := gFree (w := []) (hx_D0 (A := A)) hS hA
      have hKe := hK.sub (tys' := []) [] rfl
      refine va_calli (va_runS (As := [.int yy]) (rest := [.int p0]) ⟨hx, hb, hml, hown, hts⟩ (k_X12_march l dC dI H.size yy ) (va_cwS 1 hts gX12_dateOf_X12_march rfl rfl rfl (by decide +kernel) ⟨Nat.le_of_ble_eq_true rfl, Nat.le_of_ble_eq_true rfl⟩) ⟨fun a U g mk q => by obtain ⟨q0, q1, qP, qK, qD⟩ := q; exact ⟨q0, q1, qP, va_K.moved (u := U) (U := U.calling g mk a) (Vm.Alike.refl U.vm) qK, qD⟩, fun U hU hW => ⟨rfl, by rw [hU], hx_P0, va_K.moved hW.alike hKe, hx_D0⟩⟩ rfl rfl hl.1 rfl (lv_room (Nat.le_of_ble_eq_true rfl)) dX12_dateOf_22 ⟨Nat.le_of_ble_eq_true rfl, Nat.le_of_ble_eq_true rfl⟩) hS (fun q _ h => hF q h) hF (fun r_5 u t H locs ht hvm hw hB hz1 hk1 hS => ?_)
      have hP := gKeep hP hk1
      have pu_6 : r_5 = f_X12_march yy := hw
      refine lv_isub hx hb dX12_dateOf_25 ?_
      refine lv_topi (fun x_7 ex_7 => ?_)
      refine lv_istore_n (lv' := [(2, .int x_7), (1, .int yy), (0, .int p0)]) hx hb dX12_dateOf_26 rfl hl (by decide) rfl (fun ls hl => ?_)
      refine lv_iconst (v := 5) hx hb dX12_dateOf_27 (by decide) ?_
      refine lv_iload_n hx hb dX12_dateOf_28 rfl (lv_at hl 0 rfl) ?_
      refine lv_imul hx hb dX12_dateOf_29 ?_
      refine lv_topi (fun x_8 ex_8 => ?_)
      refine lv_iconst (v := 2) hx hb dX12_dateOf_30 (by decide) ?_
      refine lv_iadd hx hb dX12_dateOf_31 ?_
      refine lv_topi (fun x_9 ex_9 => ?_)
      refine lv_sipush (v := 153) hx hb dX12_dateOf_32 (by decide) ?_
      refine lv_idiv hx hb dX12_dateOf_35 (by decide) ?_
      refine lv_topi (fun x_10 ex_10 => ?_)
      refine lv_istore_n (lv' := [(3, .int x_10), (2, .int x_7), (1, .int yy), (0, .int p0)]) hx hb dX12_dateOf_36 rfl hl (by decide) rfl (fun ls hl => ?_)
      refine lv_iload_n hx hb dX12_dateOf_37 rfl (lv_at hl 1 rfl) ?_
      refine lv_sipush (v := 153) hx hb dX12_dateOf_38 (by decide) ?_
      refine lv_iload_n hx hb dX12_dateOf_41 rfl (lv_at hl 0 rfl) ?_
      refine lv_imul hx hb dX12_dateOf_42 ?_
      refine lv_topi (fun x_11 ex_11 => ?_)
      refine lv_iconst (v := 2) hx hb dX12_dateOf_43 (by decide) ?_
      refine lv_iadd hx hb dX12_dateOf_44 ?_
      refine lv_topi (fun x_12 ex_12 => ?_)
      refine lv_iconst (v := 5) hx hb dX12_dateOf_45 (by decide) ?_
      refine lv_idiv hx hb dX12_dateOf_46 (by decide) ?_
      refine lv_topi (fun x_13 ex_13 => ?_)
      refine lv_isub hx hb dX12_dateOf_47 ?_
      refine lv_topi (fun x_14 ex_14 => ?_)
      refine lv_iconst (v := 1) hx hb dX12_dateOf_48 (by decide) ?_
      refine lv_iadd hx hb dX12_dateOf_49 ?_
      refine lv_topi (fun x_15 ex_15 => ?_)
      refine lv_istore (lv' := [(4, .int x_15), (3, .int x_10), (2, .int x_7), (1, .int yy), (0, .int p0)]) hx hb dX12_dateOf_50 hl (by decide) rfl (fun ls hl => ?_)
      refine lv_iload_n hx hb dX12_dateOf_52 rfl (lv_at hl 1 rfl) ?_
      refine lv_bipush (v := 10) hx hb dX12_dateOf_53 (by decide) ?_
      refine lv_icmp_ge (tgt := 76) hx hb dX12_dateOf_55 (by decide) (fun c_16 => ?_) (fun c_16 => ?_)
      · refine lv_sipush (v := 10000) hx hb dX12_dateOf_76 (by decide) ?_
        refine lv_iload_n hx hb dX12_dateOf_79 rfl (lv_at hl 3 rfl) ?_
        refine lv_iconst (v := 1) hx hb dX12_dateOf_80 (by decide) ?_
        refine lv_iadd hx hb dX12_dateOf_81 ?_
        refine lv_topi (fun x_17 ex_17 => ?_)
        refine lv_imul hx hb dX12_dateOf_82 ?_
        refine lv_topi (fun x_18 ex_18 => ?_)
        refine lv_bipush (v := 100) hx hb dX12_dateOf_83 (by decide) ?_
        refine lv_iload_n hx hb dX12_dateOf_85 rfl (lv_at hl 1 rfl) ?_
        refine lv_bipush (v := 9) hx hb dX12_dateOf_86 (by decide) ?_
        refine lv_isub hx hb dX12_dateOf_88 ?_
        refine lv_topi (fun x_19 ex_19 => ?_)
        refine lv_imul hx hb dX12_dateOf_89 ?_
        refine lv_topi (fun x_20 ex_20 => ?_)
        refine lv_iadd hx hb dX12_dateOf_90 ?_
        refine lv_topi (fun x_21 ex_21 => ?_)
        refine lv_iload hx hb dX12_dateOf_91 (lv_at hl 0 rfl) ?_
        refine lv_iadd hx hb dX12_dateOf_93 ?_
        refine lv_topi (fun x_22 ex_22 => ?_)
        refine W.endD hd0 ?_
        exact W.iret (v := x_22) hx hb hr (fun t ht hW => ⟨⟨x_22, σ, rfl, ⟨hI, rfl, (fun q1 q2 => by obtain ⟨Y, F, D, w1, w2, w3, w4, w5, w6, w7, w8, w9, w10⟩ := dt_tail q1 q2 iv6_0 pu_3 c_4 pu_6 ex_7 ex_8 ex_9 ex_10 ex_11 ex_12 ex_13 ⟨_, ex_14, ex_15⟩; exact dt_b w1 w2 w3 w4 w5 w6 w7 w8 w9 w10 c_16 ex_17 ex_18 ex_19 ex_20 ex_21 ex_22)⟩, ⟨by rw [ht]; exact hP, hD⟩⟩, hS.F ht⟩) hS.2.2 dX12_dateOf_94
      · refine lv_sipush (v := 10000) hx hb dX12_dateOf_58 (by decide) ?_
        refine lv_iload_n hx hb dX12_dateOf_61 rfl (lv_at hl 3 rfl) ?_
        refine lv_imul hx hb dX12_dateOf_62 ?_
        refine lv_topi (fun x_23 ex_23 => ?_)
        refine lv_bipush (v := 100) hx hb dX12_dateOf_63 (by decide) ?_
        refine lv_iload_n hx hb dX12_dateOf_65 rfl (lv_at hl 1 rfl) ?_
        refine lv_iconst (v := 3) hx hb dX12_dateOf_66 (by decide) ?_
        refine lv_iadd hx hb dX12_dateOf_67 ?_
        refine lv_topi (fun x_24 ex_24 => ?_)
        refine lv_imul hx hb dX12_dateOf_68 ?_
        refine lv_topi (fun x_25 ex_25 => ?_)
        refine lv_iadd hx hb dX12_dateOf_69 ?_
        refine lv_topi (fun x_26 ex_26 => ?_)
        refine lv_iload hx hb dX12_dateOf_70 (lv_at hl 0 rfl) ?_
        refine lv_iadd hx hb dX12_dateOf_72 ?_
        refine lv_topi (fun x_27 ex_27 => ?_)
        refine lv_goto (tgt := 94) hx hb dX12_dateOf_73 (by decide) ?_
        refine W.endD hd0 ?_
        exact W.iret (v := x_27) hx hb hr (fun t ht hW => ⟨⟨x_27, σ, rfl, ⟨hI, rfl, (fun q1 q2 => by obtain ⟨Y, F, D, w1, w2, w3, w4, w5, w6, w7, w8, w9, w10⟩ := dt_tail q1 q2 iv6_0 pu_3 c_4 pu_6 ex_7 ex_8 ex_9 ex_10 ex_11 ex_12 ex_13 ⟨_, ex_14, ex_15⟩; exact dt_a w1 w2 w3 w4 w5 w6 w7 w8 w9 w10 c_16 ex_23 ex_24 ex_25 ex_26 ex_27)⟩, ⟨by rw [ht]; exact hP, hD⟩⟩, hS.F ht⟩) hS.2.2 dX12_dateOf_94
    · obtain ⟨x_28, ex_28⟩ : ∃ zz : Int32, zz = yy + (-1) := ⟨_, rfl⟩
      refine lv_iinc (v := x_28) (lv' := [(1, .int x_28), (0, .int p0)]) hx hb dX12_dateOf_14 hl (k := 0) rfl (by rw [ex_28]; rfl) (by decide) rfl (fun ls hl => ?_)
      refine lv_goto (tgt := 6) hx hb dX12_dateOf_17 (by decide) ?_
      exact ih6 x_28 _ _ _ _ (dy_m hh0 iv6_0 pu_3 (Int32.not_le.mp c_4) ex_28 hm6) (dy_s hh0 iv6_0 pu_3 (Int32.not_le.mp c_4) ex_28) hd0 hP hD hS (lv_sub hl [0, 1] rfl)
