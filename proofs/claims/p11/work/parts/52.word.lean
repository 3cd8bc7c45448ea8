set_option maxHeartbeats 8000000 in
set_option maxRecDepth 100000 in
theorem n_X12_isWord (l : Launch) (dC : Nat → ClassId) (dI : Nat → Nat → Nat) (ad : Nat → Nat) (cA : Nat → ClassId) (adK adV : Nat → Nat) (sz : Nat) (σ : gs) (hI : InvM σ) (j0 : Nat) (hj0 : j0 < 36) : MetD lw_cs l yX12_isWord wsX12_isWord ({ frames := 4, cells := 0, slots := 0, locals := 85 }) (va_Pc [.ref (ad 0), .ref (adK j0)] (gPre adK adV (dC, dI) (wM ad cA σ) (tM cA) sz)) (va_Qi (fun (r : Int32) (τ : gs) => InvM τ ∧ σ = τ ∧ (r = 0 ∨ r = 1)) (fun τ t => gPost (dC, dI) (va_A (wM ad cA σ) sz) (wM ad cA τ) t) (va_A (wM ad cA σ) sz)) 0 0 (va_A (wM ad cA σ) sz) := by
  refine MetD.ofW (cc := cX12_isWord) (maxL := 5) (ret := (some .boolean)) (by decide) rfl ?_
  intro p e s m args below meth c s₁ B hml hv hd0
  obtain ⟨rfl, hsz, hP, hK, hD0, hT⟩ := hv
  have hx := B.exec
  have hb := B.bytes
  have hr := B.returns
  have hts0 := atoms_spec (ws := wsX12_isWord) B.pre
  have hK0 := hK
  have hown0 : s.vm.findClass RX12 = some m.cls := findClass_of_methodNamed B.named
  have hlocks := B.notSynchronized
  have hinX12 : ∀ w ∈ u_ws RX12 TX12 69, w ∈ wsX12_isWord := (fun _ h9 => List.mem_cons_of_mem _ (List.mem_append_right _ h9))
  subst hsz
  have hD := hD0.self (sz := s.heap.size)
  generalize hAe : va_A (wM ad cA σ) s.heap.size = A at hD hT ⊢
  have hA : ∀ q : Nat, s.heap.size ≤ q → A q := fun q h => by rw [← hAe]; exact Or.inr h
  have hS : va_S A s.heap s.heap [] := va_S.rf
  have hl := lv_entry ([.ref (ad 0), .ref (adK j0)]) (n := 5) (Nat.le_of_ble_eq_true rfl)
  rw [lg_entry_eq]
  generalize (lg_sl ([.ref (ad 0), .ref (adK j0)]) ++ List.replicate (5 - (lg_sl ([.ref (ad 0), .ref (adK j0)])).length) Slot.unset).toArray = ls at hl ⊢
  have hl : lv_has ls 5 [(0, .ref (ad 0)), (1, .ref (adK j0))] := hl
  have hts := dr_words hts0 (s.drawn)
  have hK := gKd hK0 (s.drawn)
  have hown : (s.setDrawn (s.drawn)).vm.findClass RX12 = some m.cls := hown0
  refine lv_lconst (v := 0) hx hb dX12_isWord_0 (by decide) ?_
  refine lv_lstore_n (lv' := [(2, .long 0), (0, .ref (ad 0)), (1, .ref (adK j0))]) hx hb dX12_isWord_1 rfl hl (by decide) rfl (fun ls hl => ?_)
  refine lv_iconst (v := 0) hx hb dX12_isWord_2 (by decide) ?_
  refine lv_istore (lv' := [(4, .int 0), (2, .long 0), (0, .ref (ad 0)), (1, .ref (adK j0))]) hx hb dX12_isWord_3 hl (by decide) rfl (fun ls hl => ?_)
  refine (fun (h : ∀ (n : Nat) (k4 : Int32) (v2 : Int64) (d5 : Drawn) (H : Heap) (locs : List Loc) (ls : Array Slot), (((nI (sk_L.getD j0 0)) : Int32).toInt - k4.toInt).toNat < n → 0 ≤ k4 → s.drawn.sameBut d5 lw_cs → va_P (dC, dI) vwCl (wM ad cA σ) H → va_D A (wM ad cA σ) → va_S A s.heap H locs → lv_has ls 5 [(4, .int k4), (2, .long v2), (0, .ref (ad 0)), (1, .ref (adK j0))] → W p l e _ (s.setDrawn d5) m _ below meth c H locs _ _ _ (F0 m 5 ls [])) => h _ 0 0 _ _ _ _ (Nat.lt_succ_self _) (by decide) hd0 hP hD hS (lv_sub hl [0, 1, 2, 3] rfl)) ?_
  intro n5
  induction n5 with
  | zero => intro k4 v2  d5 H locs ls hm; exact absurd hm (Nat.not_lt_zero _)
  | succ n5 ih5 =>
    intro k4 v2  d5 H locs ls hm5 iv5_0  hd0 hP hD hS hl
    have hts := dr_words hts0 (d5)
    have hK := gKd hK0 (d5)
    have hown : (s.setDrawn (d5)).vm.findClass RX12 = some m.cls := hown0
    refine lv_iload hx hb dX12_isWord_5 (lv_at hl 0 rfl) ?_
    refine lv_aload_n hx hb dX12_isWord_7 rfl (lv_at hl 3 rfl) ?_
    have hF := gFree (w := []) (hx_D0 (A := A)) hS hA
    have hKe := hK.sub (tys' := []) [] rfl
    refine va_calli (va_runV (As := []) (rest := [.int k4]) ⟨hx, hb, hml, hown, hts⟩ (k_J0_length_8abf5 l dC dI H.size adK adV 0 j0 hj0) (cwV 0 hts gX12_isWord_J0_length_8abf5 rfl rfl rfl (by decide +kernel) ⟨Nat.le_of_ble_eq_true rfl, Nat.le_of_ble_eq_true rfl⟩) ⟨fun a U g mk q => by obtain ⟨q0, q1, qP, qK, qD, qT⟩ := q; exact ⟨q0, q1, qP, va_K.moved (u := U) (U := U.calling g mk a) (Vm.Alike.refl U.vm) qK, qD, sk_F.moved (u := U) (U := U.calling g mk a) (Vm.Alike.refl U.vm) qT⟩, vk_recv (hT.1.1 j0 hj0) Nat.one_pos hS, fun U hU hW => ⟨rfl, by rw [hU], hx_P0, va_K.moved hW.alike hKe, hx_D0, by rw [hU]; exact sk_F.moved hW.alike ((hT.1.kept hS.2.1).narrow hF)⟩⟩ rfl rfl hl.1 rfl (lv_room (Nat.le_of_ble_eq_true rfl)) dX12_isWord_8 ⟨Nat.le_of_ble_eq_true rfl, Nat.le_of_ble_eq_true rfl⟩) hS (fun q _ h => hF q h) hF (fun r_1 u t H locs ht hvm hw hB hz1 hk1 hS => ?_)
    have hP := gKeep hP hk1
    obtain rfl : r_1 = nI (sk_L.getD j0 0) := hw
    refine lv_icmp_ge (tgt := 33) hx hb dX12_isWord_11 (by decide) (fun c_2 => ?_) (fun c_2 => ?_)
    · refine lv_aload_n hx hb dX12_isWord_33 rfl (lv_at hl 2 rfl) ?_
      refine va_get (D := (dC, dI)) (ci := 11) (v := .int ((σ 0).1 34)) (C := RX12) (T := TX12) (N := 69) hx hb hts hinX12 hown hK hP 0 (mat_11 rfl) rfl 34 (by decide) (hts (.fieldLink RX12 204 "BondCalendarsModel" "kind" "I") (by decide +kernel)) (fun _ h9 => h9) rfl dX12_isWord_34 ?_
      refine lv_iconst (v := 2) hx hb dX12_isWord_37 (by decide) ?_
      refine lv_icmp_ne (tgt := 54) hx hb dX12_isWord_38 (by decide) (fun c_3 => ?_) (fun c_3 => ?_)
      · refine lv_iconst (v := 0) hx hb dX12_isWord_54 (by decide) ?_
        refine W.endD hd0 ?_
        exact W.zret (v := 0) hx hb hr (by decide) (fun t ht hW => ⟨⟨0, σ, rfl, ⟨hI, rfl, Or.inl rfl⟩, ⟨by rw [ht]; exact hP, hD⟩⟩, hS.F ht⟩) hS.2.2 dX12_isWord_55
      · refine lv_aload_n hx hb dX12_isWord_41 rfl (lv_at hl 2 rfl) ?_
        refine va_get (D := (dC, dI)) (ci := 11) (v := .long ((σ 0).2.1 38)) (C := RX12) (T := TX12) (N := 69) hx hb hts hinX12 hown hK hP 0 (mat_11 rfl) rfl 38 (by decide) (hts (.fieldLink RX12 217 "BondCalendarsModel" "word" "J") (by decide +kernel)) (fun _ h9 => h9) rfl dX12_isWord_42 ?_
        refine lv_lload_n hx hb dX12_isWord_45 rfl (lv_at hl 1 rfl) ?_
        refine W.lcmp hx hb dX12_isWord_46 ?_
        refine lv_if_ne (tgt := 54) hx hb dX12_isWord_47 (by decide) (fun c_4 => ?_) (fun c_4 => ?_)
        · refine lv_iconst (v := 0) hx hb dX12_isWord_54 (by decide) ?_
          refine W.endD hd0 ?_
          exact W.zret (v := 0) hx hb hr (by decide) (fun t ht hW => ⟨⟨0, σ, rfl, ⟨hI, rfl, Or.inl rfl⟩, ⟨by rw [ht]; exact hP, hD⟩⟩, hS.F ht⟩) hS.2.2 dX12_isWord_55
        · refine lv_iconst (v := 1) hx hb dX12_isWord_50 (by decide) ?_
          refine lv_goto (tgt := 55) hx hb dX12_isWord_51 (by decide) ?_
          refine W.endD hd0 ?_
          exact W.zret (v := 1) hx hb hr (by decide) (fun t ht hW => ⟨⟨1, σ, rfl, ⟨hI, rfl, Or.inr rfl⟩, ⟨by rw [ht]; exact hP, hD⟩⟩, hS.F ht⟩) hS.2.2 dX12_isWord_55
    · refine lv_lload_n hx hb dX12_isWord_14 rfl (lv_at hl 1 rfl) ?_
      refine lv_bipush (v := 8) hx hb dX12_isWord_15 (by decide) ?_
      refine lv_lshl hx hb dX12_isWord_17 rfl ?_
      refine lv_topl (fun x_5 _ => ?_)
      refine lv_aload_n hx hb dX12_isWord_18 rfl (lv_at hl 3 rfl) ?_
      refine lv_iload hx hb dX12_isWord_19 (lv_at hl 0 rfl) ?_
      have hF := gFree (w := []) (hx_D0 (A := A)) hS hA
      have hKe := hK.sub (tys' := []) [] rfl
      obtain ⟨kk_7, hkk_7, ekk_7⟩ := nI_of (x := k4) (Int32.not_lt.mpr iv5_0)
      refine va_calli (va_runV (As := [.int k4]) (rest := [.long x_5]) ⟨hx, hb, hml, hown, hts⟩ (k_J0_charAt_5068e l dC dI H.size adK adV 0 j0 kk_7 hj0 (str_lt ekk_7 hkk_7 (sk_len hj0) (Int32.not_le.mp c_2))) (cwV 1 hts gX12_isWord_J0_charAt_5068e rfl rfl rfl (by decide +kernel) ⟨Nat.le_of_ble_eq_true rfl, Nat.le_of_ble_eq_true rfl⟩) ⟨fun a U g mk q => by obtain ⟨q0, q1, qP, qK, qD, qT⟩ := q; exact ⟨q0, q1, qP, va_K.moved (u := U) (U := U.calling g mk a) (Vm.Alike.refl U.vm) qK, qD, sk_F.moved (u := U) (U := U.calling g mk a) (Vm.Alike.refl U.vm) qT⟩, vk_recv (hT.1.1 j0 hj0) Nat.one_pos hS, fun U hU hW => ⟨(by rw [ekk_7]), by rw [hU], hx_P0, va_K.moved hW.alike hKe, hx_D0, by rw [hU]; exact sk_F.moved hW.alike ((hT.1.kept hS.2.1).narrow hF)⟩⟩ rfl rfl hl.1 rfl (lv_room (Nat.le_of_ble_eq_true rfl)) dX12_isWord_21 ⟨Nat.le_of_ble_eq_true rfl, Nat.le_of_ble_eq_true rfl⟩) hS (fun q _ h => hF q h) hF (fun r_6 u t H locs ht hvm hw hB hz1 hk1 hS => ?_)
      have hP := gKeep hP hk1
      refine lv_i2l hx hb dX12_isWord_24 rfl ?_
      refine lv_lor hx hb dX12_isWord_25 ?_
      refine lv_topl (fun x_8 ex_8 => ?_)
      refine lv_lstore_n (lv' := [(2, .long x_8), (4, .int k4), (0, .ref (ad 0)), (1, .ref (adK j0))]) hx hb dX12_isWord_26 rfl hl (by decide) rfl (fun ls hl => ?_)
      obtain ⟨x_9, ex_9⟩ : ∃ zz : Int32, zz = k4 + 1 := ⟨_, rfl⟩
      refine lv_iinc (v := x_9) (lv' := [(4, .int x_9), (2, .long x_8), (0, .ref (ad 0)), (1, .ref (adK j0))]) hx hb dX12_isWord_27 hl (k := 1) rfl (by rw [ex_9]; rfl) (by decide) rfl (fun ls hl => ?_)
      refine lv_goto (tgt := 5) hx hb dX12_isWord_30 (by decide) ?_
      exact ih5 x_9 x_8 _ _ _ _ (cnt_m iv5_0 (Int32.not_le.mp c_2) hm5 ex_9) (cnt_0 iv5_0 (Int32.not_le.mp c_2) ex_9) hd0 hP hD hS (lv_sub hl [0, 1, 2, 3] rfl)
set_option maxHeartbeats 8000000 in
set_option maxRecDepth 100000 in
theorem n_X12_needs (l : Launch) (dC : Nat → ClassId) (dI : Nat → Nat → Nat) (ad : Nat → Nat) (cA : Nat → ClassId) (adK adV : Nat → Nat) (sz : Nat) (σ : gs) (hI : InvM σ) (j0 : Nat) (hj0 : j0 < 36) : MetD lw_cs l yX12_needs wsX12_needs ({ frames := 5, cells := 0, slots := 0, locals := 109 }) (va_Pc [.ref (ad 0), .ref (adK j0)] (gPre adK adV (dC, dI) (wM ad cA σ) (tM cA) sz)) (va_Qv (fun (τ : gs) => InvM τ ∧ mFr [] [33, 34, 35, 36, 37] σ τ ∧ ((σ 0).1 37 ≤ (τ 0).1 37 ∧ (SP σ τ))) (fun τ t => gPost (dC, dI) (va_A (wM ad cA σ) sz) (wM ad cA τ) t) (va_A (wM ad cA σ) sz)) 0 0 (va_A (wM ad cA σ) sz) := by
  refine MetD.ofW (cc := cX12_needs) (maxL := 2) (ret := none) (by decide) rfl ?_
  intro p e s m args below meth c s₁ B hml hv hd0
  obtain ⟨rfl, hsz, hP, hK, hD0, hT⟩ := hv
  have hx := B.exec
  have hb := B.bytes
  have hr := B.returns
  have hts0 := atoms_spec (ws := wsX12_needs) B.pre
  have hK0 := hK
  have hown0 : s.vm.findClass RX12 = some m.cls := findClass_of_methodNamed B.named
  have hlocks := B.notSynchronized
  subst hsz
  have hD := hD0.self (sz := s.heap.size)
  generalize hAe : va_A (wM ad cA σ) s.heap.size = A at hD hT ⊢
  have hA : ∀ q : Nat, s.heap.size ≤ q → A q := fun q h => by rw [← hAe]; exact Or.inr h
  have hS : va_S A s.heap s.heap [] := va_S.rf
  have hl := lv_entry ([.ref (ad 0), .ref (adK j0)]) (n := 2) (Nat.le_of_ble_eq_true rfl)
  rw [lg_entry_eq]
  generalize (lg_sl ([.ref (ad 0), .ref (adK j0)]) ++ List.replicate (2 - (lg_sl ([.ref (ad 0), .ref (adK j0)])).length) Slot.unset).toArray = ls at hl ⊢
  have hl : lv_has ls 2 [(0, .ref (ad 0)), (1, .ref (adK j0))] := hl
  have hts := dr_words hts0 (s.drawn)
  have hK := gKd hK0 (s.drawn)
  have hown : (s.setDrawn (s.drawn)).vm.findClass RX12 = some m.cls := hown0
  refine lv_aload_n hx hb dX12_needs_0 rfl (lv_at hl 0 rfl) ?_
  refine lv_aload_n hx hb dX12_needs_1 rfl (lv_at hl 1 rfl) ?_
  have hF := gFree hD hS hA
  refine va_calliD hd0 (va_runV_D (As := [.ref (adK j0)]) (rest := []) ⟨hx, hb, hml, hown, hts⟩ (n_X12_isWord l dC dI ad cA adK adV s.heap.size σ hI j0 hj0) (cwV 1 hts gX12_needs_X12_isWord rfl rfl rfl (by decide +kernel) ⟨Nat.le_of_ble_eq_true rfl, Nat.le_of_ble_eq_true rfl⟩) ⟨gBlind, va_recv hK hP (ci := 11) (q0 := 0) rfl (mat_11 rfl), gStart (As := [.ref (ad 0), .ref (adK j0)]) hP hD hK0 hT hS hF (s.drawn)⟩ rfl rfl hl.1 rfl (lv_room (Nat.le_of_ble_eq_true rfl)) dX12_needs_2 ⟨Nat.le_of_ble_eq_true rfl, Nat.le_of_ble_eq_true rfl⟩) hS (fun q _ h => hF q h) hF (fun r_1 σ1 t H locs ht hvm hw hB hz1 hk1 hS d_2 hd0 => ?_)
  have hts := dr_words hts0 (d_2)
  have hK := gKd hK0 (d_2)
  have hown : (s.setDrawn (d_2)).vm.findClass RX12 = some m.cls := hown0
  obtain ⟨hP, hD⟩ := gBack hF ht hB
  obtain ⟨hIσ1, hro, hp_3⟩ := hw
  subst hro
  refine lv_if_ne (tgt := 13) hx hb dX12_needs_5 (by decide) (fun c_4 => ?_) (fun c_4 => ?_)
  · refine lv_aload_n hx hb dX12_needs_13 rfl (lv_at hl 0 rfl) ?_
    have hF := gFree hD hS hA
    refine va_callvD hd0 (va_runV_D (As := []) (rest := []) ⟨hx, hb, hml, hown, hts⟩ (n_X12_next l dC dI ad cA adK adV H.size σ hI ) (cwV 0 hts gX12_needs_X12_next rfl rfl rfl (by decide +kernel) ⟨Nat.le_of_ble_eq_true rfl, Nat.le_of_ble_eq_true rfl⟩) ⟨gBlind, va_recv hK hP (ci := 11) (q0 := 0) rfl (mat_11 rfl), gStart (As := [.ref (ad 0)]) hP hD hK0 hT hS hF (d_2)⟩ rfl rfl hl.1 rfl (lv_room (Nat.le_of_ble_eq_true rfl)) dX12_needs_14 ⟨Nat.le_of_ble_eq_true rfl, Nat.le_of_ble_eq_true rfl⟩) hS (fun q _ h => hF q h) hF (fun σ2 t H locs ht hvm hw hB hz1 hk1 hS d_6 hd0 => ?_)
    have hts := dr_words hts0 (d_6)
    have hK := gKd hK0 (d_6)
    have hown : (s.setDrawn (d_6)).vm.findClass RX12 = some m.cls := hown0
    obtain ⟨hP, hD⟩ := gBack hF ht hB
    obtain ⟨hIσ2, fcσ2, hp_7⟩ := hw
    refine W.endD hd0 ?_
    exact W.vret hx hb hr (fun t ht hW => ⟨⟨σ2, rfl, ⟨hIσ2, (mFr.tr (mFr.rfl (L := []) (F := [33, 34, 35, 36, 37]) (σ := σ)) fcσ2 (by decide) (by decide)), ⟨(le_ch (Eq.refl _) (show ((σ2 0).1 37 : Int32) = ((σ 0).1 37 : Int32) from by rw [fcσ2.2 37 (by decide)]) (Int32.le_refl ((σ 0).1 37))), hp_7.1⟩⟩, ⟨by rw [ht]; exact hP, hD⟩⟩, hS.F ht⟩) hS.2.2 dX12_needs_17
  · refine lv_aload_n hx hb dX12_needs_8 rfl (lv_at hl 0 rfl) ?_
    refine lv_iconst (v := 1) hx hb dX12_needs_9 (by decide) ?_
    have hF := gFree hD hS hA
    refine va_callvD hd0 (va_runV_D (As := [.int 1]) (rest := []) ⟨hx, hb, hml, hown, hts⟩ (n_X12_wrong l dC dI ad cA adK adV H.size σ hI 1 (show (0 : Int32) < 1 by decide)) (cwV 1 hts gX12_needs_X12_wrong rfl rfl rfl (by decide +kernel) ⟨Nat.le_of_ble_eq_true rfl, Nat.le_of_ble_eq_true rfl⟩) ⟨gBlind, va_recv hK hP (ci := 11) (q0 := 0) rfl (mat_11 rfl), gStart (As := [.ref (ad 0), .int 1]) hP hD hK0 hT hS hF (d_2)⟩ rfl rfl hl.1 rfl (lv_room (Nat.le_of_ble_eq_true rfl)) dX12_needs_10 ⟨Nat.le_of_ble_eq_true rfl, Nat.le_of_ble_eq_true rfl⟩) hS (fun q _ h => hF q h) hF (fun σ3 t H locs ht hvm hw hB hz1 hk1 hS d_9 hd0 => ?_)
    have hts := dr_words hts0 (d_9)
    have hK := gKd hK0 (d_9)
    have hown : (s.setDrawn (d_9)).vm.findClass RX12 = some m.cls := hown0
    obtain ⟨hP, hD⟩ := gBack hF ht hB
    obtain ⟨hIσ3, fcσ3, hp_10⟩ := hw
    refine lv_aload_n hx hb dX12_needs_13 rfl (lv_at hl 0 rfl) ?_
    have hF := gFree hD hS hA
    refine va_callvD hd0 (va_runV_D (As := []) (rest := []) ⟨hx, hb, hml, hown, hts⟩ (n_X12_next l dC dI ad cA adK adV H.size σ3 hIσ3 ) (cwV 0 hts gX12_needs_X12_next rfl rfl rfl (by decide +kernel) ⟨Nat.le_of_ble_eq_true rfl, Nat.le_of_ble_eq_true rfl⟩) ⟨gBlind, va_recv hK hP (ci := 11) (q0 := 0) rfl (mat_11 rfl), gStart (As := [.ref (ad 0)]) hP hD hK0 hT hS hF (d_9)⟩ rfl rfl hl.1 rfl (lv_room (Nat.le_of_ble_eq_true rfl)) dX12_needs_14 ⟨Nat.le_of_ble_eq_true rfl, Nat.le_of_ble_eq_true rfl⟩) hS (fun q _ h => hF q h) hF (fun σ4 t H locs ht hvm hw hB hz1 hk1 hS d_12 hd0 => ?_)
    have hts := dr_words hts0 (d_12)
    have hK := gKd hK0 (d_12)
    have hown : (s.setDrawn (d_12)).vm.findClass RX12 = some m.cls := hown0
    obtain ⟨hP, hD⟩ := gBack hF ht hB
    obtain ⟨hIσ4, fcσ4, hp_13⟩ := hw
    refine W.endD hd0 ?_
    exact W.vret hx hb hr (fun t ht hW => ⟨⟨σ4, rfl, ⟨hIσ4, (mFr.tr (mFr.tr (mFr.rfl (L := []) (F := [33, 34, 35, 36, 37]) (σ := σ)) fcσ3 (by decide) (by decide)) fcσ4 (by decide) (by decide)), ⟨(le_ch (Eq.refl _) (show ((σ4 0).1 37 : Int32) = ((σ3 0).1 37 : Int32) from by rw [fcσ4.2 37 (by decide)]) hp_10.1), (SP.tr hp_10.2.2 hp_13.1)⟩⟩, ⟨by rw [ht]; exact hP, hD⟩⟩, hS.F ht⟩) hS.2.2 dX12_needs_17
set_option maxHeartbeats 8000000 in
set_option maxRecDepth 100000 in
theorem n_X12_dateBehind (l : Launch) (dC : Nat → ClassId) (dI : Nat → Nat → Nat) (ad : Nat → Nat) (cA : Nat → ClassId) (adK adV : Nat → Nat) (sz : Nat) (σ : gs) (hI : InvM σ) (j0 : Nat) (hj0 : j0 < 36) : MetD lw_cs l yX12_dateBehind wsX12_dateBehind ({ frames := 6, cells := 0, slots := 0, locals := 130 }) (va_Pc [.ref (ad 0), .ref (adK j0)] (gPre adK adV (dC, dI) (wM ad cA σ) (tM cA) sz)) (va_Qi (fun (r : Int32) (τ : gs) => InvM τ ∧ mFr [] [33, 34, 35, 36, 37] σ τ ∧ ((σ 0).1 37 ≤ (τ 0).1 37 ∧ (SP σ τ) ∧ ((τ 0).1 37 ≤ 0 → 1 ≤ f_X12_isDate r) ∧ 0 ≤ r ∧ r ≤ 99999999)) (fun τ t => gPost (dC, dI) (va_A (wM ad cA σ) sz) (wM ad cA τ) t) (va_A (wM ad cA σ) sz)) 0 0 (va_A (wM ad cA σ) sz) := by
  refine MetD.ofW (cc := cX12_dateBehind) (maxL := 2) (ret := (some .int)) (by decide) rfl ?_
  intro p e s m args below meth c s₁ B hml hv hd0
  obtain ⟨rfl, hsz, hP, hK, hD0, hT⟩ := hv
  have hx := B.exec
  have hb := B.bytes
  have hr := B.returns
  have hts0 := atoms_spec (ws := wsX12_dateBehind) B.pre
  have hK0 := hK
  have hown0 : s.vm.findClass RX12 = some m.cls := findClass_of_methodNamed B.named
  have hlocks := B.notSynchronized
  subst hsz
  have hD := hD0.self (sz := s.heap.size)
  generalize hAe : va_A (wM ad cA σ) s.heap.size = A at hD hT ⊢
  have hA : ∀ q : Nat, s.heap.size ≤ q → A q := fun q h => by rw [← hAe]; exact Or.inr h
  have hS : va_S A s.heap s.heap [] := va_S.rf
  have hl := lv_entry ([.ref (ad 0), .ref (adK j0)]) (n := 2) (Nat.le_of_ble_eq_true rfl)
  rw [lg_entry_eq]
  generalize (lg_sl ([.ref (ad 0), .ref (adK j0)]) ++ List.replicate (2 - (lg_sl ([.ref (ad 0), .ref (adK j0)])).length) Slot.unset).toArray = ls at hl ⊢
  have hl : lv_has ls 2 [(0, .ref (ad 0)), (1, .ref (adK j0))] := hl
  have hts := dr_words hts0 (s.drawn)
  have hK := gKd hK0 (s.drawn)
  have hown : (s.setDrawn (s.drawn)).vm.findClass RX12 = some m.cls := hown0
  refine lv_aload_n hx hb dX12_dateBehind_0 rfl (lv_at hl 0 rfl) ?_
  refine lv_aload_n hx hb dX12_dateBehind_1 rfl (lv_at hl 1 rfl) ?_
  have hF := gFree hD hS hA
  refine va_callvD hd0 (va_runV_D (As := [.ref (adK j0)]) (rest := []) ⟨hx, hb, hml, hown, hts⟩ (n_X12_needs l dC dI ad cA adK adV s.heap.size σ hI j0 hj0) (cwV 1 hts gX12_dateBehind_X12_needs rfl rfl rfl (by decide +kernel) ⟨Nat.le_of_ble_eq_true rfl, Nat.le_of_ble_eq_true rfl⟩) ⟨gBlind, va_recv hK hP (ci := 11) (q0 := 0) rfl (mat_11 rfl), gStart (As := [.ref (ad 0), .ref (adK j0)]) hP hD hK0 hT hS hF (s.drawn)⟩ rfl rfl hl.1 rfl (lv_room (Nat.le_of_ble_eq_true rfl)) dX12_dateBehind_2 ⟨Nat.le_of_ble_eq_true rfl, Nat.le_of_ble_eq_true rfl⟩) hS (fun q _ h => hF q h) hF (fun σ1 t H locs ht hvm hw hB hz1 hk1 hS d_2 hd0 => ?_)
  have hts := dr_words hts0 (d_2)
  have hK := gKd hK0 (d_2)
  have hown : (s.setDrawn (d_2)).vm.findClass RX12 = some m.cls := hown0
  obtain ⟨hP, hD⟩ := gBack hF ht hB
  obtain ⟨hIσ1, fcσ1, hp_3⟩ := hw
  refine lv_aload_n hx hb dX12_dateBehind_5 rfl (lv_at hl 0 rfl) ?_
  have hF := gFree hD hS hA
  refine va_calliD hd0 (va_runV_D (As := []) (rest := []) ⟨hx, hb, hml, hown, hts⟩ (n_X12_dateAt l dC dI ad cA adK adV H.size σ1 hIσ1 ) (cwV 0 hts gX12_dateBehind_X12_dateAt rfl rfl rfl (by decide +kernel) ⟨Nat.le_of_ble_eq_true rfl, Nat.le_of_ble_eq_true rfl⟩) ⟨gBlind, va_recv hK hP (ci := 11) (q0 := 0) rfl (mat_11 rfl), gStart (As := [.ref (ad 0)]) hP hD hK0 hT hS hF (d_2)⟩ rfl rfl hl.1 rfl (lv_room (Nat.le_of_ble_eq_true rfl)) dX12_dateBehind_6 ⟨Nat.le_of_ble_eq_true rfl, Nat.le_of_ble_eq_true rfl⟩) hS (fun q _ h => hF q h) hF (fun r_4 σ2 t H locs ht hvm hw hB hz1 hk1 hS d_5 hd0 => ?_)
  have hts := dr_words hts0 (d_5)
  have hK := gKd hK0 (d_5)
  have hown : (s.setDrawn (d_5)).vm.findClass RX12 = some m.cls := hown0
  obtain ⟨hP, hD⟩ := gBack hF ht hB
  obtain ⟨hIσ2, fcσ2, hp_6⟩ := hw
  refine W.endD hd0 ?_
  exact W.iret (v := r_4) hx hb hr (fun t ht hW => ⟨⟨r_4, σ2, rfl, ⟨hIσ2, (mFr.tr (mFr.tr (mFr.rfl (L := []) (F := [33, 34, 35, 36, 37]) (σ := σ)) fcσ1 (by decide) (by decide)) fcσ2 (by decide) (by decide)), ⟨(Int32.le_trans hp_3.1 hp_6.1), (SP.tr hp_3.2 hp_6.2.2.1), (fun h8 => ((hp_6.2.1) h8)), hp_6.2.2.2.1, hp_6.2.2.2.2⟩⟩, ⟨by rw [ht]; exact hP, hD⟩⟩, hS.F ht⟩) hS.2.2 dX12_dateBehind_9
set_option maxHeartbeats 8000000 in
set_option maxRecDepth 100000 in
theorem n_X12_begins (l : Launch) (dC : Nat → ClassId) (dI : Nat → Nat → Nat) (ad : Nat → Nat) (cA : Nat → ClassId) (adK adV : Nat → Nat) (sz : Nat) (σ : gs) (hI : InvM σ) (p0 : Int32) : MetD lw_cs l yX12_begins wsX12_begins ({ frames := 3, cells := 0, slots := 0, locals := 63 }) (va_Pc [.ref (ad 0), .int p0] (gPre adK adV (dC, dI) (wM ad cA σ) (tM cA) sz)) (va_Qv (fun (τ : gs) => InvM τ ∧ mFr [] [33, 34, 35, 36, 37] σ τ ∧ ((σ 0).1 37 ≤ (τ 0).1 37 ∧ (SP σ τ) ∧ (1 ≤ p0 → 1 ≤ (τ 0).1 37))) (fun τ t => gPost (dC, dI) (va_A (wM ad cA σ) sz) (wM ad cA τ) t) (va_A (wM ad cA σ) sz)) 0 0 (va_A (wM ad cA σ) sz) := by
  refine MetD.ofW (cc := cX12_begins) (maxL := 2) (ret := none) (by decide) rfl ?_
  intro p e s m args below meth c s₁ B hml hv hd0
  obtain ⟨rfl, hsz, hP, hK, hD0, hT⟩ := hv
  have hx := B.exec
  have hb := B.bytes
  have hr := B.returns
  have hts0 := atoms_spec (ws := wsX12_begins) B.pre
  have hK0 := hK
  have hown0 : s.vm.findClass RX12 = some m.cls := findClass_of_methodNamed B.named
  have hlocks := B.notSynchronized
  have hinX12 : ∀ w ∈ u_ws RX12 TX12 69, w ∈ wsX12_begins := (fun _ h9 => List.mem_cons_of_mem _ (List.mem_append_right _ h9))
  subst hsz
  have hD := hD0.self (sz := s.heap.size)
  generalize hAe : va_A (wM ad cA σ) s.heap.size = A at hD hT ⊢
  have hA : ∀ q : Nat, s.heap.size ≤ q → A q := fun q h => by rw [← hAe]; exact Or.inr h
  have hS : va_S A s.heap s.heap [] := va_S.rf
  have hl := lv_entry ([.ref (ad 0), .int p0]) (n := 2) (Nat.le_of_ble_eq_true rfl)
  rw [lg_entry_eq]
  generalize (lg_sl ([.ref (ad 0), .int p0]) ++ List.replicate (2 - (lg_sl ([.ref (ad 0), .int p0])).length) Slot.unset).toArray = ls at hl ⊢
  have hl : lv_has ls 2 [(0, .ref (ad 0)), (1, .int p0)] := hl
  have hts := dr_words hts0 (s.drawn)
  have hK := gKd hK0 (s.drawn)
  have hown : (s.setDrawn (s.drawn)).vm.findClass RX12 = some m.cls := hown0
  refine lv_iload_n hx hb dX12_begins_0 rfl (lv_at hl 1 rfl) ?_
  refine lv_if_eq (tgt := 13) hx hb dX12_begins_1 (by decide) (fun c_1 => ?_) (fun c_1 => ?_)
  · refine lv_aload_n hx hb dX12_begins_13 rfl (lv_at hl 0 rfl) ?_
    have bd_2 := mrd_11_29 (c := 0) hI rfl
    refine va_get (D := (dC, dI)) (ci := 11) (v := .int ((σ 0).1 29)) (C := RX12) (T := TX12) (N := 69) hx hb hts hinX12 hown hK hP 0 (mat_11 rfl) rfl 29 (by decide) (hts (.fieldLink RX12 256 "BondCalendarsModel" "isBegun" "Z") (by decide +kernel)) (fun _ h9 => h9) rfl dX12_begins_14 ?_
    refine lv_if_ne (tgt := 26) hx hb dX12_begins_17 (by decide) (fun c_3 => ?_) (fun c_3 => ?_)
    · refine lv_aload_n hx hb dX12_begins_26 rfl (lv_at hl 0 rfl) ?_
      have hF := gFree hD hS hA
      refine va_callvD hd0 (va_runV_D (As := []) (rest := []) ⟨hx, hb, hml, hown, hts⟩ (n_X12_next l dC dI ad cA adK adV s.heap.size σ hI ) (cwV 0 hts gX12_begins_X12_next rfl rfl rfl (by decide +kernel) ⟨Nat.le_of_ble_eq_true rfl, Nat.le_of_ble_eq_true rfl⟩) ⟨gBlind, va_recv hK hP (ci := 11) (q0 := 0) rfl (mat_11 rfl), gStart (As := [.ref (ad 0)]) hP hD hK0 hT hS hF (s.drawn)⟩ rfl rfl hl.1 rfl (lv_room (Nat.le_of_ble_eq_true rfl)) dX12_begins_27 ⟨Nat.le_of_ble_eq_true rfl, Nat.le_of_ble_eq_true rfl⟩) hS (fun q _ h => hF q h) hF (fun σ1 t H locs ht hvm hw hB hz1 hk1 hS d_5 hd0 => ?_)
      have hts := dr_words hts0 (d_5)
      have hK := gKd hK0 (d_5)
      have hown : (s.setDrawn (d_5)).vm.findClass RX12 = some m.cls := hown0
      obtain ⟨hP, hD⟩ := gBack hF ht hB
      obtain ⟨hIσ1, fcσ1, hp_6⟩ := hw
      refine W.endD hd0 ?_
      exact W.vret hx hb hr (fun t ht hW => ⟨⟨σ1, rfl, ⟨hIσ1, (mFr.tr (mFr.rfl (L := []) (F := [33, 34, 35, 36, 37]) (σ := σ)) fcσ1 (by decide) (by decide)), ⟨(le_ch (Eq.refl _) (show ((σ1 0).1 37 : Int32) = ((σ 0).1 37 : Int32) from by rw [fcσ1.2 37 (by decide)]) (Int32.le_refl ((σ 0).1 37))), hp_6.1, (fun h9 => absurd h9 (Int32.not_le.mpr (Int32.lt_of_le_of_lt (eq_le c_1) (show (0 : Int32) < 1 by decide))))⟩⟩, ⟨by rw [ht]; exact hP, hD⟩⟩, hS.F ht⟩) hS.2.2 dX12_begins_30
    · refine lv_aload_n hx hb dX12_begins_20 rfl (lv_at hl 0 rfl) ?_
      refine lv_bipush (v := 7) hx hb dX12_begins_21 (by decide) ?_
      have hF := gFree hD hS hA
      refine va_callvD hd0 (va_runV_D (As := [.int 7]) (rest := []) ⟨hx, hb, hml, hown, hts⟩ (n_X12_wrong l dC dI ad cA adK adV s.heap.size σ hI 7 (show (0 : Int32) < 7 by decide)) (cwV 1 hts gX12_begins_X12_wrong rfl rfl rfl (by decide +kernel) ⟨Nat.le_of_ble_eq_true rfl, Nat.le_of_ble_eq_true rfl⟩) ⟨gBlind, va_recv hK hP (ci := 11) (q0 := 0) rfl (mat_11 rfl), gStart (As := [.ref (ad 0), .int 7]) hP hD hK0 hT hS hF (s.drawn)⟩ rfl rfl hl.1 rfl (lv_room (Nat.le_of_ble_eq_true rfl)) dX12_begins_23 ⟨Nat.le_of_ble_eq_true rfl, Nat.le_of_ble_eq_true rfl⟩) hS (fun q _ h => hF q h) hF (fun σ2 t H locs ht hvm hw hB hz1 hk1 hS d_8 hd0 => ?_)
      have hts := dr_words hts0 (d_8)
      have hK := gKd hK0 (d_8)
      have hown : (s.setDrawn (d_8)).vm.findClass RX12 = some m.cls := hown0
      obtain ⟨hP, hD⟩ := gBack hF ht hB
      obtain ⟨hIσ2, fcσ2, hp_9⟩ := hw
      refine lv_aload_n hx hb dX12_begins_26 rfl (lv_at hl 0 rfl) ?_
      have hF := gFree hD hS hA
      refine va_callvD hd0 (va_runV_D (As := []) (rest := []) ⟨hx, hb, hml, hown, hts⟩ (n_X12_next l dC dI ad cA adK adV H.size σ2 hIσ2 ) (cwV 0 hts gX12_begins_X12_next rfl rfl rfl (by decide +kernel) ⟨Nat.le_of_ble_eq_true rfl, Nat.le_of_ble_eq_true rfl⟩) ⟨gBlind, va_recv hK hP (ci := 11) (q0 := 0) rfl (mat_11 rfl), gStart (As := [.ref (ad 0)]) hP hD hK0 hT hS hF (d_8)⟩ rfl rfl hl.1 rfl (lv_room (Nat.le_of_ble_eq_true rfl)) dX12_begins_27 ⟨Nat.le_of_ble_eq_true rfl, Nat.le_of_ble_eq_true rfl⟩) hS (fun q _ h => hF q h) hF (fun σ3 t H locs ht hvm hw hB hz1 hk1 hS d_11 hd0 => ?_)
      have hts := dr_words hts0 (d_11)
      have hK := gKd hK0 (d_11)
      have hown : (s.setDrawn (d_11)).vm.findClass RX12 = some m.cls := hown0
      obtain ⟨hP, hD⟩ := gBack hF ht hB
      obtain ⟨hIσ3, fcσ3, hp_12⟩ := hw
      refine W.endD hd0 ?_
      exact W.vret hx hb hr (fun t ht hW => ⟨⟨σ3, rfl, ⟨hIσ3, (mFr.tr (mFr.tr (mFr.rfl (L := []) (F := [33, 34, 35, 36, 37]) (σ := σ)) fcσ2 (by decide) (by decide)) fcσ3 (by decide) (by decide)), ⟨(le_ch (Eq.refl _) (show ((σ3 0).1 37 : Int32) = ((σ2 0).1 37 : Int32) from by rw [fcσ3.2 37 (by decide)]) hp_9.1), (SP.tr hp_9.2.2 hp_12.1), (fun _ => (le_ch (Eq.refl _) (show ((σ3 0).1 37 : Int32) = ((σ2 0).1 37 : Int32) from by rw [fcσ3.2 37 (by decide)]) hp_9.2.1))⟩⟩, ⟨by rw [ht]; exact hP, hD⟩⟩, hS.F ht⟩) hS.2.2 dX12_begins_30
  · refine lv_aload_n hx hb dX12_begins_4 rfl (lv_at hl 0 rfl) ?_
    refine lv_bipush (v := 6) hx hb dX12_begins_5 (by decide) ?_
    have hF := gFree hD hS hA
    refine va_callvD hd0 (va_runV_D (As := [.int 6]) (rest := []) ⟨hx, hb, hml, hown, hts⟩ (n_X12_wrong l dC dI ad cA adK adV s.heap.size σ hI 6 (show (0 : Int32) < 6 by decide)) (cwV 1 hts gX12_begins_X12_wrong rfl rfl rfl (by decide +kernel) ⟨Nat.le_of_ble_eq_true rfl, Nat.le_of_ble_eq_true rfl⟩) ⟨gBlind, va_recv hK hP (ci := 11) (q0 := 0) rfl (mat_11 rfl), gStart (As := [.ref (ad 0), .int 6]) hP hD hK0 hT hS hF (s.drawn)⟩ rfl rfl hl.1 rfl (lv_room (Nat.le_of_ble_eq_true rfl)) dX12_begins_7 ⟨Nat.le_of_ble_eq_true rfl, Nat.le_of_ble_eq_true rfl⟩) hS (fun q _ h => hF q h) hF (fun σ4 t H locs ht hvm hw hB hz1 hk1 hS d_14 hd0 => ?_)
    have hts := dr_words hts0 (d_14)
    have hK := gKd hK0 (d_14)
    have hown : (s.setDrawn (d_14)).vm.findClass RX12 = some m.cls := hown0
    obtain ⟨hP, hD⟩ := gBack hF ht hB
    obtain ⟨hIσ4, fcσ4, hp_15⟩ := hw
    refine lv_goto (tgt := 26) hx hb dX12_begins_10 (by decide) ?_
    refine lv_aload_n hx hb dX12_begins_26 rfl (lv_at hl 0 rfl) ?_
    have hF := gFree hD hS hA
    refine va_callvD hd0 (va_runV_D (As := []) (rest := []) ⟨hx, hb, hml, hown, hts⟩ (n_X12_next l dC dI ad cA adK adV H.size σ4 hIσ4 ) (cwV 0 hts gX12_begins_X12_next rfl rfl rfl (by decide +kernel) ⟨Nat.le_of_ble_eq_true rfl, Nat.le_of_ble_eq_true rfl⟩) ⟨gBlind, va_recv hK hP (ci := 11) (q0 := 0) rfl (mat_11 rfl), gStart (As := [.ref (ad 0)]) hP hD hK0 hT hS hF (d_14)⟩ rfl rfl hl.1 rfl (lv_room (Nat.le_of_ble_eq_true rfl)) dX12_begins_27 ⟨Nat.le_of_ble_eq_true rfl, Nat.le_of_ble_eq_true rfl⟩) hS (fun q _ h => hF q h) hF (fun σ5 t H locs ht hvm hw hB hz1 hk1 hS d_17 hd0 => ?_)
    have hts := dr_words hts0 (d_17)
    have hK := gKd hK0 (d_17)
    have hown : (s.setDrawn (d_17)).vm.findClass RX12 = some m.cls := hown0
    obtain ⟨hP, hD⟩ := gBack hF ht hB
    obtain ⟨hIσ5, fcσ5, hp_18⟩ := hw
    refine W.endD hd0 ?_
    exact W.vret hx hb hr (fun t ht hW => ⟨⟨σ5, rfl, ⟨hIσ5, (mFr.tr (mFr.tr (mFr.rfl (L := []) (F := [33, 34, 35, 36, 37]) (σ := σ)) fcσ4 (by decide) (by decide)) fcσ5 (by decide) (by decide)), ⟨(le_ch (Eq.refl _) (show ((σ5 0).1 37 : Int32) = ((σ4 0).1 37 : Int32) from by rw [fcσ5.2 37 (by decide)]) hp_15.1), (SP.tr hp_15.2.2 hp_18.1), (fun _ => (le_ch (Eq.refl _) (show ((σ5 0).1 37 : Int32) = ((σ4 0).1 37 : Int32) from by rw [fcσ5.2 37 (by decide)]) hp_15.2.1))⟩⟩, ⟨by rw [ht]; exact hP, hD⟩⟩, hS.F ht⟩) hS.2.2 dX12_begins_30
set_option maxHeartbeats 8000000 in
set_option maxRecDepth 100000 in
theorem n_X12_ruleAt (l : Launch) (dC : Nat → ClassId) (dI : Nat → Nat → Nat) (ad : Nat → Nat) (cA : Nat → ClassId) (adK adV : Nat → Nat) (sz : Nat) (σ : gs) (hI : InvM σ)  : MetD lw_cs l yX12_ruleAt wsX12_ruleAt ({ frames := 5, cells := 0, slots := 0, locals := 109 }) (va_Pc [.ref (ad 0)] (gPre adK adV (dC, dI) (wM ad cA σ) (tM cA) sz)) (va_Qi (fun (r : Int32) (τ : gs) => InvM τ ∧ σ = τ ∧ (True)) (fun τ t => gPost (dC, dI) (va_A (wM ad cA σ) sz) (wM ad cA τ) t) (va_A (wM ad cA σ) sz)) 0 0 (va_A (wM ad cA σ) sz) := by
  refine MetD.ofW (cc := cX12_ruleAt) (maxL := 1) (ret := (some .int)) (by decide) rfl ?_
  intro p e s m args below meth c s₁ B hml hv hd0
  obtain ⟨rfl, hsz, hP, hK, hD0, hT⟩ := hv
  have hx := B.exec
  have hb := B.bytes
  have hr := B.returns
  have hts0 := atoms_spec (ws := wsX12_ruleAt) B.pre
  have hK0 := hK
  have hown0 : s.vm.findClass RX12 = some m.cls := findClass_of_methodNamed B.named
  have hlocks := B.notSynchronized
  subst hsz
  have hD := hD0.self (sz := s.heap.size)
  generalize hAe : va_A (wM ad cA σ) s.heap.size = A at hD hT ⊢
  have hA : ∀ q : Nat, s.heap.size ≤ q → A q := fun q h => by rw [← hAe]; exact Or.inr h
  have hS : va_S A s.heap s.heap [] := va_S.rf
  have hl := lv_entry ([.ref (ad 0)]) (n := 1) (Nat.le_of_ble_eq_true rfl)
  rw [lg_entry_eq]
  generalize (lg_sl ([.ref (ad 0)]) ++ List.replicate (1 - (lg_sl ([.ref (ad 0)])).length) Slot.unset).toArray = ls at hl ⊢
  have hl : lv_has ls 1 [(0, .ref (ad 0))] := hl
  have hts := dr_words hts0 (s.drawn)
  have hK := gKd hK0 (s.drawn)
  have hown : (s.setDrawn (s.drawn)).vm.findClass RX12 = some m.cls := hown0
  refine lv_aload_n hx hb dX12_ruleAt_0 rfl (lv_at hl 0 rfl) ?_
  refine va_ldcSW (tx := "thirty") (q := (adK 6)) hx hb hown (vk_R.same rfl hT.2.1.2.2.2.2.2.2.1) dX12_ruleAt_1 ?_
  have hF := gFree hD hS hA
  refine va_calliD hd0 (va_runV_D (As := [.ref (adK 6)]) (rest := []) ⟨hx, hb, hml, hown, hts⟩ (n_X12_isWord l dC dI ad cA adK adV s.heap.size σ hI 6 (by decide)) (cwV 1 hts gX12_ruleAt_X12_isWord rfl rfl rfl (by decide +kernel) ⟨Nat.le_of_ble_eq_true rfl, Nat.le_of_ble_eq_true rfl⟩) ⟨gBlind, va_recv hK hP (ci := 11) (q0 := 0) rfl (mat_11 rfl), gStart (As := [.ref (ad 0), .ref (adK 6)]) hP hD hK0 hT hS hF (s.drawn)⟩ rfl rfl hl.1 rfl (lv_room (Nat.le_of_ble_eq_true rfl)) dX12_ruleAt_4 ⟨Nat.le_of_ble_eq_true rfl, Nat.le_of_ble_eq_true rfl⟩) hS (fun q _ h => hF q h) hF (fun r_1 σ1 t H locs ht hvm hw hB hz1 hk1 hS d_2 hd0 => ?_)
  have hts := dr_words hts0 (d_2)
  have hK := gKd hK0 (d_2)
  have hown : (s.setDrawn (d_2)).vm.findClass RX12 = some m.cls := hown0
  obtain ⟨hP, hD⟩ := gBack hF ht hB
  obtain ⟨hIσ1, hro, hp_3⟩ := hw
  subst hro
  refine lv_if_eq (tgt := 14) hx hb dX12_ruleAt_7 (by decide) (fun c_4 => ?_) (fun c_4 => ?_)
  · refine lv_aload_n hx hb dX12_ruleAt_14 rfl (lv_at hl 0 rfl) ?_
    refine va_ldcSW (tx := "euro") (q := (adK 7)) hx hb hown (vk_R.same rfl hT.2.1.2.2.2.2.2.2.2.1) dX12_ruleAt_15 ?_
    have hF := gFree hD hS hA
    refine va_calliD hd0 (va_runV_D (As := [.ref (adK 7)]) (rest := []) ⟨hx, hb, hml, hown, hts⟩ (n_X12_isWord l dC dI ad cA adK adV H.size σ hI 7 (by decide)) (cwV 1 hts gX12_ruleAt_X12_isWord rfl rfl rfl (by decide +kernel) ⟨Nat.le_of_ble_eq_true rfl, Nat.le_of_ble_eq_true rfl⟩) ⟨gBlind, va_recv hK hP (ci := 11) (q0 := 0) rfl (mat_11 rfl), gStart (As := [.ref (ad 0), .ref (adK 7)]) hP hD hK0 hT hS hF (d_2)⟩ rfl rfl hl.1 rfl (lv_room (Nat.le_of_ble_eq_true rfl)) dX12_ruleAt_18 ⟨Nat.le_of_ble_eq_true rfl, Nat.le_of_ble_eq_true rfl⟩) hS (fun q _ h => hF q h) hF (fun r_5 σ2 t H locs ht hvm hw hB hz1 hk1 hS d_6 hd0 => ?_)
    have hts := dr_words hts0 (d_6)
    have hK := gKd hK0 (d_6)
    have hown : (s.setDrawn (d_6)).vm.findClass RX12 = some m.cls := hown0
    obtain ⟨hP, hD⟩ := gBack hF ht hB
    obtain ⟨hIσ2, hro, hp_7⟩ := hw
    subst hro
    refine lv_if_eq (tgt := 28) hx hb dX12_ruleAt_21 (by decide) (fun c_8 => ?_) (fun c_8 => ?_)
    · refine lv_aload_n hx hb dX12_ruleAt_28 rfl (lv_at hl 0 rfl) ?_
      refine va_ldcSW (tx := "money") (q := (adK 8)) hx hb hown (vk_R.same rfl hT.2.1.2.2.2.2.2.2.2.2.1) dX12_ruleAt_29 ?_
      have hF := gFree hD hS hA
      refine va_calliD hd0 (va_runV_D (As := [.ref (adK 8)]) (rest := []) ⟨hx, hb, hml, hown, hts⟩ (n_X12_isWord l dC dI ad cA adK adV H.size σ hI 8 (by decide)) (cwV 1 hts gX12_ruleAt_X12_isWord rfl rfl rfl (by decide +kernel) ⟨Nat.le_of_ble_eq_true rfl, Nat.le_of_ble_eq_true rfl⟩) ⟨gBlind, va_recv hK hP (ci := 11) (q0 := 0) rfl (mat_11 rfl), gStart (As := [.ref (ad 0), .ref (adK 8)]) hP hD hK0 hT hS hF (d_6)⟩ rfl rfl hl.1 rfl (lv_room (Nat.le_of_ble_eq_true rfl)) dX12_ruleAt_32 ⟨Nat.le_of_ble_eq_true rfl, Nat.le_of_ble_eq_true rfl⟩) hS (fun q _ h => hF q h) hF (fun r_9 σ3 t H locs ht hvm hw hB hz1 hk1 hS d_10 hd0 => ?_)
      have hts := dr_words hts0 (d_10)
      have hK := gKd hK0 (d_10)
      have hown : (s.setDrawn (d_10)).vm.findClass RX12 = some m.cls := hown0
      obtain ⟨hP, hD⟩ := gBack hF ht hB
      obtain ⟨hIσ3, hro, hp_11⟩ := hw
      subst hro
      refine lv_if_eq (tgt := 42) hx hb dX12_ruleAt_35 (by decide) (fun c_12 => ?_) (fun c_12 => ?_)
      · refine lv_aload_n hx hb dX12_ruleAt_42 rfl (lv_at hl 0 rfl) ?_
        refine va_ldcSW (tx := "fixed") (q := (adK 9)) hx hb hown (vk_R.same rfl hT.2.1.2.2.2.2.2.2.2.2.2.1) dX12_ruleAt_43 ?_
        have hF := gFree hD hS hA
        refine va_calliD hd0 (va_runV_D (As := [.ref (adK 9)]) (rest := []) ⟨hx, hb, hml, hown, hts⟩ (n_X12_isWord l dC dI ad cA adK adV H.size σ hI 9 (by decide)) (cwV 1 hts gX12_ruleAt_X12_isWord rfl rfl rfl (by decide +kernel) ⟨Nat.le_of_ble_eq_true rfl, Nat.le_of_ble_eq_true rfl⟩) ⟨gBlind, va_recv hK hP (ci := 11) (q0 := 0) rfl (mat_11 rfl), gStart (As := [.ref (ad 0), .ref (adK 9)]) hP hD hK0 hT hS hF (d_10)⟩ rfl rfl hl.1 rfl (lv_room (Nat.le_of_ble_eq_true rfl)) dX12_ruleAt_46 ⟨Nat.le_of_ble_eq_true rfl, Nat.le_of_ble_eq_true rfl⟩) hS (fun q _ h => hF q h) hF (fun r_13 σ4 t H locs ht hvm hw hB hz1 hk1 hS d_14 hd0 => ?_)
        have hts := dr_words hts0 (d_14)
        have hK := gKd hK0 (d_14)
        have hown : (s.setDrawn (d_14)).vm.findClass RX12 = some m.cls := hown0
        obtain ⟨hP, hD⟩ := gBack hF ht hB
        obtain ⟨hIσ4, hro, hp_15⟩ := hw
        subst hro
        refine lv_if_eq (tgt := 56) hx hb dX12_ruleAt_49 (by decide) (fun c_16 => ?_) (fun c_16 => ?_)
        · refine lv_aload_n hx hb dX12_ruleAt_56 rfl (lv_at hl 0 rfl) ?_
          refine va_ldcSW (tx := "actual") (q := (adK 10)) hx hb hown (vk_R.same rfl hT.2.1.2.2.2.2.2.2.2.2.2.2.1) dX12_ruleAt_57 ?_
          have hF := gFree hD hS hA
          refine va_calliD hd0 (va_runV_D (As := [.ref (adK 10)]) (rest := []) ⟨hx, hb, hml, hown, hts⟩ (n_X12_isWord l dC dI ad cA adK adV H.size σ hI 10 (by decide)) (cwV 1 hts gX12_ruleAt_X12_isWord rfl rfl rfl (by decide +kernel) ⟨Nat.le_of_ble_eq_true rfl, Nat.le_of_ble_eq_true rfl⟩) ⟨gBlind, va_recv hK hP (ci := 11) (q0 := 0) rfl (mat_11 rfl), gStart (As := [.ref (ad 0), .ref (adK 10)]) hP hD hK0 hT hS hF (d_14)⟩ rfl rfl hl.1 rfl (lv_room (Nat.le_of_ble_eq_true rfl)) dX12_ruleAt_60 ⟨Nat.le_of_ble_eq_true rfl, Nat.le_of_ble_eq_true rfl⟩) hS (fun q _ h => hF q h) hF (fun r_17 σ5 t H locs ht hvm hw hB hz1 hk1 hS d_18 hd0 => ?_)
          have hts := dr_words hts0 (d_18)
          have hK := gKd hK0 (d_18)
          have hown : (s.setDrawn (d_18)).vm.findClass RX12 = some m.cls := hown0
          obtain ⟨hP, hD⟩ := gBack hF ht hB
          obtain ⟨hIσ5, hro, hp_19⟩ := hw
          subst hro
          refine lv_if_eq (tgt := 70) hx hb dX12_ruleAt_63 (by decide) (fun c_20 => ?_) (fun c_20 => ?_)
          · refine lv_iconst (v := (-1)) hx hb dX12_ruleAt_70 (by decide) ?_
            refine W.endD hd0 ?_
            exact W.iret (v := (-1)) hx hb hr (fun t ht hW => ⟨⟨(-1), σ, rfl, ⟨hI, rfl, trivial⟩, ⟨by rw [ht]; exact hP, hD⟩⟩, hS.F ht⟩) hS.2.2 dX12_ruleAt_71
          · refine lv_iconst (v := 4) hx hb dX12_ruleAt_66 (by decide) ?_
            refine lv_goto (tgt := 71) hx hb dX12_ruleAt_67 (by decide) ?_
            refine W.endD hd0 ?_
            exact W.iret (v := 4) hx hb hr (fun t ht hW => ⟨⟨4, σ, rfl, ⟨hI, rfl, trivial⟩, ⟨by rw [ht]; exact hP, hD⟩⟩, hS.F ht⟩) hS.2.2 dX12_ruleAt_71
        · refine lv_iconst (v := 3) hx hb dX12_ruleAt_52 (by decide) ?_
          refine lv_goto (tgt := 71) hx hb dX12_ruleAt_53 (by decide) ?_
          refine W.endD hd0 ?_
          exact W.iret (v := 3) hx hb hr (fun t ht hW => ⟨⟨3, σ, rfl, ⟨hI, rfl, trivial⟩, ⟨by rw [ht]; exact hP, hD⟩⟩, hS.F ht⟩) hS.2.2 dX12_ruleAt_71
      · refine lv_iconst (v := 2) hx hb dX12_ruleAt_38 (by decide) ?_
        refine lv_goto (tgt := 71) hx hb dX12_ruleAt_39 (by decide) ?_
        refine W.endD hd0 ?_
        exact W.iret (v := 2) hx hb hr (fun t ht hW => ⟨⟨2, σ, rfl, ⟨hI, rfl, trivial⟩, ⟨by rw [ht]; exact hP, hD⟩⟩, hS.F ht⟩) hS.2.2 dX12_ruleAt_71
    · refine lv_iconst (v := 1) hx hb dX12_ruleAt_24 (by decide) ?_
      refine lv_goto (tgt := 71) hx hb dX12_ruleAt_25 (by decide) ?_
      refine W.endD hd0 ?_
      exact W.iret (v := 1) hx hb hr (fun t ht hW => ⟨⟨1, σ, rfl, ⟨hI, rfl, trivial⟩, ⟨by rw [ht]; exact hP, hD⟩⟩, hS.F ht⟩) hS.2.2 dX12_ruleAt_71
  · refine lv_iconst (v := 0) hx hb dX12_ruleAt_10 (by decide) ?_
    refine lv_goto (tgt := 71) hx hb dX12_ruleAt_11 (by decide) ?_
    refine W.endD hd0 ?_
    exact W.iret (v := 0) hx hb hr (fun t ht hW => ⟨⟨0, σ, rfl, ⟨hI, rfl, trivial⟩, ⟨by rw [ht]; exact hP, hD⟩⟩, hS.F ht⟩) hS.2.2 dX12_ruleAt_71
