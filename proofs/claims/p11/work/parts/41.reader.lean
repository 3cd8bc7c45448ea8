set_option maxHeartbeats 8000000 in
set_option maxRecDepth 100000 in
theorem n_X10_isWord (l : Launch) (dC : Nat → ClassId) (dI : Nat → Nat → Nat) (ad : Nat → Nat) (cA : Nat → ClassId) (adK adV : Nat → Nat) (sz : Nat) (σ : gs) (hI : InvX σ) (j0 : Nat) (hj0 : j0 < 36) : MetD lw_cs l yX10_isWord wsX10_isWord ({ frames := 4, cells := 0, slots := 0, locals := 85 }) (va_Pc [.ref (ad 2), .ref (adK j0)] (gPre adK adV (dC, dI) (wX ad cA σ) (tX cA) sz)) (va_Qi (fun (r : Int32) (τ : gs) => InvX τ ∧ σ = τ ∧ (r = 0 ∨ r = 1)) (fun τ t => gPost (dC, dI) (va_A (wX ad cA σ) sz) (wX ad cA τ) t) (va_A (wX ad cA σ) sz)) 0 0 (va_A (wX ad cA σ) sz) := by
  refine MetD.ofW (cc := cX10_isWord) (maxL := 3) (ret := (some .boolean)) (by decide) rfl ?_
  intro p e s m args below meth c s₁ B hml hv hd0
  obtain ⟨rfl, hsz, hP, hK, hD0, hT⟩ := hv
  have hx := B.exec
  have hb := B.bytes
  have hr := B.returns
  have hts0 := atoms_spec (ws := wsX10_isWord) B.pre
  have hK0 := hK
  have hown0 : s.vm.findClass RX10 = some m.cls := findClass_of_methodNamed B.named
  have hlocks := B.notSynchronized
  have hinX10 : ∀ w ∈ u_ws RX10 TX10 7, w ∈ wsX10_isWord := (fun _ h9 => List.mem_cons_of_mem _ (List.mem_append_right _ h9))
  subst hsz
  have hD := hD0.self (sz := s.heap.size)
  generalize hAe : va_A (wX ad cA σ) s.heap.size = A at hD hT ⊢
  have hA : ∀ q : Nat, s.heap.size ≤ q → A q := fun q h => by rw [← hAe]; exact Or.inr h
  have hS : va_S A s.heap s.heap [] := va_S.rf
  have hl := lv_entry ([.ref (ad 2), .ref (adK j0)]) (n := 3) (Nat.le_of_ble_eq_true rfl)
  rw [lg_entry_eq]
  generalize (lg_sl ([.ref (ad 2), .ref (adK j0)]) ++ List.replicate (3 - (lg_sl ([.ref (ad 2), .ref (adK j0)])).length) Slot.unset).toArray = ls at hl ⊢
  have hl : lv_has ls 3 [(0, .ref (ad 2)), (1, .ref (adK j0))] := hl
  have hts := dr_words hts0 (s.drawn)
  have hK := gKd hK0 (s.drawn)
  have hown : (s.setDrawn (s.drawn)).vm.findClass RX10 = some m.cls := hown0
  refine lv_aload_n hx hb dX10_isWord_0 rfl (lv_at hl 0 rfl) ?_
  refine va_get (D := (dC, dI)) (ci := 9) (v := .int ((σ 2).1 2)) (C := RX10) (T := TX10) (N := 7) hx hb hts hinX10 hown hK hP 2 (at_9 rfl) rfl 2 (by decide) (hts (.fieldLink RX10 17 "BondCalendars$Tape" "kind" "I") (by decide +kernel)) (fun _ h9 => h9) rfl dX10_isWord_1 ?_
  refine lv_iconst (v := 1) hx hb dX10_isWord_4 (by decide) ?_
  refine lv_icmp_ne (tgt := 36) hx hb dX10_isWord_5 (by decide) (fun c_1 => ?_) (fun c_1 => ?_)
  · refine lv_iconst (v := 0) hx hb dX10_isWord_36 (by decide) ?_
    refine W.endD hd0 ?_
    exact W.zret (v := 0) hx hb hr (by decide) (fun t ht hW => ⟨⟨0, σ, rfl, ⟨hI, rfl, Or.inl rfl⟩, ⟨by rw [ht]; exact hP, hD⟩⟩, hS.F ht⟩) hS.2.2 dX10_isWord_37
  · refine lv_aload_n hx hb dX10_isWord_8 rfl (lv_at hl 0 rfl) ?_
    have bd_2 := rd_9_6 (c := 2) hI rfl
    refine va_get (D := (dC, dI)) (ci := 9) (v := .int ((σ 2).1 6)) (C := RX10) (T := TX10) (N := 7) hx hb hts hinX10 hown hK hP 2 (at_9 rfl) rfl 6 (by decide) (hts (.fieldLink RX10 29 "BondCalendars$Tape" "next" "I") (by decide +kernel)) (fun _ h9 => h9) rfl dX10_isWord_9 ?_
    refine lv_aload_n hx hb dX10_isWord_12 rfl (lv_at hl 0 rfl) ?_
    have bd_3 := rd_9_3 (c := 2) hI rfl
    refine va_get (D := (dC, dI)) (ci := 9) (v := .int ((σ 2).1 3)) (C := RX10) (T := TX10) (N := 7) hx hb hts hinX10 hown hK hP 2 (at_9 rfl) rfl 3 (by decide) (hts (.fieldLink RX10 20 "BondCalendars$Tape" "start" "I") (by decide +kernel)) (fun _ h9 => h9) rfl dX10_isWord_13 ?_
    refine lv_isub hx hb dX10_isWord_16 ?_
    refine lv_topi (fun x_4 ex_4 => ?_)
    refine lv_aload_n hx hb dX10_isWord_17 rfl (lv_at hl 1 rfl) ?_
    have hF := gFree (w := []) (hx_D0 (A := A)) hS hA
    have hKe := hK.sub (tys' := []) [] rfl
    refine va_calli (va_runV (As := []) (rest := [.int x_4]) ⟨hx, hb, hml, hown, hts⟩ (k_J0_length_8abf5 l dC dI s.heap.size adK adV 0 j0 hj0) (cwV 0 hts gX10_isWord_J0_length_8abf5 rfl rfl rfl (by decide +kernel) ⟨Nat.le_of_ble_eq_true rfl, Nat.le_of_ble_eq_true rfl⟩) ⟨fun a U g mk q => by obtain ⟨q0, q1, qP, qK, qD, qT⟩ := q; exact ⟨q0, q1, qP, va_K.moved (u := U) (U := U.calling g mk a) (Vm.Alike.refl U.vm) qK, qD, sk_F.moved (u := U) (U := U.calling g mk a) (Vm.Alike.refl U.vm) qT⟩, vk_recv (hT.1.1 j0 hj0) Nat.one_pos hS, fun U hU hW => ⟨rfl, by rw [hU], hx_P0, va_K.moved hW.alike hKe, hx_D0, by rw [hU]; exact sk_F.moved hW.alike ((hT.1.kept hS.2.1).narrow hF)⟩⟩ rfl rfl hl.1 rfl (lv_room (Nat.le_of_ble_eq_true rfl)) dX10_isWord_18 ⟨Nat.le_of_ble_eq_true rfl, Nat.le_of_ble_eq_true rfl⟩) hS (fun q _ h => hF q h) hF (fun r_5 u t H locs ht hvm hw hB hz1 hk1 hS => ?_)
    have hP := gKeep hP hk1
    obtain rfl : r_5 = nI (sk_L.getD j0 0) := hw
    refine lv_icmp_ne (tgt := 36) hx hb dX10_isWord_21 (by decide) (fun c_6 => ?_) (fun c_6 => ?_)
    · refine lv_iconst (v := 0) hx hb dX10_isWord_36 (by decide) ?_
      refine W.endD hd0 ?_
      exact W.zret (v := 0) hx hb hr (by decide) (fun t ht hW => ⟨⟨0, σ, rfl, ⟨hI, rfl, Or.inl rfl⟩, ⟨by rw [ht]; exact hP, hD⟩⟩, hS.F ht⟩) hS.2.2 dX10_isWord_37
    · refine lv_aload_n hx hb dX10_isWord_24 rfl (lv_at hl 0 rfl) ?_
      refine va_get (D := (dC, dI)) (ci := 9) (v := .int ((σ 2).1 6)) (C := RX10) (T := TX10) (N := 7) hx hb hts hinX10 hown hK hP 2 (at_9 rfl) rfl 6 (by decide) (hts (.fieldLink RX10 29 "BondCalendars$Tape" "next" "I") (by decide +kernel)) (fun _ h9 => h9) rfl dX10_isWord_25 ?_
      refine lv_aload_n hx hb dX10_isWord_28 rfl (lv_at hl 0 rfl) ?_
      refine va_get (D := (dC, dI)) (ci := 9) (v := .ref (ad 3)) (C := RX10) (T := TX10) (N := 7) hx hb hts hinX10 hown hK hP 2 (at_9 rfl) rfl 0 (by decide) (hts (.fieldLink RX10 9 "BondCalendars$Tape" "bytes" "[B") (by decide +kernel)) (fun _ h9 => h9) rfl dX10_isWord_29 ?_
      refine va_alen (v := 900) hx hb hK hP 3 3 (at_20 rfl) (ty_20 rfl) rfl dX10_isWord_32 ?_
      refine lv_icmp_le (tgt := 38) hx hb dX10_isWord_33 (by decide) (fun c_7 => ?_) (fun c_7 => ?_)
      · refine lv_iconst (v := 0) hx hb dX10_isWord_38 (by decide) ?_
        refine lv_istore_n (lv' := [(2, .int 0), (0, .ref (ad 2)), (1, .ref (adK j0))]) hx hb dX10_isWord_39 rfl hl (by decide) rfl (fun ls hl => ?_)
        refine (fun (h : ∀ (n : Nat) (i2 : Int32) (d40 : Drawn) (H : Heap) (locs : List Loc) (ls : Array Slot), (((nI (sk_L.getD j0 0)) : Int32).toInt - i2.toInt).toNat < n → 0 ≤ i2 → s.drawn.sameBut d40 lw_cs → va_P (dC, dI) vwCl (wX ad cA σ) H → va_D A (wX ad cA σ) → va_S A s.heap H locs → lv_has ls 3 [(2, .int i2), (0, .ref (ad 2)), (1, .ref (adK j0))] → W p l e _ (s.setDrawn d40) m _ below meth c H locs _ _ _ (F0 m 40 ls [])) => h _ 0 _ _ _ _ (Nat.lt_succ_self _) (by decide) hd0 hP hD hS (lv_sub hl [0, 1, 2] rfl)) ?_
        intro n40
        induction n40 with
        | zero => intro i2  d40 H locs ls hm; exact absurd hm (Nat.not_lt_zero _)
        | succ n40 ih40 =>
          intro i2  d40 H locs ls hm40 iv40_0  hd0 hP hD hS hl
          have hts := dr_words hts0 (d40)
          have hK := gKd hK0 (d40)
          have hown : (s.setDrawn (d40)).vm.findClass RX10 = some m.cls := hown0
          refine lv_iload_n hx hb dX10_isWord_40 rfl (lv_at hl 0 rfl) ?_
          refine lv_aload_n hx hb dX10_isWord_41 rfl (lv_at hl 2 rfl) ?_
          have hF := gFree (w := []) (hx_D0 (A := A)) hS hA
          have hKe := hK.sub (tys' := []) [] rfl
          refine va_calli (va_runV (As := []) (rest := [.int i2]) ⟨hx, hb, hml, hown, hts⟩ (k_J0_length_8abf5 l dC dI H.size adK adV 0 j0 hj0) (cwV 0 hts gX10_isWord_J0_length_8abf5 rfl rfl rfl (by decide +kernel) ⟨Nat.le_of_ble_eq_true rfl, Nat.le_of_ble_eq_true rfl⟩) ⟨fun a U g mk q => by obtain ⟨q0, q1, qP, qK, qD, qT⟩ := q; exact ⟨q0, q1, qP, va_K.moved (u := U) (U := U.calling g mk a) (Vm.Alike.refl U.vm) qK, qD, sk_F.moved (u := U) (U := U.calling g mk a) (Vm.Alike.refl U.vm) qT⟩, vk_recv (hT.1.1 j0 hj0) Nat.one_pos hS, fun U hU hW => ⟨rfl, by rw [hU], hx_P0, va_K.moved hW.alike hKe, hx_D0, by rw [hU]; exact sk_F.moved hW.alike ((hT.1.kept hS.2.1).narrow hF)⟩⟩ rfl rfl hl.1 rfl (lv_room (Nat.le_of_ble_eq_true rfl)) dX10_isWord_42 ⟨Nat.le_of_ble_eq_true rfl, Nat.le_of_ble_eq_true rfl⟩) hS (fun q _ h => hF q h) hF (fun r_8 u t H locs ht hvm hw hB hz1 hk1 hS => ?_)
          have hP := gKeep hP hk1
          obtain rfl : r_8 = nI (sk_L.getD j0 0) := hw
          refine lv_icmp_ge (tgt := 75) hx hb dX10_isWord_45 (by decide) (fun c_9 => ?_) (fun c_9 => ?_)
          · refine lv_iconst (v := 1) hx hb dX10_isWord_75 (by decide) ?_
            refine W.endD hd0 ?_
            exact W.zret (v := 1) hx hb hr (by decide) (fun t ht hW => ⟨⟨1, σ, rfl, ⟨hI, rfl, Or.inr rfl⟩, ⟨by rw [ht]; exact hP, hD⟩⟩, hS.F ht⟩) hS.2.2 dX10_isWord_76
          · refine lv_aload_n hx hb dX10_isWord_48 rfl (lv_at hl 1 rfl) ?_
            refine va_get (D := (dC, dI)) (ci := 9) (v := .ref (ad 3)) (C := RX10) (T := TX10) (N := 7) hx hb hts hinX10 hown hK hP 2 (at_9 rfl) rfl 0 (by decide) (hts (.fieldLink RX10 9 "BondCalendars$Tape" "bytes" "[B") (by decide +kernel)) (fun _ h9 => h9) rfl dX10_isWord_49 ?_
            refine lv_aload_n hx hb dX10_isWord_52 rfl (lv_at hl 1 rfl) ?_
            refine va_get (D := (dC, dI)) (ci := 9) (v := .int ((σ 2).1 3)) (C := RX10) (T := TX10) (N := 7) hx hb hts hinX10 hown hK hP 2 (at_9 rfl) rfl 3 (by decide) (hts (.fieldLink RX10 20 "BondCalendars$Tape" "start" "I") (by decide +kernel)) (fun _ h9 => h9) rfl dX10_isWord_53 ?_
            refine lv_iload_n hx hb dX10_isWord_56 rfl (lv_at hl 0 rfl) ?_
            refine lv_iadd hx hb dX10_isWord_57 ?_
            refine lv_topi (fun x_10 ex_10 => ?_)
            refine va_bald hx hb hK hP 3 3 (at_20 rfl) (ty_20 rfl) (gin (N := 900) (by decide) (widx bd_3 bd_2 c_7 ex_4 c_6 iv40_0 (Int32.not_le.mp c_9) ex_10).1 (widx bd_3 bd_2 c_7 ex_4 c_6 iv40_0 (Int32.not_le.mp c_9) ex_10).2) dX10_isWord_58 ?_
            refine lv_topi (fun x_11 _ => ?_)
            refine lv_aload_n hx hb dX10_isWord_59 rfl (lv_at hl 2 rfl) ?_
            refine lv_iload_n hx hb dX10_isWord_60 rfl (lv_at hl 0 rfl) ?_
            have hF := gFree (w := []) (hx_D0 (A := A)) hS hA
            have hKe := hK.sub (tys' := []) [] rfl
            obtain ⟨kk_13, hkk_13, ekk_13⟩ := nI_of (x := i2) (Int32.not_lt.mpr iv40_0)
            refine va_calli (va_runV (As := [.int i2]) (rest := [.int x_11]) ⟨hx, hb, hml, hown, hts⟩ (k_J0_charAt_5068e l dC dI H.size adK adV 0 j0 kk_13 hj0 (str_lt ekk_13 hkk_13 (sk_len hj0) (Int32.not_le.mp c_9))) (cwV 1 hts gX10_isWord_J0_charAt_5068e rfl rfl rfl (by decide +kernel) ⟨Nat.le_of_ble_eq_true rfl, Nat.le_of_ble_eq_true rfl⟩) ⟨fun a U g mk q => by obtain ⟨q0, q1, qP, qK, qD, qT⟩ := q; exact ⟨q0, q1, qP, va_K.moved (u := U) (U := U.calling g mk a) (Vm.Alike.refl U.vm) qK, qD, sk_F.moved (u := U) (U := U.calling g mk a) (Vm.Alike.refl U.vm) qT⟩, vk_recv (hT.1.1 j0 hj0) Nat.one_pos hS, fun U hU hW => ⟨(by rw [ekk_13]), by rw [hU], hx_P0, va_K.moved hW.alike hKe, hx_D0, by rw [hU]; exact sk_F.moved hW.alike ((hT.1.kept hS.2.1).narrow hF)⟩⟩ rfl rfl hl.1 rfl (lv_room (Nat.le_of_ble_eq_true rfl)) dX10_isWord_61 ⟨Nat.le_of_ble_eq_true rfl, Nat.le_of_ble_eq_true rfl⟩) hS (fun q _ h => hF q h) hF (fun r_12 u t H locs ht hvm hw hB hz1 hk1 hS => ?_)
            have hP := gKeep hP hk1
            refine lv_icmp_eq (tgt := 69) hx hb dX10_isWord_64 (by decide) (fun c_14 => ?_) (fun c_14 => ?_)
            · obtain ⟨x_15, ex_15⟩ : ∃ zz : Int32, zz = i2 + 1 := ⟨_, rfl⟩
              refine lv_iinc (v := x_15) (lv' := [(2, .int x_15), (0, .ref (ad 2)), (1, .ref (adK j0))]) hx hb dX10_isWord_69 hl (k := 0) rfl (by rw [ex_15]; rfl) (by decide) rfl (fun ls hl => ?_)
              refine lv_goto (tgt := 40) hx hb dX10_isWord_72 (by decide) ?_
              exact ih40 x_15 _ _ _ _ (cnt_m iv40_0 (Int32.not_le.mp c_9) hm40 ex_15) (cnt_0 iv40_0 (Int32.not_le.mp c_9) ex_15) hd0 hP hD hS (lv_sub hl [0, 1, 2] rfl)
            · refine lv_iconst (v := 0) hx hb dX10_isWord_67 (by decide) ?_
              refine W.endD hd0 ?_
              exact W.zret (v := 0) hx hb hr (by decide) (fun t ht hW => ⟨⟨0, σ, rfl, ⟨hI, rfl, Or.inl rfl⟩, ⟨by rw [ht]; exact hP, hD⟩⟩, hS.F ht⟩) hS.2.2 dX10_isWord_68
      · refine lv_iconst (v := 0) hx hb dX10_isWord_36 (by decide) ?_
        refine W.endD hd0 ?_
        exact W.zret (v := 0) hx hb hr (by decide) (fun t ht hW => ⟨⟨0, σ, rfl, ⟨hI, rfl, Or.inl rfl⟩, ⟨by rw [ht]; exact hP, hD⟩⟩, hS.F ht⟩) hS.2.2 dX10_isWord_37
set_option maxHeartbeats 8000000 in
set_option maxRecDepth 100000 in
theorem n_X7_fail (l : Launch) (dC : Nat → ClassId) (dI : Nat → Nat → Nat) (ad : Nat → Nat) (cA : Nat → ClassId) (adK adV : Nat → Nat) (sz : Nat) (σ : gs) (hI : InvX σ) (p0 : Int32) (p1 : Int32) : MetD lw_cs l yX7_fail wsX7_fail ({ frames := 0, cells := 0, slots := 0, locals := 0 }) (va_Pc [.ref (ad 1), .int p0, .int p1] (gPre adK adV (dC, dI) (wX ad cA σ) (tX cA) sz)) (va_Qi (fun (r : Int32) (τ : gs) => InvX τ ∧ gFr [6] σ τ ∧ (r = 0 ∨ r = 1)) (fun τ t => gPost (dC, dI) (va_A (wX ad cA σ) sz) (wX ad cA τ) t) (va_A (wX ad cA σ) sz)) 0 0 (va_A (wX ad cA σ) sz) := by
  refine MetD.ofW (cc := cX7_fail) (maxL := 3) (ret := (some .boolean)) (by decide) rfl ?_
  intro p e s m args below meth c s₁ B hml hv hd0
  obtain ⟨rfl, hsz, hP, hK, hD0, hT⟩ := hv
  have hx := B.exec
  have hb := B.bytes
  have hr := B.returns
  have hts0 := atoms_spec (ws := wsX7_fail) B.pre
  have hK0 := hK
  have hown0 : s.vm.findClass RX7 = some m.cls := findClass_of_methodNamed B.named
  have hlocks := B.notSynchronized
  have hinX7 : ∀ w ∈ u_ws RX7 TX7 5, w ∈ wsX7_fail := (fun _ h9 => List.mem_cons_of_mem _ (List.mem_append_right _ h9))
  subst hsz
  have hD := hD0.self (sz := s.heap.size)
  generalize hAe : va_A (wX ad cA σ) s.heap.size = A at hD hT ⊢
  have hA : ∀ q : Nat, s.heap.size ≤ q → A q := fun q h => by rw [← hAe]; exact Or.inr h
  have hS : va_S A s.heap s.heap [] := va_S.rf
  have hl := lv_entry ([.ref (ad 1), .int p0, .int p1]) (n := 3) (Nat.le_of_ble_eq_true rfl)
  rw [lg_entry_eq]
  generalize (lg_sl ([.ref (ad 1), .int p0, .int p1]) ++ List.replicate (3 - (lg_sl ([.ref (ad 1), .int p0, .int p1])).length) Slot.unset).toArray = ls at hl ⊢
  have hl : lv_has ls 3 [(0, .ref (ad 1)), (1, .int p0), (2, .int p1)] := hl
  have hts := dr_words hts0 (s.drawn)
  have hK := gKd hK0 (s.drawn)
  have hown : (s.setDrawn (s.drawn)).vm.findClass RX7 = some m.cls := hown0
  refine lv_aload_n hx hb dX7_fail_0 rfl (lv_at hl 0 rfl) ?_
  refine lv_iload_n hx hb dX7_fail_1 rfl (lv_at hl 1 rfl) ?_
  refine va_put (D := (dC, dI)) (ci := 6) (v := .int p0) (C := RX7) (T := TX7) (N := 5) hx hb hts hinX7 tyX7 tyX7_ok nmX7 hown hK hP hD hS 1 (at_6 rfl) rfl 1 (by decide) (hts (.fieldLink RX7 18 "BondCalendars$Reader" "faultNumber" "I") (by decide +kernel)) (fun _ h9 => h9) rfl (ty := .int) (by decide +kernel) rfl rfl (Nat.le_of_ble_eq_true rfl) dX7_fail_2 (fun H locs hP hD hS => ?_)
  obtain ⟨σ1, eσ1, hP, hD⟩ := gPut (se_6_1 rfl) hP hD
  have hIσ1 : InvX σ1 := by rw [eσ1]; exact inv_I hI (ok_6_1 rfl _)
  have frσ1 : gFr [6] σ σ1 := by rw [eσ1]; exact gFr.pI (gFr.rfl (L := [6]) (σ := σ)) rfl (by decide)
  refine lv_aload_n hx hb dX7_fail_5 rfl (lv_at hl 0 rfl) ?_
  refine lv_iload_n hx hb dX7_fail_6 rfl (lv_at hl 2 rfl) ?_
  refine va_put (D := (dC, dI)) (ci := 6) (v := .int p1) (C := RX7) (T := TX7) (N := 5) hx hb hts hinX7 tyX7 tyX7_ok nmX7 hown hK hP hD hS 1 (at_6 rfl) rfl 2 (by decide) (hts (.fieldLink RX7 22 "BondCalendars$Reader" "faultPlace" "I") (by decide +kernel)) (fun _ h9 => h9) rfl (ty := .int) (by decide +kernel) rfl rfl (Nat.le_of_ble_eq_true rfl) dX7_fail_7 (fun H locs hP hD hS => ?_)
  obtain ⟨σ2, eσ2, hP, hD⟩ := gPut (se_6_2 rfl) hP hD
  have hIσ2 : InvX σ2 := by rw [eσ2]; exact inv_I hIσ1 (ok_6_2 rfl _)
  have frσ2 : gFr [6] σ σ2 := by rw [eσ2]; exact gFr.pI frσ1 rfl (by decide)
  refine lv_iconst (v := 0) hx hb dX7_fail_10 (by decide) ?_
  refine W.endD hd0 ?_
  exact W.zret (v := 0) hx hb hr (by decide) (fun t ht hW => ⟨⟨0, σ2, rfl, ⟨hIσ2, frσ2, Or.inl rfl⟩, ⟨by rw [ht]; exact hP, hD⟩⟩, hS.F ht⟩) hS.2.2 dX7_fail_11
set_option maxHeartbeats 8000000 in
set_option maxRecDepth 100000 in
theorem n_X7_takeWord (l : Launch) (dC : Nat → ClassId) (dI : Nat → Nat → Nat) (ad : Nat → Nat) (cA : Nat → ClassId) (adK adV : Nat → Nat) (sz : Nat) (σ : gs) (hI : InvX σ) (j0 : Nat) (hj0 : j0 < 36) : MetD lw_cs l yX7_takeWord wsX7_takeWord ({ frames := 5, cells := 0, slots := 0, locals := 107 }) (va_Pc [.ref (ad 1), .ref (adK j0)] (gPre adK adV (dC, dI) (wX ad cA σ) (tX cA) sz)) (va_Qi (fun (r : Int32) (τ : gs) => InvX τ ∧ gFr [6, 9] σ τ ∧ (r = 0 ∨ r = 1)) (fun τ t => gPost (dC, dI) (va_A (wX ad cA σ) sz) (wX ad cA τ) t) (va_A (wX ad cA σ) sz)) 0 0 (va_A (wX ad cA σ) sz) := by
  refine MetD.ofW (cc := cX7_takeWord) (maxL := 2) (ret := (some .boolean)) (by decide) rfl ?_
  intro p e s m args below meth c s₁ B hml hv hd0
  obtain ⟨rfl, hsz, hP, hK, hD0, hT⟩ := hv
  have hx := B.exec
  have hb := B.bytes
  have hr := B.returns
  have hts0 := atoms_spec (ws := wsX7_takeWord) B.pre
  have hK0 := hK
  have hown0 : s.vm.findClass RX7 = some m.cls := findClass_of_methodNamed B.named
  have hlocks := B.notSynchronized
  have hinX7 : ∀ w ∈ u_ws RX7 TX7 5, w ∈ wsX7_takeWord := (fun _ h9 => List.mem_cons_of_mem _ (List.mem_append_left _ (List.mem_append_right _ h9)))
  have hinX10 : ∀ w ∈ u_ws RX10 TX10 7, w ∈ wsX7_takeWord := (fun _ h9 => List.mem_cons_of_mem _ (List.mem_append_right _ h9))
  subst hsz
  have hD := hD0.self (sz := s.heap.size)
  generalize hAe : va_A (wX ad cA σ) s.heap.size = A at hD hT ⊢
  have hA : ∀ q : Nat, s.heap.size ≤ q → A q := fun q h => by rw [← hAe]; exact Or.inr h
  have hS : va_S A s.heap s.heap [] := va_S.rf
  have hl := lv_entry ([.ref (ad 1), .ref (adK j0)]) (n := 2) (Nat.le_of_ble_eq_true rfl)
  rw [lg_entry_eq]
  generalize (lg_sl ([.ref (ad 1), .ref (adK j0)]) ++ List.replicate (2 - (lg_sl ([.ref (ad 1), .ref (adK j0)])).length) Slot.unset).toArray = ls at hl ⊢
  have hl : lv_has ls 2 [(0, .ref (ad 1)), (1, .ref (adK j0))] := hl
  have hts := dr_words hts0 (s.drawn)
  have hK := gKd hK0 (s.drawn)
  have hown : (s.setDrawn (s.drawn)).vm.findClass RX7 = some m.cls := hown0
  refine lv_aload_n hx hb dX7_takeWord_0 rfl (lv_at hl 0 rfl) ?_
  refine va_get (D := (dC, dI)) (ci := 6) (v := .ref (ad 2)) (C := RX7) (T := TX7) (N := 5) hx hb hts hinX7 hown hK hP 1 (at_6 rfl) rfl 0 (by decide) (hts (.fieldLink RX7 12 "BondCalendars$Reader" "tape" "LBondCalendars$Tape;") (by decide +kernel)) (fun _ h9 => h9) rfl dX7_takeWord_1 ?_
  refine lv_aload_n hx hb dX7_takeWord_4 rfl (lv_at hl 1 rfl) ?_
  have hF := gFree hD hS hA
  refine va_calliD hd0 (va_runV_D (As := [.ref (adK j0)]) (rest := []) ⟨hx, hb, hml, hown, hts⟩ (n_X10_isWord l dC dI ad cA adK adV s.heap.size σ hI j0 hj0) (cwV 1 hts gX7_takeWord_X10_isWord rfl rfl rfl (by decide +kernel) ⟨Nat.le_of_ble_eq_true rfl, Nat.le_of_ble_eq_true rfl⟩) ⟨gBlind, va_recv hK hP (ci := 9) (q0 := 2) rfl (at_9 rfl), gStart (As := [.ref (ad 2), .ref (adK j0)]) hP hD hK0 hT hS hF (s.drawn)⟩ rfl rfl hl.1 rfl (lv_room (Nat.le_of_ble_eq_true rfl)) dX7_takeWord_5 ⟨Nat.le_of_ble_eq_true rfl, Nat.le_of_ble_eq_true rfl⟩) hS (fun q _ h => hF q h) hF (fun r_1 σ1 t H locs ht hvm hw hB hz1 hk1 hS d_2 hd0 => ?_)
  have hts := dr_words hts0 (d_2)
  have hK := gKd hK0 (d_2)
  have hown : (s.setDrawn (d_2)).vm.findClass RX7 = some m.cls := hown0
  obtain ⟨hP, hD⟩ := gBack hF ht hB
  obtain ⟨hIσ1, hro, hp_3⟩ := hw
  subst hro
  refine lv_if_ne (tgt := 24) hx hb dX7_takeWord_8 (by decide) (fun c_4 => ?_) (fun c_4 => ?_)
  · refine lv_aload_n hx hb dX7_takeWord_24 rfl (lv_at hl 0 rfl) ?_
    refine va_get (D := (dC, dI)) (ci := 6) (v := .ref (ad 2)) (C := RX7) (T := TX7) (N := 5) hx hb hts hinX7 hown hK hP 1 (at_6 rfl) rfl 0 (by decide) (hts (.fieldLink RX7 12 "BondCalendars$Reader" "tape" "LBondCalendars$Tape;") (by decide +kernel)) (fun _ h9 => h9) rfl dX7_takeWord_25 ?_
    have hF := gFree hD hS hA
    refine va_callvD hd0 (va_runV_D (As := []) (rest := []) ⟨hx, hb, hml, hown, hts⟩ (n_X10_advance l dC dI ad cA adK adV H.size σ hI ) (cwV 0 hts gX7_takeWord_X10_advance rfl rfl rfl (by decide +kernel) ⟨Nat.le_of_ble_eq_true rfl, Nat.le_of_ble_eq_true rfl⟩) ⟨gBlind, va_recv hK hP (ci := 9) (q0 := 2) rfl (at_9 rfl), gStart (As := [.ref (ad 2)]) hP hD hK0 hT hS hF (d_2)⟩ rfl rfl hl.1 rfl (lv_room (Nat.le_of_ble_eq_true rfl)) dX7_takeWord_28 ⟨Nat.le_of_ble_eq_true rfl, Nat.le_of_ble_eq_true rfl⟩) hS (fun q _ h => hF q h) hF (fun σ2 t H locs ht hvm hw hB hz1 hk1 hS d_6 hd0 => ?_)
    have hts := dr_words hts0 (d_6)
    have hK := gKd hK0 (d_6)
    have hown : (s.setDrawn (d_6)).vm.findClass RX7 = some m.cls := hown0
    obtain ⟨hP, hD⟩ := gBack hF ht hB
    obtain ⟨hIσ2, fcσ2, hp_7⟩ := hw
    refine lv_iconst (v := 1) hx hb dX7_takeWord_31 (by decide) ?_
    refine W.endD hd0 ?_
    exact W.zret (v := 1) hx hb hr (by decide) (fun t ht hW => ⟨⟨1, σ2, rfl, ⟨hIσ2, (gFr.tr (gFr.rfl (L := [6, 9]) (σ := σ)) fcσ2 (by decide)), Or.inr rfl⟩, ⟨by rw [ht]; exact hP, hD⟩⟩, hS.F ht⟩) hS.2.2 dX7_takeWord_32
  · refine lv_aload_n hx hb dX7_takeWord_11 rfl (lv_at hl 0 rfl) ?_
    refine lv_iconst (v := 1) hx hb dX7_takeWord_12 (by decide) ?_
    refine lv_aload_n hx hb dX7_takeWord_13 rfl (lv_at hl 0 rfl) ?_
    refine va_get (D := (dC, dI)) (ci := 6) (v := .ref (ad 2)) (C := RX7) (T := TX7) (N := 5) hx hb hts hinX7 hown hK hP 1 (at_6 rfl) rfl 0 (by decide) (hts (.fieldLink RX7 12 "BondCalendars$Reader" "tape" "LBondCalendars$Tape;") (by decide +kernel)) (fun _ h9 => h9) rfl dX7_takeWord_14 ?_
    have bd_8 := rd_9_3 (c := 2) hI rfl
    refine va_get (D := (dC, dI)) (ci := 9) (v := .int ((σ 2).1 3)) (C := RX10) (T := TX10) (N := 7) hx hb hts hinX10 hown hK hP 2 (at_9 rfl) rfl 3 (by decide) (hts (.fieldLink RX7 52 "BondCalendars$Tape" "start" "I") (by decide +kernel)) (fun _ h9 => h9) rfl dX7_takeWord_17 ?_
    have hF := gFree hD hS hA
    refine va_calliD hd0 (va_runV_D (As := [.int 1, .int ((σ 2).1 3)]) (rest := []) ⟨hx, hb, hml, hown, hts⟩ (n_X7_fail l dC dI ad cA adK adV H.size σ hI 1 ((σ 2).1 3)) (cwV 2 hts gX7_takeWord_X7_fail rfl rfl rfl (by decide +kernel) ⟨Nat.le_of_ble_eq_true rfl, Nat.le_of_ble_eq_true rfl⟩) ⟨gBlind, va_recv hK hP (ci := 6) (q0 := 1) rfl (at_6 rfl), gStart (As := [.ref (ad 1), .int 1, .int ((σ 2).1 3)]) hP hD hK0 hT hS hF (d_2)⟩ rfl rfl hl.1 rfl (lv_room (Nat.le_of_ble_eq_true rfl)) dX7_takeWord_20 ⟨Nat.le_of_ble_eq_true rfl, Nat.le_of_ble_eq_true rfl⟩) hS (fun q _ h => hF q h) hF (fun r_9 σ3 t H locs ht hvm hw hB hz1 hk1 hS d_10 hd0 => ?_)
    have hts := dr_words hts0 (d_10)
    have hK := gKd hK0 (d_10)
    have hown : (s.setDrawn (d_10)).vm.findClass RX7 = some m.cls := hown0
    obtain ⟨hP, hD⟩ := gBack hF ht hB
    obtain ⟨hIσ3, fcσ3, hp_11⟩ := hw
    refine W.endD hd0 ?_
    exact W.zret (v := r_9) hx hb hr (by rcases hp_11 with h9 | h9 <;> rw [h9] <;> decide +kernel) (fun t ht hW => ⟨⟨r_9, σ3, rfl, ⟨hIσ3, (gFr.tr (gFr.rfl (L := [6, 9]) (σ := σ)) fcσ3 (by decide)), hp_11⟩, ⟨by rw [ht]; exact hP, hD⟩⟩, hS.F ht⟩) hS.2.2 dX7_takeWord_23
set_option maxHeartbeats 8000000 in
set_option maxRecDepth 100000 in
theorem n_X7_takeWhole (l : Launch) (dC : Nat → ClassId) (dI : Nat → Nat → Nat) (ad : Nat → Nat) (cA : Nat → ClassId) (adK adV : Nat → Nat) (sz : Nat) (σ : gs) (hI : InvX σ) (p0 : Int32) (p1 : Int32) : MetD lw_cs l yX7_takeWhole wsX7_takeWhole ({ frames := 1, cells := 0, slots := 0, locals := 26 }) (va_Pc [.ref (ad 1), .int p0, .int p1] (gPre adK adV (dC, dI) (wX ad cA σ) (tX cA) sz)) (va_Qi (fun (r : Int32) (τ : gs) => InvX τ ∧ gFr [6, 9] σ τ ∧ (True)) (fun τ t => gPost (dC, dI) (va_A (wX ad cA σ) sz) (wX ad cA τ) t) (va_A (wX ad cA σ) sz)) 0 0 (va_A (wX ad cA σ) sz) := by
  refine MetD.ofW (cc := cX7_takeWhole) (maxL := 4) (ret := (some .int)) (by decide) rfl ?_
  intro p e s m args below meth c s₁ B hml hv hd0
  obtain ⟨rfl, hsz, hP, hK, hD0, hT⟩ := hv
  have hx := B.exec
  have hb := B.bytes
  have hr := B.returns
  have hts0 := atoms_spec (ws := wsX7_takeWhole) B.pre
  have hK0 := hK
  have hown0 : s.vm.findClass RX7 = some m.cls := findClass_of_methodNamed B.named
  have hlocks := B.notSynchronized
  have hinX7 : ∀ w ∈ u_ws RX7 TX7 5, w ∈ wsX7_takeWhole := (fun _ h9 => List.mem_cons_of_mem _ (List.mem_append_left _ (List.mem_append_right _ h9)))
  have hinX10 : ∀ w ∈ u_ws RX10 TX10 7, w ∈ wsX7_takeWhole := (fun _ h9 => List.mem_cons_of_mem _ (List.mem_append_right _ h9))
  subst hsz
  have hD := hD0.self (sz := s.heap.size)
  generalize hAe : va_A (wX ad cA σ) s.heap.size = A at hD hT ⊢
  have hA : ∀ q : Nat, s.heap.size ≤ q → A q := fun q h => by rw [← hAe]; exact Or.inr h
  have hS : va_S A s.heap s.heap [] := va_S.rf
  have hl := lv_entry ([.ref (ad 1), .int p0, .int p1]) (n := 4) (Nat.le_of_ble_eq_true rfl)
  rw [lg_entry_eq]
  generalize (lg_sl ([.ref (ad 1), .int p0, .int p1]) ++ List.replicate (4 - (lg_sl ([.ref (ad 1), .int p0, .int p1])).length) Slot.unset).toArray = ls at hl ⊢
  have hl : lv_has ls 4 [(0, .ref (ad 1)), (1, .int p0), (2, .int p1)] := hl
  have hts := dr_words hts0 (s.drawn)
  have hK := gKd hK0 (s.drawn)
  have hown : (s.setDrawn (s.drawn)).vm.findClass RX7 = some m.cls := hown0
  refine lv_aload_n hx hb dX7_takeWhole_0 rfl (lv_at hl 0 rfl) ?_
  refine lv_aload_n hx hb dX7_takeWhole_1 rfl (lv_at hl 0 rfl) ?_
  refine va_get (D := (dC, dI)) (ci := 6) (v := .ref (ad 2)) (C := RX7) (T := TX7) (N := 5) hx hb hts hinX7 hown hK hP 1 (at_6 rfl) rfl 0 (by decide) (hts (.fieldLink RX7 12 "BondCalendars$Reader" "tape" "LBondCalendars$Tape;") (by decide +kernel)) (fun _ h9 => h9) rfl dX7_takeWhole_2 ?_
  have bd_1 := rd_9_3 (c := 2) hI rfl
  refine va_get (D := (dC, dI)) (ci := 9) (v := .int ((σ 2).1 3)) (C := RX10) (T := TX10) (N := 7) hx hb hts hinX10 hown hK hP 2 (at_9 rfl) rfl 3 (by decide) (hts (.fieldLink RX7 52 "BondCalendars$Tape" "start" "I") (by decide +kernel)) (fun _ h9 => h9) rfl dX7_takeWhole_5 ?_
  refine va_put (D := (dC, dI)) (ci := 6) (v := .int ((σ 2).1 3)) (C := RX7) (T := TX7) (N := 5) hx hb hts hinX7 tyX7 tyX7_ok nmX7 hown hK hP hD hS 1 (at_6 rfl) rfl 4 (by decide) (hts (.fieldLink RX7 29 "BondCalendars$Reader" "wholeAt" "I") (by decide +kernel)) (fun _ h9 => h9) rfl (ty := .int) (by decide +kernel) rfl rfl (Nat.le_of_ble_eq_true rfl) dX7_takeWhole_8 (fun H locs hP hD hS => ?_)
  obtain ⟨σ1, eσ1, hP, hD⟩ := gPut (se_6_4 rfl) hP hD
  have hIσ1 : InvX σ1 := by rw [eσ1]; exact inv_I hI (ok_6_4 rfl _)
  have frσ1 : gFr [6, 9] σ σ1 := by rw [eσ1]; exact gFr.pI (gFr.rfl (L := [6, 9]) (σ := σ)) rfl (by decide)
  refine lv_aload_n hx hb dX7_takeWhole_11 rfl (lv_at hl 0 rfl) ?_
  refine va_get (D := (dC, dI)) (ci := 6) (v := .ref (ad 2)) (C := RX7) (T := TX7) (N := 5) hx hb hts hinX7 hown hK hP 1 (at_6 rfl) rfl 0 (by decide) (hts (.fieldLink RX7 12 "BondCalendars$Reader" "tape" "LBondCalendars$Tape;") (by decide +kernel)) (fun _ h9 => h9) rfl dX7_takeWhole_12 ?_
  refine va_get (D := (dC, dI)) (ci := 9) (v := .int ((σ 2).1 4)) (C := RX10) (T := TX10) (N := 7) hx hb hts hinX10 hown hK hP 2 (at_9 rfl) rfl 4 (by decide) (hts (.fieldLink RX7 248 "BondCalendars$Tape" "value" "I") (by decide +kernel)) (fun _ h9 => h9) (congrArg (fun z => some (Value.int z)) (show (σ1 2).1 4 = ((σ 2).1 4) from by rw [eσ1, gI_ne _ _ _ (by decide)])) dX7_takeWhole_15 ?_
  refine lv_istore_n (lv' := [(3, .int ((σ 2).1 4)), (0, .ref (ad 1)), (1, .int p0), (2, .int p1)]) hx hb dX7_takeWhole_18 rfl hl (by decide) rfl (fun ls hl => ?_)
  refine lv_aload_n hx hb dX7_takeWhole_19 rfl (lv_at hl 1 rfl) ?_
  refine va_get (D := (dC, dI)) (ci := 6) (v := .ref (ad 2)) (C := RX7) (T := TX7) (N := 5) hx hb hts hinX7 hown hK hP 1 (at_6 rfl) rfl 0 (by decide) (hts (.fieldLink RX7 12 "BondCalendars$Reader" "tape" "LBondCalendars$Tape;") (by decide +kernel)) (fun _ h9 => h9) rfl dX7_takeWhole_20 ?_
  refine va_get (D := (dC, dI)) (ci := 9) (v := .int ((σ 2).1 2)) (C := RX10) (T := TX10) (N := 7) hx hb hts hinX10 hown hK hP 2 (at_9 rfl) rfl 2 (by decide) (hts (.fieldLink RX7 49 "BondCalendars$Tape" "kind" "I") (by decide +kernel)) (fun _ h9 => h9) (congrArg (fun z => some (Value.int z)) (show (σ1 2).1 2 = ((σ 2).1 2) from by rw [eσ1, gI_ne _ _ _ (by decide)])) dX7_takeWhole_23 ?_
  refine lv_iconst (v := 2) hx hb dX7_takeWhole_26 (by decide) ?_
  refine lv_icmp_eq (tgt := 42) hx hb dX7_takeWhole_27 (by decide) (fun c_2 => ?_) (fun c_2 => ?_)
  · refine lv_iload_n hx hb dX7_takeWhole_42 rfl (lv_at hl 0 rfl) ?_
    refine lv_iload_n hx hb dX7_takeWhole_43 rfl (lv_at hl 2 rfl) ?_
    refine lv_icmp_lt (tgt := 52) hx hb dX7_takeWhole_44 (by decide) (fun c_3 => ?_) (fun c_3 => ?_)
    · refine lv_aload_n hx hb dX7_takeWhole_52 rfl (lv_at hl 1 rfl) ?_
      refine lv_iconst (v := 2) hx hb dX7_takeWhole_53 (by decide) ?_
      refine lv_aload_n hx hb dX7_takeWhole_54 rfl (lv_at hl 1 rfl) ?_
      refine va_get (D := (dC, dI)) (ci := 6) (v := .int ((σ 2).1 3)) (C := RX7) (T := TX7) (N := 5) hx hb hts hinX7 hown hK hP 1 (at_6 rfl) rfl 4 (by decide) (hts (.fieldLink RX7 29 "BondCalendars$Reader" "wholeAt" "I") (by decide +kernel)) (fun _ h9 => h9) (congrArg (fun z => some (Value.int z)) (show (σ1 1).1 4 = ((σ 2).1 3) from by rw [eσ1, gI_self])) dX7_takeWhole_55 ?_
      have hF := gFree hD hS hA
      refine va_calliD hd0 (va_runV_D (As := [.int 2, .int ((σ 2).1 3)]) (rest := []) ⟨hx, hb, hml, hown, hts⟩ (n_X7_fail l dC dI ad cA adK adV H.size σ1 hIσ1 2 ((σ 2).1 3)) (cwV 2 hts gX7_takeWhole_X7_fail rfl rfl rfl (by decide +kernel) ⟨Nat.le_of_ble_eq_true rfl, Nat.le_of_ble_eq_true rfl⟩) ⟨gBlind, va_recv hK hP (ci := 6) (q0 := 1) rfl (at_6 rfl), gStart (As := [.ref (ad 1), .int 2, .int ((σ 2).1 3)]) hP hD hK0 hT hS hF (s.drawn)⟩ rfl rfl hl.1 rfl (lv_room (Nat.le_of_ble_eq_true rfl)) dX7_takeWhole_58 ⟨Nat.le_of_ble_eq_true rfl, Nat.le_of_ble_eq_true rfl⟩) hS (fun q _ h => hF q h) hF (fun r_4 σ2 t H locs ht hvm hw hB hz1 hk1 hS d_5 hd0 => ?_)
      have hts := dr_words hts0 (d_5)
      have hK := gKd hK0 (d_5)
      have hown : (s.setDrawn (d_5)).vm.findClass RX7 = some m.cls := hown0
      obtain ⟨hP, hD⟩ := gBack hF ht hB
      obtain ⟨hIσ2, fcσ2, hp_6⟩ := hw
      refine lv_pop hx hb dX7_takeWhole_61 rfl ?_
      refine lv_iconst (v := (-1)) hx hb dX7_takeWhole_62 (by decide) ?_
      refine W.endD hd0 ?_
      exact W.iret (v := (-1)) hx hb hr (fun t ht hW => ⟨⟨(-1), σ2, rfl, ⟨hIσ2, (gFr.tr frσ1 fcσ2 (by decide)), trivial⟩, ⟨by rw [ht]; exact hP, hD⟩⟩, hS.F ht⟩) hS.2.2 dX7_takeWhole_63
    · refine lv_iload_n hx hb dX7_takeWhole_47 rfl (lv_at hl 0 rfl) ?_
      refine lv_iload_n hx hb dX7_takeWhole_48 rfl (lv_at hl 3 rfl) ?_
      refine lv_icmp_le (tgt := 64) hx hb dX7_takeWhole_49 (by decide) (fun c_7 => ?_) (fun c_7 => ?_)
      · refine lv_aload_n hx hb dX7_takeWhole_64 rfl (lv_at hl 1 rfl) ?_
        refine va_get (D := (dC, dI)) (ci := 6) (v := .ref (ad 2)) (C := RX7) (T := TX7) (N := 5) hx hb hts hinX7 hown hK hP 1 (at_6 rfl) rfl 0 (by decide) (hts (.fieldLink RX7 12 "BondCalendars$Reader" "tape" "LBondCalendars$Tape;") (by decide +kernel)) (fun _ h9 => h9) rfl dX7_takeWhole_65 ?_
        have hF := gFree hD hS hA
        refine va_callvD hd0 (va_runV_D (As := []) (rest := []) ⟨hx, hb, hml, hown, hts⟩ (n_X10_advance l dC dI ad cA adK adV H.size σ1 hIσ1 ) (cwV 0 hts gX7_takeWhole_X10_advance rfl rfl rfl (by decide +kernel) ⟨Nat.le_of_ble_eq_true rfl, Nat.le_of_ble_eq_true rfl⟩) ⟨gBlind, va_recv hK hP (ci := 9) (q0 := 2) rfl (at_9 rfl), gStart (As := [.ref (ad 2)]) hP hD hK0 hT hS hF (s.drawn)⟩ rfl rfl hl.1 rfl (lv_room (Nat.le_of_ble_eq_true rfl)) dX7_takeWhole_68 ⟨Nat.le_of_ble_eq_true rfl, Nat.le_of_ble_eq_true rfl⟩) hS (fun q _ h => hF q h) hF (fun σ3 t H locs ht hvm hw hB hz1 hk1 hS d_9 hd0 => ?_)
        have hts := dr_words hts0 (d_9)
        have hK := gKd hK0 (d_9)
        have hown : (s.setDrawn (d_9)).vm.findClass RX7 = some m.cls := hown0
        obtain ⟨hP, hD⟩ := gBack hF ht hB
        obtain ⟨hIσ3, fcσ3, hp_10⟩ := hw
        refine lv_iload_n hx hb dX7_takeWhole_71 rfl (lv_at hl 0 rfl) ?_
        refine W.endD hd0 ?_
        exact W.iret (v := ((σ 2).1 4)) hx hb hr (fun t ht hW => ⟨⟨((σ 2).1 4), σ3, rfl, ⟨hIσ3, (gFr.tr frσ1 fcσ3 (by decide)), trivial⟩, ⟨by rw [ht]; exact hP, hD⟩⟩, hS.F ht⟩) hS.2.2 dX7_takeWhole_72
      · refine lv_aload_n hx hb dX7_takeWhole_52 rfl (lv_at hl 1 rfl) ?_
        refine lv_iconst (v := 2) hx hb dX7_takeWhole_53 (by decide) ?_
        refine lv_aload_n hx hb dX7_takeWhole_54 rfl (lv_at hl 1 rfl) ?_
        refine va_get (D := (dC, dI)) (ci := 6) (v := .int ((σ 2).1 3)) (C := RX7) (T := TX7) (N := 5) hx hb hts hinX7 hown hK hP 1 (at_6 rfl) rfl 4 (by decide) (hts (.fieldLink RX7 29 "BondCalendars$Reader" "wholeAt" "I") (by decide +kernel)) (fun _ h9 => h9) (congrArg (fun z => some (Value.int z)) (show (σ1 1).1 4 = ((σ 2).1 3) from by rw [eσ1, gI_self])) dX7_takeWhole_55 ?_
        have hF := gFree hD hS hA
        refine va_calliD hd0 (va_runV_D (As := [.int 2, .int ((σ 2).1 3)]) (rest := []) ⟨hx, hb, hml, hown, hts⟩ (n_X7_fail l dC dI ad cA adK adV H.size σ1 hIσ1 2 ((σ 2).1 3)) (cwV 2 hts gX7_takeWhole_X7_fail rfl rfl rfl (by decide +kernel) ⟨Nat.le_of_ble_eq_true rfl, Nat.le_of_ble_eq_true rfl⟩) ⟨gBlind, va_recv hK hP (ci := 6) (q0 := 1) rfl (at_6 rfl), gStart (As := [.ref (ad 1), .int 2, .int ((σ 2).1 3)]) hP hD hK0 hT hS hF (s.drawn)⟩ rfl rfl hl.1 rfl (lv_room (Nat.le_of_ble_eq_true rfl)) dX7_takeWhole_58 ⟨Nat.le_of_ble_eq_true rfl, Nat.le_of_ble_eq_true rfl⟩) hS (fun q _ h => hF q h) hF (fun r_11 σ4 t H locs ht hvm hw hB hz1 hk1 hS d_12 hd0 => ?_)
        have hts := dr_words hts0 (d_12)
        have hK := gKd hK0 (d_12)
        have hown : (s.setDrawn (d_12)).vm.findClass RX7 = some m.cls := hown0
        obtain ⟨hP, hD⟩ := gBack hF ht hB
        obtain ⟨hIσ4, fcσ4, hp_13⟩ := hw
        refine lv_pop hx hb dX7_takeWhole_61 rfl ?_
        refine lv_iconst (v := (-1)) hx hb dX7_takeWhole_62 (by decide) ?_
        refine W.endD hd0 ?_
        exact W.iret (v := (-1)) hx hb hr (fun t ht hW => ⟨⟨(-1), σ4, rfl, ⟨hIσ4, (gFr.tr frσ1 fcσ4 (by decide)), trivial⟩, ⟨by rw [ht]; exact hP, hD⟩⟩, hS.F ht⟩) hS.2.2 dX7_takeWhole_63
  · refine lv_aload_n hx hb dX7_takeWhole_30 rfl (lv_at hl 1 rfl) ?_
    refine lv_iconst (v := 1) hx hb dX7_takeWhole_31 (by decide) ?_
    refine lv_aload_n hx hb dX7_takeWhole_32 rfl (lv_at hl 1 rfl) ?_
    refine va_get (D := (dC, dI)) (ci := 6) (v := .int ((σ 2).1 3)) (C := RX7) (T := TX7) (N := 5) hx hb hts hinX7 hown hK hP 1 (at_6 rfl) rfl 4 (by decide) (hts (.fieldLink RX7 29 "BondCalendars$Reader" "wholeAt" "I") (by decide +kernel)) (fun _ h9 => h9) (congrArg (fun z => some (Value.int z)) (show (σ1 1).1 4 = ((σ 2).1 3) from by rw [eσ1, gI_self])) dX7_takeWhole_33 ?_
    have hF := gFree hD hS hA
    refine va_calliD hd0 (va_runV_D (As := [.int 1, .int ((σ 2).1 3)]) (rest := []) ⟨hx, hb, hml, hown, hts⟩ (n_X7_fail l dC dI ad cA adK adV H.size σ1 hIσ1 1 ((σ 2).1 3)) (cwV 2 hts gX7_takeWhole_X7_fail rfl rfl rfl (by decide +kernel) ⟨Nat.le_of_ble_eq_true rfl, Nat.le_of_ble_eq_true rfl⟩) ⟨gBlind, va_recv hK hP (ci := 6) (q0 := 1) rfl (at_6 rfl), gStart (As := [.ref (ad 1), .int 1, .int ((σ 2).1 3)]) hP hD hK0 hT hS hF (s.drawn)⟩ rfl rfl hl.1 rfl (lv_room (Nat.le_of_ble_eq_true rfl)) dX7_takeWhole_36 ⟨Nat.le_of_ble_eq_true rfl, Nat.le_of_ble_eq_true rfl⟩) hS (fun q _ h => hF q h) hF (fun r_14 σ5 t H locs ht hvm hw hB hz1 hk1 hS d_15 hd0 => ?_)
    have hts := dr_words hts0 (d_15)
    have hK := gKd hK0 (d_15)
    have hown : (s.setDrawn (d_15)).vm.findClass RX7 = some m.cls := hown0
    obtain ⟨hP, hD⟩ := gBack hF ht hB
    obtain ⟨hIσ5, fcσ5, hp_16⟩ := hw
    refine lv_pop hx hb dX7_takeWhole_39 rfl ?_
    refine lv_iconst (v := (-1)) hx hb dX7_takeWhole_40 (by decide) ?_
    refine W.endD hd0 ?_
    exact W.iret (v := (-1)) hx hb hr (fun t ht hW => ⟨⟨(-1), σ5, rfl, ⟨hIσ5, (gFr.tr frσ1 fcσ5 (by decide)), trivial⟩, ⟨by rw [ht]; exact hP, hD⟩⟩, hS.F ht⟩) hS.2.2 dX7_takeWhole_41
set_option maxHeartbeats 8000000 in
set_option maxRecDepth 100000 in
theorem n_X7_takeDate (l : Launch) (dC : Nat → ClassId) (dI : Nat → Nat → Nat) (ad : Nat → Nat) (cA : Nat → ClassId) (adK adV : Nat → Nat) (sz : Nat) (σ : gs) (hI : InvX σ)  : MetD lw_cs l yX7_takeDate wsX7_takeDate ({ frames := 2, cells := 0, slots := 0, locals := 49 }) (va_Pc [.ref (ad 1)] (gPre adK adV (dC, dI) (wX ad cA σ) (tX cA) sz)) (va_Qi (fun (r : Int32) (τ : gs) => InvX τ ∧ gFr [6, 9] σ τ ∧ (True)) (fun τ t => gPost (dC, dI) (va_A (wX ad cA σ) sz) (wX ad cA τ) t) (va_A (wX ad cA σ) sz)) 0 0 (va_A (wX ad cA σ) sz) := by
  refine MetD.ofW (cc := cX7_takeDate) (maxL := 2) (ret := (some .int)) (by decide) rfl ?_
  intro p e s m args below meth c s₁ B hml hv hd0
  obtain ⟨rfl, hsz, hP, hK, hD0, hT⟩ := hv
  have hx := B.exec
  have hb := B.bytes
  have hr := B.returns
  have hts0 := atoms_spec (ws := wsX7_takeDate) B.pre
  have hK0 := hK
  have hown0 : s.vm.findClass RX7 = some m.cls := findClass_of_methodNamed B.named
  have hlocks := B.notSynchronized
  have hinX7 : ∀ w ∈ u_ws RX7 TX7 5, w ∈ wsX7_takeDate := (fun _ h9 => List.mem_cons_of_mem _ (List.mem_append_left _ (List.mem_append_right _ h9)))
  subst hsz
  have hD := hD0.self (sz := s.heap.size)
  generalize hAe : va_A (wX ad cA σ) s.heap.size = A at hD hT ⊢
  have hA : ∀ q : Nat, s.heap.size ≤ q → A q := fun q h => by rw [← hAe]; exact Or.inr h
  have hS : va_S A s.heap s.heap [] := va_S.rf
  have hl := lv_entry ([.ref (ad 1)]) (n := 2) (Nat.le_of_ble_eq_true rfl)
  rw [lg_entry_eq]
  generalize (lg_sl ([.ref (ad 1)]) ++ List.replicate (2 - (lg_sl ([.ref (ad 1)])).length) Slot.unset).toArray = ls at hl ⊢
  have hl : lv_has ls 2 [(0, .ref (ad 1))] := hl
  have hts := dr_words hts0 (s.drawn)
  have hK := gKd hK0 (s.drawn)
  have hown : (s.setDrawn (s.drawn)).vm.findClass RX7 = some m.cls := hown0
  refine lv_aload_n hx hb dX7_takeDate_0 rfl (lv_at hl 0 rfl) ?_
  refine lv_iconst (v := 0) hx hb dX7_takeDate_1 (by decide) ?_
  refine lv_ldc (v := 99999999) hx hb hown (hts (.constant RX7 100 (99999999)) (by decide +kernel)) dX7_takeDate_2 ?_
  have hF := gFree hD hS hA
  refine va_calliD hd0 (va_runV_D (As := [.int 0, .int 99999999]) (rest := []) ⟨hx, hb, hml, hown, hts⟩ (n_X7_takeWhole l dC dI ad cA adK adV s.heap.size σ hI 0 99999999) (cwV 2 hts gX7_takeDate_X7_takeWhole rfl rfl rfl (by decide +kernel) ⟨Nat.le_of_ble_eq_true rfl, Nat.le_of_ble_eq_true rfl⟩) ⟨gBlind, va_recv hK hP (ci := 6) (q0 := 1) rfl (at_6 rfl), gStart (As := [.ref (ad 1), .int 0, .int 99999999]) hP hD hK0 hT hS hF (s.drawn)⟩ rfl rfl hl.1 rfl (lv_room (Nat.le_of_ble_eq_true rfl)) dX7_takeDate_4 ⟨Nat.le_of_ble_eq_true rfl, Nat.le_of_ble_eq_true rfl⟩) hS (fun q _ h => hF q h) hF (fun r_1 σ1 t H locs ht hvm hw hB hz1 hk1 hS d_2 hd0 => ?_)
  have hts := dr_words hts0 (d_2)
  have hK := gKd hK0 (d_2)
  have hown : (s.setDrawn (d_2)).vm.findClass RX7 = some m.cls := hown0
  obtain ⟨hP, hD⟩ := gBack hF ht hB
  obtain ⟨hIσ1, fcσ1, hp_3⟩ := hw
  refine lv_istore_n (lv' := [(1, .int r_1), (0, .ref (ad 1))]) hx hb dX7_takeDate_7 rfl hl (by decide) rfl (fun ls hl => ?_)
  refine lv_iload_n hx hb dX7_takeDate_8 rfl (lv_at hl 0 rfl) ?_
  refine lv_iconst (v := (-1)) hx hb dX7_takeDate_9 (by decide) ?_
  refine lv_icmp_ne (tgt := 15) hx hb dX7_takeDate_10 (by decide) (fun c_4 => ?_) (fun c_4 => ?_)
  · refine lv_iload_n hx hb dX7_takeDate_15 rfl (lv_at hl 0 rfl) ?_
    have hF := gFree (w := []) (hx_D0 (A := A)) hS hA
    have hKe := hK.sub (tys' := []) [] rfl
    refine va_calli (va_runS (As := [.int r_1]) (rest := []) ⟨hx, hb, hml, hown, hts⟩ (k_X3_isDate l dC dI H.size r_1 ) (va_cwS 1 hts gX7_takeDate_X3_isDate rfl rfl rfl (by decide +kernel) ⟨Nat.le_of_ble_eq_true rfl, Nat.le_of_ble_eq_true rfl⟩) ⟨fun a U g mk q => by obtain ⟨q0, q1, qP, qK, qD⟩ := q; exact ⟨q0, q1, qP, va_K.moved (u := U) (U := U.calling g mk a) (Vm.Alike.refl U.vm) qK, qD⟩, fun U hU hW => ⟨rfl, by rw [hU], hx_P0, va_K.moved hW.alike hKe, hx_D0⟩⟩ rfl rfl hl.1 rfl (lv_room (Nat.le_of_ble_eq_true rfl)) dX7_takeDate_16 ⟨Nat.le_of_ble_eq_true rfl, Nat.le_of_ble_eq_true rfl⟩) hS (fun q _ h => hF q h) hF (fun r_5 u t H locs ht hvm hw hB hz1 hk1 hS => ?_)
    have hP := gKeep hP hk1
    refine lv_if_ne (tgt := 34) hx hb dX7_takeDate_19 (by decide) (fun c_6 => ?_) (fun c_6 => ?_)
    · refine lv_iload_n hx hb dX7_takeDate_34 rfl (lv_at hl 0 rfl) ?_
      have hF := gFree (w := []) (hx_D0 (A := A)) hS hA
      have hKe := hK.sub (tys' := []) [] rfl
      refine va_calli (va_runS (As := [.int r_1]) (rest := []) ⟨hx, hb, hml, hown, hts⟩ (k_X3_dayOf l dC dI H.size r_1 ) (va_cwS 1 hts gX7_takeDate_X3_dayOf rfl rfl rfl (by decide +kernel) ⟨Nat.le_of_ble_eq_true rfl, Nat.le_of_ble_eq_true rfl⟩) ⟨fun a U g mk q => by obtain ⟨q0, q1, qP, qK, qD⟩ := q; exact ⟨q0, q1, qP, va_K.moved (u := U) (U := U.calling g mk a) (Vm.Alike.refl U.vm) qK, qD⟩, fun U hU hW => ⟨rfl, by rw [hU], hx_P0, va_K.moved hW.alike hKe, hx_D0⟩⟩ rfl rfl hl.1 rfl (lv_room (Nat.le_of_ble_eq_true rfl)) dX7_takeDate_35 ⟨Nat.le_of_ble_eq_true rfl, Nat.le_of_ble_eq_true rfl⟩) hS (fun q _ h => hF q h) hF (fun r_7 u t H locs ht hvm hw hB hz1 hk1 hS => ?_)
      have hP := gKeep hP hk1
      refine W.endD hd0 ?_
      exact W.iret (v := r_7) hx hb hr (fun t ht hW => ⟨⟨r_7, σ1, rfl, ⟨hIσ1, (gFr.tr (gFr.rfl (L := [6, 9]) (σ := σ)) fcσ1 (by decide)), trivial⟩, ⟨by rw [ht]; exact hP, hD⟩⟩, hS.F ht⟩) hS.2.2 dX7_takeDate_38
    · refine lv_aload_n hx hb dX7_takeDate_22 rfl (lv_at hl 1 rfl) ?_
      refine lv_iconst (v := 2) hx hb dX7_takeDate_23 (by decide) ?_
      refine lv_aload_n hx hb dX7_takeDate_24 rfl (lv_at hl 1 rfl) ?_
      refine va_get (D := (dC, dI)) (ci := 6) (v := .int ((σ1 1).1 4)) (C := RX7) (T := TX7) (N := 5) hx hb hts hinX7 hown hK hP 1 (at_6 rfl) rfl 4 (by decide) (hts (.fieldLink RX7 29 "BondCalendars$Reader" "wholeAt" "I") (by decide +kernel)) (fun _ h9 => h9) rfl dX7_takeDate_25 ?_
      have hF := gFree hD hS hA
      refine va_calliD hd0 (va_runV_D (As := [.int 2, .int ((σ1 1).1 4)]) (rest := []) ⟨hx, hb, hml, hown, hts⟩ (n_X7_fail l dC dI ad cA adK adV H.size σ1 hIσ1 2 ((σ1 1).1 4)) (cwV 2 hts gX7_takeDate_X7_fail rfl rfl rfl (by decide +kernel) ⟨Nat.le_of_ble_eq_true rfl, Nat.le_of_ble_eq_true rfl⟩) ⟨gBlind, va_recv hK hP (ci := 6) (q0 := 1) rfl (at_6 rfl), gStart (As := [.ref (ad 1), .int 2, .int ((σ1 1).1 4)]) hP hD hK0 hT hS hF (d_2)⟩ rfl rfl hl.1 rfl (lv_room (Nat.le_of_ble_eq_true rfl)) dX7_takeDate_28 ⟨Nat.le_of_ble_eq_true rfl, Nat.le_of_ble_eq_true rfl⟩) hS (fun q _ h => hF q h) hF (fun r_8 σ2 t H locs ht hvm hw hB hz1 hk1 hS d_9 hd0 => ?_)
      have hts := dr_words hts0 (d_9)
      have hK := gKd hK0 (d_9)
      have hown : (s.setDrawn (d_9)).vm.findClass RX7 = some m.cls := hown0
      obtain ⟨hP, hD⟩ := gBack hF ht hB
      obtain ⟨hIσ2, fcσ2, hp_10⟩ := hw
      refine lv_pop hx hb dX7_takeDate_31 rfl ?_
      refine lv_iconst (v := (-1)) hx hb dX7_takeDate_32 (by decide) ?_
      refine W.endD hd0 ?_
      exact W.iret (v := (-1)) hx hb hr (fun t ht hW => ⟨⟨(-1), σ2, rfl, ⟨hIσ2, (gFr.tr (gFr.tr (gFr.rfl (L := [6, 9]) (σ := σ)) fcσ1 (by decide)) fcσ2 (by decide)), trivial⟩, ⟨by rw [ht]; exact hP, hD⟩⟩, hS.F ht⟩) hS.2.2 dX7_takeDate_33
  · refine lv_iconst (v := (-1)) hx hb dX7_takeDate_13 (by decide) ?_
    refine W.endD hd0 ?_
    exact W.iret (v := (-1)) hx hb hr (fun t ht hW => ⟨⟨(-1), σ1, rfl, ⟨hIσ1, (gFr.tr (gFr.rfl (L := [6, 9]) (σ := σ)) fcσ1 (by decide)), trivial⟩, ⟨by rw [ht]; exact hP, hD⟩⟩, hS.F ht⟩) hS.2.2 dX7_takeDate_14
set_option maxHeartbeats 8000000 in
set_option maxRecDepth 100000 in
theorem n_X7_followsLine (l : Launch) (dC : Nat → ClassId) (dI : Nat → Nat → Nat) (ad : Nat → Nat) (cA : Nat → ClassId) (adK adV : Nat → Nat) (sz : Nat) (σ : gs) (hI : InvX σ)  : MetD lw_cs l yX7_followsLine wsX7_followsLine ({ frames := 1, cells := 0, slots := 0, locals := 26 }) (va_Pc [.ref (ad 1)] (gPre adK adV (dC, dI) (wX ad cA σ) (tX cA) sz)) (va_Qi (fun (r : Int32) (τ : gs) => InvX τ ∧ gFr [6, 9] σ τ ∧ (r = 0 ∨ r = 1)) (fun τ t => gPost (dC, dI) (va_A (wX ad cA σ) sz) (wX ad cA τ) t) (va_A (wX ad cA σ) sz)) 0 0 (va_A (wX ad cA σ) sz) := by
  refine MetD.ofW (cc := cX7_followsLine) (maxL := 1) (ret := (some .boolean)) (by decide) rfl ?_
  intro p e s m args below meth c s₁ B hml hv hd0
  obtain ⟨rfl, hsz, hP, hK, hD0, hT⟩ := hv
  have hx := B.exec
  have hb := B.bytes
  have hr := B.returns
  have hts0 := atoms_spec (ws := wsX7_followsLine) B.pre
  have hK0 := hK
  have hown0 : s.vm.findClass RX7 = some m.cls := findClass_of_methodNamed B.named
  have hlocks := B.notSynchronized
  have hinX7 : ∀ w ∈ u_ws RX7 TX7 5, w ∈ wsX7_followsLine := (fun _ h9 => List.mem_cons_of_mem _ (List.mem_append_left _ (List.mem_append_right _ h9)))
  have hinX10 : ∀ w ∈ u_ws RX10 TX10 7, w ∈ wsX7_followsLine := (fun _ h9 => List.mem_cons_of_mem _ (List.mem_append_right _ h9))
  subst hsz
  have hD := hD0.self (sz := s.heap.size)
  generalize hAe : va_A (wX ad cA σ) s.heap.size = A at hD hT ⊢
  have hA : ∀ q : Nat, s.heap.size ≤ q → A q := fun q h => by rw [← hAe]; exact Or.inr h
  have hS : va_S A s.heap s.heap [] := va_S.rf
  have hl := lv_entry ([.ref (ad 1)]) (n := 1) (Nat.le_of_ble_eq_true rfl)
  rw [lg_entry_eq]
  generalize (lg_sl ([.ref (ad 1)]) ++ List.replicate (1 - (lg_sl ([.ref (ad 1)])).length) Slot.unset).toArray = ls at hl ⊢
  have hl : lv_has ls 1 [(0, .ref (ad 1))] := hl
  have hts := dr_words hts0 (s.drawn)
  have hK := gKd hK0 (s.drawn)
  have hown : (s.setDrawn (s.drawn)).vm.findClass RX7 = some m.cls := hown0
  refine lv_aload_n hx hb dX7_followsLine_0 rfl (lv_at hl 0 rfl) ?_
  refine va_get (D := (dC, dI)) (ci := 6) (v := .ref (ad 2)) (C := RX7) (T := TX7) (N := 5) hx hb hts hinX7 hown hK hP 1 (at_6 rfl) rfl 0 (by decide) (hts (.fieldLink RX7 12 "BondCalendars$Reader" "tape" "LBondCalendars$Tape;") (by decide +kernel)) (fun _ h9 => h9) rfl dX7_followsLine_1 ?_
  refine va_get (D := (dC, dI)) (ci := 9) (v := .int ((σ 2).1 2)) (C := RX10) (T := TX10) (N := 7) hx hb hts hinX10 hown hK hP 2 (at_9 rfl) rfl 2 (by decide) (hts (.fieldLink RX7 49 "BondCalendars$Tape" "kind" "I") (by decide +kernel)) (fun _ h9 => h9) rfl dX7_followsLine_4 ?_
  refine lv_if_ne (tgt := 12) hx hb dX7_followsLine_7 (by decide) (fun c_1 => ?_) (fun c_1 => ?_)
  · refine lv_aload_n hx hb dX7_followsLine_12 rfl (lv_at hl 0 rfl) ?_
    refine va_get (D := (dC, dI)) (ci := 6) (v := .ref (ad 2)) (C := RX7) (T := TX7) (N := 5) hx hb hts hinX7 hown hK hP 1 (at_6 rfl) rfl 0 (by decide) (hts (.fieldLink RX7 12 "BondCalendars$Reader" "tape" "LBondCalendars$Tape;") (by decide +kernel)) (fun _ h9 => h9) rfl dX7_followsLine_13 ?_
    refine va_get (D := (dC, dI)) (ci := 9) (v := .int ((σ 2).1 2)) (C := RX10) (T := TX10) (N := 7) hx hb hts hinX10 hown hK hP 2 (at_9 rfl) rfl 2 (by decide) (hts (.fieldLink RX7 49 "BondCalendars$Tape" "kind" "I") (by decide +kernel)) (fun _ h9 => h9) rfl dX7_followsLine_16 ?_
    refine lv_iconst (v := 3) hx hb dX7_followsLine_19 (by decide) ?_
    refine lv_icmp_eq (tgt := 36) hx hb dX7_followsLine_20 (by decide) (fun c_2 => ?_) (fun c_2 => ?_)
    · refine lv_aload_n hx hb dX7_followsLine_36 rfl (lv_at hl 0 rfl) ?_
      refine va_get (D := (dC, dI)) (ci := 6) (v := .ref (ad 2)) (C := RX7) (T := TX7) (N := 5) hx hb hts hinX7 hown hK hP 1 (at_6 rfl) rfl 0 (by decide) (hts (.fieldLink RX7 12 "BondCalendars$Reader" "tape" "LBondCalendars$Tape;") (by decide +kernel)) (fun _ h9 => h9) rfl dX7_followsLine_37 ?_
      have hF := gFree hD hS hA
      refine va_callvD hd0 (va_runV_D (As := []) (rest := []) ⟨hx, hb, hml, hown, hts⟩ (n_X10_advance l dC dI ad cA adK adV s.heap.size σ hI ) (cwV 0 hts gX7_followsLine_X10_advance rfl rfl rfl (by decide +kernel) ⟨Nat.le_of_ble_eq_true rfl, Nat.le_of_ble_eq_true rfl⟩) ⟨gBlind, va_recv hK hP (ci := 9) (q0 := 2) rfl (at_9 rfl), gStart (As := [.ref (ad 2)]) hP hD hK0 hT hS hF (s.drawn)⟩ rfl rfl hl.1 rfl (lv_room (Nat.le_of_ble_eq_true rfl)) dX7_followsLine_40 ⟨Nat.le_of_ble_eq_true rfl, Nat.le_of_ble_eq_true rfl⟩) hS (fun q _ h => hF q h) hF (fun σ1 t H locs ht hvm hw hB hz1 hk1 hS d_4 hd0 => ?_)
      have hts := dr_words hts0 (d_4)
      have hK := gKd hK0 (d_4)
      have hown : (s.setDrawn (d_4)).vm.findClass RX7 = some m.cls := hown0
      obtain ⟨hP, hD⟩ := gBack hF ht hB
      obtain ⟨hIσ1, fcσ1, hp_5⟩ := hw
      refine lv_iconst (v := 1) hx hb dX7_followsLine_43 (by decide) ?_
      refine W.endD hd0 ?_
      exact W.zret (v := 1) hx hb hr (by decide) (fun t ht hW => ⟨⟨1, σ1, rfl, ⟨hIσ1, (gFr.tr (gFr.rfl (L := [6, 9]) (σ := σ)) fcσ1 (by decide)), Or.inr rfl⟩, ⟨by rw [ht]; exact hP, hD⟩⟩, hS.F ht⟩) hS.2.2 dX7_followsLine_44
    · refine lv_aload_n hx hb dX7_followsLine_23 rfl (lv_at hl 0 rfl) ?_
      refine lv_iconst (v := 1) hx hb dX7_followsLine_24 (by decide) ?_
      refine lv_aload_n hx hb dX7_followsLine_25 rfl (lv_at hl 0 rfl) ?_
      refine va_get (D := (dC, dI)) (ci := 6) (v := .ref (ad 2)) (C := RX7) (T := TX7) (N := 5) hx hb hts hinX7 hown hK hP 1 (at_6 rfl) rfl 0 (by decide) (hts (.fieldLink RX7 12 "BondCalendars$Reader" "tape" "LBondCalendars$Tape;") (by decide +kernel)) (fun _ h9 => h9) rfl dX7_followsLine_26 ?_
      have bd_6 := rd_9_3 (c := 2) hI rfl
      refine va_get (D := (dC, dI)) (ci := 9) (v := .int ((σ 2).1 3)) (C := RX10) (T := TX10) (N := 7) hx hb hts hinX10 hown hK hP 2 (at_9 rfl) rfl 3 (by decide) (hts (.fieldLink RX7 52 "BondCalendars$Tape" "start" "I") (by decide +kernel)) (fun _ h9 => h9) rfl dX7_followsLine_29 ?_
      have hF := gFree hD hS hA
      refine va_calliD hd0 (va_runV_D (As := [.int 1, .int ((σ 2).1 3)]) (rest := []) ⟨hx, hb, hml, hown, hts⟩ (n_X7_fail l dC dI ad cA adK adV s.heap.size σ hI 1 ((σ 2).1 3)) (cwV 2 hts gX7_followsLine_X7_fail rfl rfl rfl (by decide +kernel) ⟨Nat.le_of_ble_eq_true rfl, Nat.le_of_ble_eq_true rfl⟩) ⟨gBlind, va_recv hK hP (ci := 6) (q0 := 1) rfl (at_6 rfl), gStart (As := [.ref (ad 1), .int 1, .int ((σ 2).1 3)]) hP hD hK0 hT hS hF (s.drawn)⟩ rfl rfl hl.1 rfl (lv_room (Nat.le_of_ble_eq_true rfl)) dX7_followsLine_32 ⟨Nat.le_of_ble_eq_true rfl, Nat.le_of_ble_eq_true rfl⟩) hS (fun q _ h => hF q h) hF (fun r_7 σ2 t H locs ht hvm hw hB hz1 hk1 hS d_8 hd0 => ?_)
      have hts := dr_words hts0 (d_8)
      have hK := gKd hK0 (d_8)
      have hown : (s.setDrawn (d_8)).vm.findClass RX7 = some m.cls := hown0
      obtain ⟨hP, hD⟩ := gBack hF ht hB
      obtain ⟨hIσ2, fcσ2, hp_9⟩ := hw
      refine W.endD hd0 ?_
      exact W.zret (v := r_7) hx hb hr (by rcases hp_9 with h9 | h9 <;> rw [h9] <;> decide +kernel) (fun t ht hW => ⟨⟨r_7, σ2, rfl, ⟨hIσ2, (gFr.tr (gFr.rfl (L := [6, 9]) (σ := σ)) fcσ2 (by decide)), hp_9⟩, ⟨by rw [ht]; exact hP, hD⟩⟩, hS.F ht⟩) hS.2.2 dX7_followsLine_35
  · refine lv_iconst (v := 0) hx hb dX7_followsLine_10 (by decide) ?_
    refine W.endD hd0 ?_
    exact W.zret (v := 0) hx hb hr (by decide) (fun t ht hW => ⟨⟨0, σ, rfl, ⟨hI, (gFr.rfl (L := [6, 9]) (σ := σ)), Or.inl rfl⟩, ⟨by rw [ht]; exact hP, hD⟩⟩, hS.F ht⟩) hS.2.2 dX7_followsLine_11
set_option maxHeartbeats 8000000 in
set_option maxRecDepth 100000 in
theorem n_X7_readDesk (l : Launch) (dC : Nat → ClassId) (dI : Nat → Nat → Nat) (ad : Nat → Nat) (cA : Nat → ClassId) (adK adV : Nat → Nat) (sz : Nat) (σ : gs) (hI : InvX σ) (a0 : Nat) (ha0 : kX a0 = 3) : MetD lw_cs l yX7_readDesk wsX7_readDesk ({ frames := 6, cells := 0, slots := 0, locals := 128 }) (va_Pc [.ref (ad 1), .ref (ad a0)] (gPre adK adV (dC, dI) (wX ad cA σ) (tX cA) sz)) (va_Qi (fun (r : Int32) (τ : gs) => InvX τ ∧ gFr [3, 6, 9] σ τ ∧ (r = 0 ∨ r = 1)) (fun τ t => gPost (dC, dI) (va_A (wX ad cA σ) sz) (wX ad cA τ) t) (va_A (wX ad cA σ) sz)) 0 0 (va_A (wX ad cA σ) sz) := by
  refine MetD.ofW (cc := cX7_readDesk) (maxL := 2) (ret := (some .boolean)) (by decide) rfl ?_
  intro p e s m args below meth c s₁ B hml hv hd0
  obtain ⟨rfl, hsz, hP, hK, hD0, hT⟩ := hv
  have hx := B.exec
  have hb := B.bytes
  have hr := B.returns
  have hts0 := atoms_spec (ws := wsX7_readDesk) B.pre
  have hK0 := hK
  have hown0 : s.vm.findClass RX7 = some m.cls := findClass_of_methodNamed B.named
  have hlocks := B.notSynchronized
  have hinX7 : ∀ w ∈ u_ws RX7 TX7 5, w ∈ wsX7_readDesk := (fun _ h9 => List.mem_cons_of_mem _ (List.mem_append_left _ (List.mem_append_left _ (List.mem_append_right _ h9))))
  have hinX4 : ∀ w ∈ u_ws RX4 TX4 12, w ∈ wsX7_readDesk := (fun _ h9 => List.mem_cons_of_mem _ (List.mem_append_left _ (List.mem_append_right _ h9)))
  subst hsz
  have hD := hD0.self (sz := s.heap.size)
  generalize hAe : va_A (wX ad cA σ) s.heap.size = A at hD hT ⊢
  have hA : ∀ q : Nat, s.heap.size ≤ q → A q := fun q h => by rw [← hAe]; exact Or.inr h
  have hS : va_S A s.heap s.heap [] := va_S.rf
  have hl := lv_entry ([.ref (ad 1), .ref (ad a0)]) (n := 2) (Nat.le_of_ble_eq_true rfl)
  rw [lg_entry_eq]
  generalize (lg_sl ([.ref (ad 1), .ref (ad a0)]) ++ List.replicate (2 - (lg_sl ([.ref (ad 1), .ref (ad a0)])).length) Slot.unset).toArray = ls at hl ⊢
  have hl : lv_has ls 2 [(0, .ref (ad 1)), (1, .ref (ad a0))] := hl
  have hts := dr_words hts0 (s.drawn)
  have hK := gKd hK0 (s.drawn)
  have hown : (s.setDrawn (s.drawn)).vm.findClass RX7 = some m.cls := hown0
  refine lv_aload_n hx hb dX7_readDesk_0 rfl (lv_at hl 0 rfl) ?_
  refine va_get (D := (dC, dI)) (ci := 6) (v := .ref (ad 2)) (C := RX7) (T := TX7) (N := 5) hx hb hts hinX7 hown hK hP 1 (at_6 rfl) rfl 0 (by decide) (hts (.fieldLink RX7 12 "BondCalendars$Reader" "tape" "LBondCalendars$Tape;") (by decide +kernel)) (fun _ h9 => h9) rfl dX7_readDesk_1 ?_
  have hF := gFree hD hS hA
  refine va_callvD hd0 (va_runV_D (As := []) (rest := []) ⟨hx, hb, hml, hown, hts⟩ (n_X10_advance l dC dI ad cA adK adV s.heap.size σ hI ) (cwV 0 hts gX7_readDesk_X10_advance rfl rfl rfl (by decide +kernel) ⟨Nat.le_of_ble_eq_true rfl, Nat.le_of_ble_eq_true rfl⟩) ⟨gBlind, va_recv hK hP (ci := 9) (q0 := 2) rfl (at_9 rfl), gStart (As := [.ref (ad 2)]) hP hD hK0 hT hS hF (s.drawn)⟩ rfl rfl hl.1 rfl (lv_room (Nat.le_of_ble_eq_true rfl)) dX7_readDesk_4 ⟨Nat.le_of_ble_eq_true rfl, Nat.le_of_ble_eq_true rfl⟩) hS (fun q _ h => hF q h) hF (fun σ1 t H locs ht hvm hw hB hz1 hk1 hS d_2 hd0 => ?_)
  have hts := dr_words hts0 (d_2)
  have hK := gKd hK0 (d_2)
  have hown : (s.setDrawn (d_2)).vm.findClass RX7 = some m.cls := hown0
  obtain ⟨hP, hD⟩ := gBack hF ht hB
  obtain ⟨hIσ1, fcσ1, hp_3⟩ := hw
  refine lv_aload_n hx hb dX7_readDesk_7 rfl (lv_at hl 0 rfl) ?_
  refine va_ldcS (tx := "from") (q := (adK 22)) hx hb hown (vk_R.same rfl hT.2.1.2.2.2.2.2.2.2.2.2.2.2.2.2.2.2.2.2.2.2.2.2.2.1) dX7_readDesk_8 ?_
  have hF := gFree hD hS hA
  refine va_calliD hd0 (va_runV_D (As := [.ref (adK 22)]) (rest := []) ⟨hx, hb, hml, hown, hts⟩ (n_X7_takeWord l dC dI ad cA adK adV H.size σ1 hIσ1 22 (by decide)) (cwV 1 hts gX7_readDesk_X7_takeWord rfl rfl rfl (by decide +kernel) ⟨Nat.le_of_ble_eq_true rfl, Nat.le_of_ble_eq_true rfl⟩) ⟨gBlind, va_recv hK hP (ci := 6) (q0 := 1) rfl (at_6 rfl), gStart (As := [.ref (ad 1), .ref (adK 22)]) hP hD hK0 hT hS hF (d_2)⟩ rfl rfl hl.1 rfl (lv_room (Nat.le_of_ble_eq_true rfl)) dX7_readDesk_10 ⟨Nat.le_of_ble_eq_true rfl, Nat.le_of_ble_eq_true rfl⟩) hS (fun q _ h => hF q h) hF (fun r_4 σ2 t H locs ht hvm hw hB hz1 hk1 hS d_5 hd0 => ?_)
  have hts := dr_words hts0 (d_5)
  have hK := gKd hK0 (d_5)
  have hown : (s.setDrawn (d_5)).vm.findClass RX7 = some m.cls := hown0
  obtain ⟨hP, hD⟩ := gBack hF ht hB
  obtain ⟨hIσ2, fcσ2, hp_6⟩ := hw
  refine lv_if_ne (tgt := 18) hx hb dX7_readDesk_13 (by decide) (fun c_7 => ?_) (fun c_7 => ?_)
  · refine lv_aload_n hx hb dX7_readDesk_18 rfl (lv_at hl 1 rfl) ?_
    refine lv_aload_n hx hb dX7_readDesk_19 rfl (lv_at hl 0 rfl) ?_
    have hF := gFree hD hS hA
    refine va_calliD hd0 (va_runV_D (As := []) (rest := [.ref (ad a0)]) ⟨hx, hb, hml, hown, hts⟩ (n_X7_takeDate l dC dI ad cA adK adV H.size σ2 hIσ2 ) (cwV 0 hts gX7_readDesk_X7_takeDate rfl rfl rfl (by decide +kernel) ⟨Nat.le_of_ble_eq_true rfl, Nat.le_of_ble_eq_true rfl⟩) ⟨gBlind, va_recv hK hP (ci := 6) (q0 := 1) rfl (at_6 rfl), gStart (As := [.ref (ad 1)]) hP hD hK0 hT hS hF (d_5)⟩ rfl rfl hl.1 rfl (lv_room (Nat.le_of_ble_eq_true rfl)) dX7_readDesk_20 ⟨Nat.le_of_ble_eq_true rfl, Nat.le_of_ble_eq_true rfl⟩) hS (fun q _ h => hF q h) hF (fun r_8 σ3 t H locs ht hvm hw hB hz1 hk1 hS d_9 hd0 => ?_)
    have hts := dr_words hts0 (d_9)
    have hK := gKd hK0 (d_9)
    have hown : (s.setDrawn (d_9)).vm.findClass RX7 = some m.cls := hown0
    obtain ⟨hP, hD⟩ := gBack hF ht hB
    obtain ⟨hIσ3, fcσ3, hp_10⟩ := hw
    refine va_put (D := (dC, dI)) (ci := 3) (v := .int r_8) (C := RX4) (T := TX4) (N := 12) hx hb hts hinX4 tyX4 tyX4_ok nmX4 hown hK hP hD hS a0 (at_3 ha0) rfl 0 (by decide) (hts (.fieldLink RX7 95 "BondCalendars$Desk" "startDay" "I") (by decide +kernel)) (fun _ h9 => h9) rfl (ty := .int) (by decide +kernel) rfl rfl (Nat.le_of_ble_eq_true rfl) dX7_readDesk_23 (fun H locs hP hD hS => ?_)
    obtain ⟨σ4, eσ4, hP, hD⟩ := gPut (se_3_0 ha0) hP hD
    have hIσ4 : InvX σ4 := by rw [eσ4]; exact inv_I hIσ3 (ok_3_0 ha0 _)
    have frσ4 : gFr [3, 6, 9] σ σ4 := by rw [eσ4]; exact gFr.pI (gFr.tr (gFr.tr (gFr.tr (gFr.rfl (L := [3, 6, 9]) (σ := σ)) fcσ1 (by decide)) fcσ2 (by decide)) fcσ3 (by decide)) ha0 (by decide)
    refine lv_aload_n hx hb dX7_readDesk_26 rfl (lv_at hl 1 rfl) ?_
    refine va_get (D := (dC, dI)) (ci := 3) (v := .int r_8) (C := RX4) (T := TX4) (N := 12) hx hb hts hinX4 hown hK hP a0 (at_3 ha0) rfl 0 (by decide) (hts (.fieldLink RX7 95 "BondCalendars$Desk" "startDay" "I") (by decide +kernel)) (fun _ h9 => h9) (congrArg (fun z => some (Value.int z)) (show (σ4 a0).1 0 = r_8 from by rw [eσ4, gI_self])) dX7_readDesk_27 ?_
    refine lv_iconst (v := (-1)) hx hb dX7_readDesk_30 (by decide) ?_
    refine lv_icmp_eq (tgt := 43) hx hb dX7_readDesk_31 (by decide) (fun c_11 => ?_) (fun c_11 => ?_)
    · refine lv_iconst (v := 0) hx hb dX7_readDesk_43 (by decide) ?_
      refine W.endD hd0 ?_
      exact W.zret (v := 0) hx hb hr (by decide) (fun t ht hW => ⟨⟨0, σ4, rfl, ⟨hIσ4, frσ4, Or.inl rfl⟩, ⟨by rw [ht]; exact hP, hD⟩⟩, hS.F ht⟩) hS.2.2 dX7_readDesk_44
    · refine lv_aload_n hx hb dX7_readDesk_34 rfl (lv_at hl 0 rfl) ?_
      refine va_ldcS (tx := "cash") (q := (adK 23)) hx hb hown (vk_R.same rfl hT.2.1.2.2.2.2.2.2.2.2.2.2.2.2.2.2.2.2.2.2.2.2.2.2.2.1) dX7_readDesk_35 ?_
      have hF := gFree hD hS hA
      refine va_calliD hd0 (va_runV_D (As := [.ref (adK 23)]) (rest := []) ⟨hx, hb, hml, hown, hts⟩ (n_X7_takeWord l dC dI ad cA adK adV H.size σ4 hIσ4 23 (by decide)) (cwV 1 hts gX7_readDesk_X7_takeWord rfl rfl rfl (by decide +kernel) ⟨Nat.le_of_ble_eq_true rfl, Nat.le_of_ble_eq_true rfl⟩) ⟨gBlind, va_recv hK hP (ci := 6) (q0 := 1) rfl (at_6 rfl), gStart (As := [.ref (ad 1), .ref (adK 23)]) hP hD hK0 hT hS hF (d_9)⟩ rfl rfl hl.1 rfl (lv_room (Nat.le_of_ble_eq_true rfl)) dX7_readDesk_37 ⟨Nat.le_of_ble_eq_true rfl, Nat.le_of_ble_eq_true rfl⟩) hS (fun q _ h => hF q h) hF (fun r_12 σ5 t H locs ht hvm hw hB hz1 hk1 hS d_13 hd0 => ?_)
      have hts := dr_words hts0 (d_13)
      have hK := gKd hK0 (d_13)
      have hown : (s.setDrawn (d_13)).vm.findClass RX7 = some m.cls := hown0
      obtain ⟨hP, hD⟩ := gBack hF ht hB
      obtain ⟨hIσ5, fcσ5, hp_14⟩ := hw
      refine lv_if_ne (tgt := 45) hx hb dX7_readDesk_40 (by decide) (fun c_15 => ?_) (fun c_15 => ?_)
      · refine lv_aload_n hx hb dX7_readDesk_45 rfl (lv_at hl 1 rfl) ?_
        refine lv_aload_n hx hb dX7_readDesk_46 rfl (lv_at hl 0 rfl) ?_
        refine lv_iconst (v := 0) hx hb dX7_readDesk_47 (by decide) ?_
        refine lv_ldc (v := 99999999) hx hb hown (hts (.constant RX7 100 (99999999)) (by decide +kernel)) dX7_readDesk_48 ?_
        have hF := gFree hD hS hA
        refine va_calliD hd0 (va_runV_D (As := [.int 0, .int 99999999]) (rest := [.ref (ad a0)]) ⟨hx, hb, hml, hown, hts⟩ (n_X7_takeWhole l dC dI ad cA adK adV H.size σ5 hIσ5 0 99999999) (cwV 2 hts gX7_readDesk_X7_takeWhole rfl rfl rfl (by decide +kernel) ⟨Nat.le_of_ble_eq_true rfl, Nat.le_of_ble_eq_true rfl⟩) ⟨gBlind, va_recv hK hP (ci := 6) (q0 := 1) rfl (at_6 rfl), gStart (As := [.ref (ad 1), .int 0, .int 99999999]) hP hD hK0 hT hS hF (d_13)⟩ rfl rfl hl.1 rfl (lv_room (Nat.le_of_ble_eq_true rfl)) dX7_readDesk_50 ⟨Nat.le_of_ble_eq_true rfl, Nat.le_of_ble_eq_true rfl⟩) hS (fun q _ h => hF q h) hF (fun r_16 σ6 t H locs ht hvm hw hB hz1 hk1 hS d_17 hd0 => ?_)
        have hts := dr_words hts0 (d_17)
        have hK := gKd hK0 (d_17)
        have hown : (s.setDrawn (d_17)).vm.findClass RX7 = some m.cls := hown0
        obtain ⟨hP, hD⟩ := gBack hF ht hB
        obtain ⟨hIσ6, fcσ6, hp_18⟩ := hw
        refine va_put (D := (dC, dI)) (ci := 3) (v := .int r_16) (C := RX4) (T := TX4) (N := 12) hx hb hts hinX4 tyX4 tyX4_ok nmX4 hown hK hP hD hS a0 (at_3 ha0) rfl 1 (by decide) (hts (.fieldLink RX7 105 "BondCalendars$Desk" "startCash" "I") (by decide +kernel)) (fun _ h9 => h9) rfl (ty := .int) (by decide +kernel) rfl rfl (Nat.le_of_ble_eq_true rfl) dX7_readDesk_53 (fun H locs hP hD hS => ?_)
        obtain ⟨σ7, eσ7, hP, hD⟩ := gPut (se_3_1 ha0) hP hD
        have hIσ7 : InvX σ7 := by rw [eσ7]; exact inv_I hIσ6 (ok_3_1 ha0 _)
        have frσ7 : gFr [3, 6, 9] σ σ7 := by rw [eσ7]; exact gFr.pI (gFr.tr (gFr.tr frσ4 fcσ5 (by decide)) fcσ6 (by decide)) ha0 (by decide)
        refine lv_aload_n hx hb dX7_readDesk_56 rfl (lv_at hl 0 rfl) ?_
        refine lv_iconst (v := 1) hx hb dX7_readDesk_57 (by decide) ?_
        refine va_put (D := (dC, dI)) (ci := 6) (v := .int 1) (C := RX7) (T := TX7) (N := 5) hx hb hts hinX7 tyX7 tyX7_ok nmX7 hown hK hP hD hS 1 (at_6 rfl) rfl 3 (by decide) (hts (.fieldLink RX7 25 "BondCalendars$Reader" "deskTold" "Z") (by decide +kernel)) (fun _ h9 => h9) rfl (ty := .boolean) (by decide +kernel) (by decide +kernel) (by decide +kernel) (Nat.le_of_ble_eq_true rfl) dX7_readDesk_58 (fun H locs hP hD hS => ?_)
        obtain ⟨σ8, eσ8, hP, hD⟩ := gPut (se_6_3 rfl) hP hD
        have hIσ8 : InvX σ8 := by rw [eσ8]; exact inv_I hIσ7 (ok_6_3 rfl _)
        have frσ8 : gFr [3, 6, 9] σ σ8 := by rw [eσ8]; exact gFr.pI frσ7 rfl (by decide)
        refine lv_aload_n hx hb dX7_readDesk_61 rfl (lv_at hl 1 rfl) ?_
        refine va_get (D := (dC, dI)) (ci := 3) (v := .int r_16) (C := RX4) (T := TX4) (N := 12) hx hb hts hinX4 hown hK hP a0 (at_3 ha0) rfl 1 (by decide) (hts (.fieldLink RX7 105 "BondCalendars$Desk" "startCash" "I") (by decide +kernel)) (fun _ h9 => h9) (congrArg (fun z => some (Value.int z)) (show (σ8 a0).1 1 = r_16 from by rw [eσ8, gI_ne _ _ _ (kne ha0 rfl (by decide)), eσ7, gI_self])) dX7_readDesk_62 ?_
        refine lv_iconst (v := (-1)) hx hb dX7_readDesk_65 (by decide) ?_
        refine lv_icmp_eq (tgt := 73) hx hb dX7_readDesk_66 (by decide) (fun c_19 => ?_) (fun c_19 => ?_)
        · refine lv_iconst (v := 0) hx hb dX7_readDesk_73 (by decide) ?_
          refine W.endD hd0 ?_
          exact W.zret (v := 0) hx hb hr (by decide) (fun t ht hW => ⟨⟨0, σ8, rfl, ⟨hIσ8, frσ8, Or.inl rfl⟩, ⟨by rw [ht]; exact hP, hD⟩⟩, hS.F ht⟩) hS.2.2 dX7_readDesk_74
        · refine lv_iconst (v := 1) hx hb dX7_readDesk_69 (by decide) ?_
          refine lv_goto (tgt := 74) hx hb dX7_readDesk_70 (by decide) ?_
          refine W.endD hd0 ?_
          exact W.zret (v := 1) hx hb hr (by decide) (fun t ht hW => ⟨⟨1, σ8, rfl, ⟨hIσ8, frσ8, Or.inr rfl⟩, ⟨by rw [ht]; exact hP, hD⟩⟩, hS.F ht⟩) hS.2.2 dX7_readDesk_74
      · refine lv_iconst (v := 0) hx hb dX7_readDesk_43 (by decide) ?_
        refine W.endD hd0 ?_
        exact W.zret (v := 0) hx hb hr (by decide) (fun t ht hW => ⟨⟨0, σ5, rfl, ⟨hIσ5, (gFr.tr frσ4 fcσ5 (by decide)), Or.inl rfl⟩, ⟨by rw [ht]; exact hP, hD⟩⟩, hS.F ht⟩) hS.2.2 dX7_readDesk_44
  · refine lv_iconst (v := 0) hx hb dX7_readDesk_16 (by decide) ?_
    refine W.endD hd0 ?_
    exact W.zret (v := 0) hx hb hr (by decide) (fun t ht hW => ⟨⟨0, σ2, rfl, ⟨hIσ2, (gFr.tr (gFr.tr (gFr.rfl (L := [3, 6, 9]) (σ := σ)) fcσ1 (by decide)) fcσ2 (by decide)), Or.inl rfl⟩, ⟨by rw [ht]; exact hP, hD⟩⟩, hS.F ht⟩) hS.2.2 dX7_readDesk_17
set_option maxHeartbeats 8000000 in
set_option maxRecDepth 100000 in
theorem n_X7_readHoliday (l : Launch) (dC : Nat → ClassId) (dI : Nat → Nat → Nat) (ad : Nat → Nat) (cA : Nat → ClassId) (adK adV : Nat → Nat) (sz : Nat) (σ : gs) (hI : InvX σ) (a0 : Nat) (ha0 : kX a0 = 3) : MetD lw_cs l yX7_readHoliday wsX7_readHoliday ({ frames := 3, cells := 0, slots := 0, locals := 70 }) (va_Pc [.ref (ad 1), .ref (ad a0)] (gPre adK adV (dC, dI) (wX ad cA σ) (tX cA) sz)) (va_Qi (fun (r : Int32) (τ : gs) => InvX τ ∧ gFr [4, 6, 9, 25] σ τ ∧ (r = 0 ∨ r = 1)) (fun τ t => gPost (dC, dI) (va_A (wX ad cA σ) sz) (wX ad cA τ) t) (va_A (wX ad cA σ) sz)) 0 0 (va_A (wX ad cA σ) sz) := by
  refine MetD.ofW (cc := cX7_readHoliday) (maxL := 3) (ret := (some .boolean)) (by decide) rfl ?_
  intro p e s m args below meth c s₁ B hml hv hd0
  obtain ⟨rfl, hsz, hP, hK, hD0, hT⟩ := hv
  have hx := B.exec
  have hb := B.bytes
  have hr := B.returns
  have hts0 := atoms_spec (ws := wsX7_readHoliday) B.pre
  have hK0 := hK
  have hown0 : s.vm.findClass RX7 = some m.cls := findClass_of_methodNamed B.named
  have hlocks := B.notSynchronized
  have hinX4 : ∀ w ∈ u_ws RX4 TX4 12, w ∈ wsX7_readHoliday := (fun _ h9 => List.mem_cons_of_mem _ (List.mem_append_left _ (List.mem_append_left _ (List.mem_append_left _ (List.mem_append_right _ h9)))))
  have hinX5 : ∀ w ∈ u_ws RX5 TX5 2, w ∈ wsX7_readHoliday := (fun _ h9 => List.mem_cons_of_mem _ (List.mem_append_left _ (List.mem_append_left _ (List.mem_append_right _ h9))))
  have hinX7 : ∀ w ∈ u_ws RX7 TX7 5, w ∈ wsX7_readHoliday := (fun _ h9 => List.mem_cons_of_mem _ (List.mem_append_left _ (List.mem_append_right _ h9)))
  have hinX10 : ∀ w ∈ u_ws RX10 TX10 7, w ∈ wsX7_readHoliday := (fun _ h9 => List.mem_cons_of_mem _ (List.mem_append_right _ h9))
  subst hsz
  have hD := hD0.self (sz := s.heap.size)
  generalize hAe : va_A (wX ad cA σ) s.heap.size = A at hD hT ⊢
  have hA : ∀ q : Nat, s.heap.size ≤ q → A q := fun q h => by rw [← hAe]; exact Or.inr h
  have hS : va_S A s.heap s.heap [] := va_S.rf
  have hl := lv_entry ([.ref (ad 1), .ref (ad a0)]) (n := 3) (Nat.le_of_ble_eq_true rfl)
  rw [lg_entry_eq]
  generalize (lg_sl ([.ref (ad 1), .ref (ad a0)]) ++ List.replicate (3 - (lg_sl ([.ref (ad 1), .ref (ad a0)])).length) Slot.unset).toArray = ls at hl ⊢
  have hl : lv_has ls 3 [(0, .ref (ad 1)), (1, .ref (ad a0))] := hl
  have hts := dr_words hts0 (s.drawn)
  have hK := gKd hK0 (s.drawn)
  have hown : (s.setDrawn (s.drawn)).vm.findClass RX7 = some m.cls := hown0
  refine lv_aload_n hx hb dX7_readHoliday_0 rfl (lv_at hl 1 rfl) ?_
  refine va_get (D := (dC, dI)) (ci := 3) (v := .ref (ad (a0 + 1))) (C := RX4) (T := TX4) (N := 12) hx hb hts hinX4 hown hK hP a0 (at_3 ha0) rfl 2 (by decide) (hts (.fieldLink RX7 108 "BondCalendars$Desk" "holidays" "LBondCalendars$Holidays;") (by decide +kernel)) (fun _ h9 => h9) rfl dX7_readHoliday_1 ?_
  have bd_1 := rd_4_1 (c := (a0 + 1)) hI (kk_3_1 ha0)
  refine va_get (D := (dC, dI)) (ci := 4) (v := .int ((σ ((a0 + 1))).1 1)) (C := RX5) (T := TX5) (N := 2) hx hb hts hinX5 hown hK hP ((a0 + 1)) (at_4 (kk_3_1 ha0)) rfl 1 (by decide) (hts (.fieldLink RX7 112 "BondCalendars$Holidays" "count" "I") (by decide +kernel)) (fun _ h9 => h9) rfl dX7_readHoliday_4 ?_
  refine lv_bipush (v := 10) hx hb dX7_readHoliday_7 (by decide) ?_
  refine lv_icmp_lt (tgt := 26) hx hb dX7_readHoliday_9 (by decide) (fun c_2 => ?_) (fun c_2 => ?_)
  · refine lv_aload_n hx hb dX7_readHoliday_26 rfl (lv_at hl 0 rfl) ?_
    refine va_get (D := (dC, dI)) (ci := 6) (v := .ref (ad 2)) (C := RX7) (T := TX7) (N := 5) hx hb hts hinX7 hown hK hP 1 (at_6 rfl) rfl 0 (by decide) (hts (.fieldLink RX7 12 "BondCalendars$Reader" "tape" "LBondCalendars$Tape;") (by decide +kernel)) (fun _ h9 => h9) rfl dX7_readHoliday_27 ?_
    have hF := gFree hD hS hA
    refine va_callvD hd0 (va_runV_D (As := []) (rest := []) ⟨hx, hb, hml, hown, hts⟩ (n_X10_advance l dC dI ad cA adK adV s.heap.size σ hI ) (cwV 0 hts gX7_readHoliday_X10_advance rfl rfl rfl (by decide +kernel) ⟨Nat.le_of_ble_eq_true rfl, Nat.le_of_ble_eq_true rfl⟩) ⟨gBlind, va_recv hK hP (ci := 9) (q0 := 2) rfl (at_9 rfl), gStart (As := [.ref (ad 2)]) hP hD hK0 hT hS hF (s.drawn)⟩ rfl rfl hl.1 rfl (lv_room (Nat.le_of_ble_eq_true rfl)) dX7_readHoliday_30 ⟨Nat.le_of_ble_eq_true rfl, Nat.le_of_ble_eq_true rfl⟩) hS (fun q _ h => hF q h) hF (fun σ1 t H locs ht hvm hw hB hz1 hk1 hS d_4 hd0 => ?_)
    have hts := dr_words hts0 (d_4)
    have hK := gKd hK0 (d_4)
    have hown : (s.setDrawn (d_4)).vm.findClass RX7 = some m.cls := hown0
    obtain ⟨hP, hD⟩ := gBack hF ht hB
    obtain ⟨hIσ1, fcσ1, hp_5⟩ := hw
    refine lv_aload_n hx hb dX7_readHoliday_33 rfl (lv_at hl 0 rfl) ?_
    have hF := gFree hD hS hA
    refine va_calliD hd0 (va_runV_D (As := []) (rest := []) ⟨hx, hb, hml, hown, hts⟩ (n_X7_takeDate l dC dI ad cA adK adV H.size σ1 hIσ1 ) (cwV 0 hts gX7_readHoliday_X7_takeDate rfl rfl rfl (by decide +kernel) ⟨Nat.le_of_ble_eq_true rfl, Nat.le_of_ble_eq_true rfl⟩) ⟨gBlind, va_recv hK hP (ci := 6) (q0 := 1) rfl (at_6 rfl), gStart (As := [.ref (ad 1)]) hP hD hK0 hT hS hF (d_4)⟩ rfl rfl hl.1 rfl (lv_room (Nat.le_of_ble_eq_true rfl)) dX7_readHoliday_34 ⟨Nat.le_of_ble_eq_true rfl, Nat.le_of_ble_eq_true rfl⟩) hS (fun q _ h => hF q h) hF (fun r_6 σ2 t H locs ht hvm hw hB hz1 hk1 hS d_7 hd0 => ?_)
    have hts := dr_words hts0 (d_7)
    have hK := gKd hK0 (d_7)
    have hown : (s.setDrawn (d_7)).vm.findClass RX7 = some m.cls := hown0
    obtain ⟨hP, hD⟩ := gBack hF ht hB
    obtain ⟨hIσ2, fcσ2, hp_8⟩ := hw
    refine lv_istore_n (lv' := [(2, .int r_6), (0, .ref (ad 1)), (1, .ref (ad a0))]) hx hb dX7_readHoliday_37 rfl hl (by decide) rfl (fun ls hl => ?_)
    refine lv_iload_n hx hb dX7_readHoliday_38 rfl (lv_at hl 0 rfl) ?_
    refine lv_iconst (v := (-1)) hx hb dX7_readHoliday_39 (by decide) ?_
    refine lv_icmp_ne (tgt := 45) hx hb dX7_readHoliday_40 (by decide) (fun c_9 => ?_) (fun c_9 => ?_)
    · refine lv_aload_n hx hb dX7_readHoliday_45 rfl (lv_at hl 2 rfl) ?_
      refine va_get (D := (dC, dI)) (ci := 3) (v := .ref (ad (a0 + 1))) (C := RX4) (T := TX4) (N := 12) hx hb hts hinX4 hown hK hP a0 (at_3 ha0) rfl 2 (by decide) (hts (.fieldLink RX7 108 "BondCalendars$Desk" "holidays" "LBondCalendars$Holidays;") (by decide +kernel)) (fun _ h9 => h9) rfl dX7_readHoliday_46 ?_
      refine lv_iload_n hx hb dX7_readHoliday_49 rfl (lv_at hl 0 rfl) ?_
      have hF := gFree hD hS hA
      refine va_calliD hd0 (va_runV_D (As := [.int r_6]) (rest := []) ⟨hx, hb, hml, hown, hts⟩ (n_X5_contains l dC dI ad cA adK adV H.size σ2 hIσ2 ((a0 + 1)) (kk_3_1 ha0) r_6) (cwV 1 hts gX7_readHoliday_X5_contains rfl rfl rfl (by decide +kernel) ⟨Nat.le_of_ble_eq_true rfl, Nat.le_of_ble_eq_true rfl⟩) ⟨gBlind, va_recv hK hP (ci := 4) (q0 := ((a0 + 1))) rfl (at_4 (kk_3_1 ha0)), gStart (As := [.ref (ad (a0 + 1)), .int r_6]) hP hD hK0 hT hS hF (d_7)⟩ rfl rfl hl.1 rfl (lv_room (Nat.le_of_ble_eq_true rfl)) dX7_readHoliday_50 ⟨Nat.le_of_ble_eq_true rfl, Nat.le_of_ble_eq_true rfl⟩) hS (fun q _ h => hF q h) hF (fun r_10 σ3 t H locs ht hvm hw hB hz1 hk1 hS d_11 hd0 => ?_)
      have hts := dr_words hts0 (d_11)
      have hK := gKd hK0 (d_11)
      have hown : (s.setDrawn (d_11)).vm.findClass RX7 = some m.cls := hown0
      obtain ⟨hP, hD⟩ := gBack hF ht hB
      obtain ⟨hIσ3, hro, hp_12⟩ := hw
      subst hro
      refine lv_if_eq (tgt := 66) hx hb dX7_readHoliday_53 (by decide) (fun c_13 => ?_) (fun c_13 => ?_)
      · refine lv_aload_n hx hb dX7_readHoliday_66 rfl (lv_at hl 2 rfl) ?_
        refine va_get (D := (dC, dI)) (ci := 3) (v := .ref (ad (a0 + 1))) (C := RX4) (T := TX4) (N := 12) hx hb hts hinX4 hown hK hP a0 (at_3 ha0) rfl 2 (by decide) (hts (.fieldLink RX7 108 "BondCalendars$Desk" "holidays" "LBondCalendars$Holidays;") (by decide +kernel)) (fun _ h9 => h9) rfl dX7_readHoliday_67 ?_
        refine lv_iload_n hx hb dX7_readHoliday_70 rfl (lv_at hl 0 rfl) ?_
        have hF := gFree hD hS hA
        refine va_callvD hd0 (va_runV_D (As := [.int r_6]) (rest := []) ⟨hx, hb, hml, hown, hts⟩ (n_X5_insert l dC dI ad cA adK adV H.size σ2 hIσ2 ((a0 + 1)) (kk_3_1 ha0) r_6) (cwV 1 hts gX7_readHoliday_X5_insert rfl rfl rfl (by decide +kernel) ⟨Nat.le_of_ble_eq_true rfl, Nat.le_of_ble_eq_true rfl⟩) ⟨gBlind, va_recv hK hP (ci := 4) (q0 := ((a0 + 1))) rfl (at_4 (kk_3_1 ha0)), gStart (As := [.ref (ad (a0 + 1)), .int r_6]) hP hD hK0 hT hS hF (d_11)⟩ rfl rfl hl.1 rfl (lv_room (Nat.le_of_ble_eq_true rfl)) dX7_readHoliday_71 ⟨Nat.le_of_ble_eq_true rfl, Nat.le_of_ble_eq_true rfl⟩) hS (fun q _ h => hF q h) hF (fun σ4 t H locs ht hvm hw hB hz1 hk1 hS d_15 hd0 => ?_)
        have hts := dr_words hts0 (d_15)
        have hK := gKd hK0 (d_15)
        have hown : (s.setDrawn (d_15)).vm.findClass RX7 = some m.cls := hown0
        obtain ⟨hP, hD⟩ := gBack hF ht hB
        obtain ⟨hIσ4, fcσ4, hp_16⟩ := hw
        refine lv_iconst (v := 1) hx hb dX7_readHoliday_74 (by decide) ?_
        refine W.endD hd0 ?_
        exact W.zret (v := 1) hx hb hr (by decide) (fun t ht hW => ⟨⟨1, σ4, rfl, ⟨hIσ4, (gFr.tr (gFr.tr (gFr.tr (gFr.rfl (L := [4, 6, 9, 25]) (σ := σ)) fcσ1 (by decide)) fcσ2 (by decide)) fcσ4 (by decide)), Or.inr rfl⟩, ⟨by rw [ht]; exact hP, hD⟩⟩, hS.F ht⟩) hS.2.2 dX7_readHoliday_75
      · refine lv_aload_n hx hb dX7_readHoliday_56 rfl (lv_at hl 1 rfl) ?_
        refine lv_iconst (v := 3) hx hb dX7_readHoliday_57 (by decide) ?_
        refine lv_aload_n hx hb dX7_readHoliday_58 rfl (lv_at hl 1 rfl) ?_
        refine va_get (D := (dC, dI)) (ci := 6) (v := .int ((σ2 1).1 4)) (C := RX7) (T := TX7) (N := 5) hx hb hts hinX7 hown hK hP 1 (at_6 rfl) rfl 4 (by decide) (hts (.fieldLink RX7 29 "BondCalendars$Reader" "wholeAt" "I") (by decide +kernel)) (fun _ h9 => h9) rfl dX7_readHoliday_59 ?_
        have hF := gFree hD hS hA
        refine va_calliD hd0 (va_runV_D (As := [.int 3, .int ((σ2 1).1 4)]) (rest := []) ⟨hx, hb, hml, hown, hts⟩ (n_X7_fail l dC dI ad cA adK adV H.size σ2 hIσ2 3 ((σ2 1).1 4)) (cwV 2 hts gX7_readHoliday_X7_fail rfl rfl rfl (by decide +kernel) ⟨Nat.le_of_ble_eq_true rfl, Nat.le_of_ble_eq_true rfl⟩) ⟨gBlind, va_recv hK hP (ci := 6) (q0 := 1) rfl (at_6 rfl), gStart (As := [.ref (ad 1), .int 3, .int ((σ2 1).1 4)]) hP hD hK0 hT hS hF (d_11)⟩ rfl rfl hl.1 rfl (lv_room (Nat.le_of_ble_eq_true rfl)) dX7_readHoliday_62 ⟨Nat.le_of_ble_eq_true rfl, Nat.le_of_ble_eq_true rfl⟩) hS (fun q _ h => hF q h) hF (fun r_17 σ5 t H locs ht hvm hw hB hz1 hk1 hS d_18 hd0 => ?_)
        have hts := dr_words hts0 (d_18)
        have hK := gKd hK0 (d_18)
        have hown : (s.setDrawn (d_18)).vm.findClass RX7 = some m.cls := hown0
        obtain ⟨hP, hD⟩ := gBack hF ht hB
        obtain ⟨hIσ5, fcσ5, hp_19⟩ := hw
        refine W.endD hd0 ?_
        exact W.zret (v := r_17) hx hb hr (by rcases hp_19 with h9 | h9 <;> rw [h9] <;> decide +kernel) (fun t ht hW => ⟨⟨r_17, σ5, rfl, ⟨hIσ5, (gFr.tr (gFr.tr (gFr.tr (gFr.rfl (L := [4, 6, 9, 25]) (σ := σ)) fcσ1 (by decide)) fcσ2 (by decide)) fcσ5 (by decide)), hp_19⟩, ⟨by rw [ht]; exact hP, hD⟩⟩, hS.F ht⟩) hS.2.2 dX7_readHoliday_65
    · refine lv_iconst (v := 0) hx hb dX7_readHoliday_43 (by decide) ?_
      refine W.endD hd0 ?_
      exact W.zret (v := 0) hx hb hr (by decide) (fun t ht hW => ⟨⟨0, σ2, rfl, ⟨hIσ2, (gFr.tr (gFr.tr (gFr.rfl (L := [4, 6, 9, 25]) (σ := σ)) fcσ1 (by decide)) fcσ2 (by decide)), Or.inl rfl⟩, ⟨by rw [ht]; exact hP, hD⟩⟩, hS.F ht⟩) hS.2.2 dX7_readHoliday_44
  · refine lv_aload_n hx hb dX7_readHoliday_12 rfl (lv_at hl 0 rfl) ?_
    refine lv_bipush (v := 6) hx hb dX7_readHoliday_13 (by decide) ?_
    refine lv_aload_n hx hb dX7_readHoliday_15 rfl (lv_at hl 0 rfl) ?_
    refine va_get (D := (dC, dI)) (ci := 6) (v := .ref (ad 2)) (C := RX7) (T := TX7) (N := 5) hx hb hts hinX7 hown hK hP 1 (at_6 rfl) rfl 0 (by decide) (hts (.fieldLink RX7 12 "BondCalendars$Reader" "tape" "LBondCalendars$Tape;") (by decide +kernel)) (fun _ h9 => h9) rfl dX7_readHoliday_16 ?_
    have bd_20 := rd_9_3 (c := 2) hI rfl
    refine va_get (D := (dC, dI)) (ci := 9) (v := .int ((σ 2).1 3)) (C := RX10) (T := TX10) (N := 7) hx hb hts hinX10 hown hK hP 2 (at_9 rfl) rfl 3 (by decide) (hts (.fieldLink RX7 52 "BondCalendars$Tape" "start" "I") (by decide +kernel)) (fun _ h9 => h9) rfl dX7_readHoliday_19 ?_
    have hF := gFree hD hS hA
    refine va_calliD hd0 (va_runV_D (As := [.int 6, .int ((σ 2).1 3)]) (rest := []) ⟨hx, hb, hml, hown, hts⟩ (n_X7_fail l dC dI ad cA adK adV s.heap.size σ hI 6 ((σ 2).1 3)) (cwV 2 hts gX7_readHoliday_X7_fail rfl rfl rfl (by decide +kernel) ⟨Nat.le_of_ble_eq_true rfl, Nat.le_of_ble_eq_true rfl⟩) ⟨gBlind, va_recv hK hP (ci := 6) (q0 := 1) rfl (at_6 rfl), gStart (As := [.ref (ad 1), .int 6, .int ((σ 2).1 3)]) hP hD hK0 hT hS hF (s.drawn)⟩ rfl rfl hl.1 rfl (lv_room (Nat.le_of_ble_eq_true rfl)) dX7_readHoliday_22 ⟨Nat.le_of_ble_eq_true rfl, Nat.le_of_ble_eq_true rfl⟩) hS (fun q _ h => hF q h) hF (fun r_21 σ6 t H locs ht hvm hw hB hz1 hk1 hS d_22 hd0 => ?_)
    have hts := dr_words hts0 (d_22)
    have hK := gKd hK0 (d_22)
    have hown : (s.setDrawn (d_22)).vm.findClass RX7 = some m.cls := hown0
    obtain ⟨hP, hD⟩ := gBack hF ht hB
    obtain ⟨hIσ6, fcσ6, hp_23⟩ := hw
    refine W.endD hd0 ?_
    exact W.zret (v := r_21) hx hb hr (by rcases hp_23 with h9 | h9 <;> rw [h9] <;> decide +kernel) (fun t ht hW => ⟨⟨r_21, σ6, rfl, ⟨hIσ6, (gFr.tr (gFr.rfl (L := [4, 6, 9, 25]) (σ := σ)) fcσ6 (by decide)), hp_23⟩, ⟨by rw [ht]; exact hP, hD⟩⟩, hS.F ht⟩) hS.2.2 dX7_readHoliday_25
set_option maxHeartbeats 8000000 in
set_option maxRecDepth 100000 in
theorem n_X7_takeRule (l : Launch) (dC : Nat → ClassId) (dI : Nat → Nat → Nat) (ad : Nat → Nat) (cA : Nat → ClassId) (adK adV : Nat → Nat) (sz : Nat) (σ : gs) (hI : InvX σ)  : MetD lw_cs l yX7_takeRule wsX7_takeRule ({ frames := 5, cells := 0, slots := 0, locals := 107 }) (va_Pc [.ref (ad 1)] (gPre adK adV (dC, dI) (wX ad cA σ) (tX cA) sz)) (va_Qi (fun (r : Int32) (τ : gs) => InvX τ ∧ gFr [6, 9] σ τ ∧ (True)) (fun τ t => gPost (dC, dI) (va_A (wX ad cA σ) sz) (wX ad cA τ) t) (va_A (wX ad cA σ) sz)) 0 0 (va_A (wX ad cA σ) sz) := by
  refine MetD.ofW (cc := cX7_takeRule) (maxL := 2) (ret := (some .int)) (by decide) rfl ?_
  intro p e s m args below meth c s₁ B hml hv hd0
  obtain ⟨rfl, hsz, hP, hK, hD0, hT⟩ := hv
  have hx := B.exec
  have hb := B.bytes
  have hr := B.returns
  have hts0 := atoms_spec (ws := wsX7_takeRule) B.pre
  have hK0 := hK
  have hown0 : s.vm.findClass RX7 = some m.cls := findClass_of_methodNamed B.named
  have hlocks := B.notSynchronized
  have hinX7 : ∀ w ∈ u_ws RX7 TX7 5, w ∈ wsX7_takeRule := (fun _ h9 => List.mem_cons_of_mem _ (List.mem_append_left _ (List.mem_append_right _ h9)))
  have hinX10 : ∀ w ∈ u_ws RX10 TX10 7, w ∈ wsX7_takeRule := (fun _ h9 => List.mem_cons_of_mem _ (List.mem_append_right _ h9))
  subst hsz
  have hD := hD0.self (sz := s.heap.size)
  generalize hAe : va_A (wX ad cA σ) s.heap.size = A at hD hT ⊢
  have hA : ∀ q : Nat, s.heap.size ≤ q → A q := fun q h => by rw [← hAe]; exact Or.inr h
  have hS : va_S A s.heap s.heap [] := va_S.rf
  have hl := lv_entry ([.ref (ad 1)]) (n := 2) (Nat.le_of_ble_eq_true rfl)
  rw [lg_entry_eq]
  generalize (lg_sl ([.ref (ad 1)]) ++ List.replicate (2 - (lg_sl ([.ref (ad 1)])).length) Slot.unset).toArray = ls at hl ⊢
  have hl : lv_has ls 2 [(0, .ref (ad 1))] := hl
  have hts := dr_words hts0 (s.drawn)
  have hK := gKd hK0 (s.drawn)
  have hown : (s.setDrawn (s.drawn)).vm.findClass RX7 = some m.cls := hown0
  refine lv_iconst (v := (-1)) hx hb dX7_takeRule_0 (by decide) ?_
  refine lv_istore_n (lv' := [(1, .int (-1)), (0, .ref (ad 1))]) hx hb dX7_takeRule_1 rfl hl (by decide) rfl (fun ls hl => ?_)
  refine lv_aload_n hx hb dX7_takeRule_2 rfl (lv_at hl 1 rfl) ?_
  refine va_get (D := (dC, dI)) (ci := 6) (v := .ref (ad 2)) (C := RX7) (T := TX7) (N := 5) hx hb hts hinX7 hown hK hP 1 (at_6 rfl) rfl 0 (by decide) (hts (.fieldLink RX7 12 "BondCalendars$Reader" "tape" "LBondCalendars$Tape;") (by decide +kernel)) (fun _ h9 => h9) rfl dX7_takeRule_3 ?_
  refine va_ldcS (tx := "thirty") (q := (adK 26)) hx hb hown (vk_R.same rfl hT.2.1.2.2.2.2.2.2.2.2.2.2.2.2.2.2.2.2.2.2.2.2.2.2.2.2.2.2.1) dX7_takeRule_6 ?_
  have hF := gFree hD hS hA
  refine va_calliD hd0 (va_runV_D (As := [.ref (adK 26)]) (rest := []) ⟨hx, hb, hml, hown, hts⟩ (n_X10_isWord l dC dI ad cA adK adV s.heap.size σ hI 26 (by decide)) (cwV 1 hts gX7_takeRule_X10_isWord rfl rfl rfl (by decide +kernel) ⟨Nat.le_of_ble_eq_true rfl, Nat.le_of_ble_eq_true rfl⟩) ⟨gBlind, va_recv hK hP (ci := 9) (q0 := 2) rfl (at_9 rfl), gStart (As := [.ref (ad 2), .ref (adK 26)]) hP hD hK0 hT hS hF (s.drawn)⟩ rfl rfl hl.1 rfl (lv_room (Nat.le_of_ble_eq_true rfl)) dX7_takeRule_8 ⟨Nat.le_of_ble_eq_true rfl, Nat.le_of_ble_eq_true rfl⟩) hS (fun q _ h => hF q h) hF (fun r_1 σ1 t H locs ht hvm hw hB hz1 hk1 hS d_2 hd0 => ?_)
  have hts := dr_words hts0 (d_2)
  have hK := gKd hK0 (d_2)
  have hown : (s.setDrawn (d_2)).vm.findClass RX7 = some m.cls := hown0
  obtain ⟨hP, hD⟩ := gBack hF ht hB
  obtain ⟨hIσ1, hro, hp_3⟩ := hw
  subst hro
  refine lv_if_eq (tgt := 19) hx hb dX7_takeRule_11 (by decide) (fun c_4 => ?_) (fun c_4 => ?_)
  · refine lv_aload_n hx hb dX7_takeRule_19 rfl (lv_at hl 1 rfl) ?_
    refine va_get (D := (dC, dI)) (ci := 6) (v := .ref (ad 2)) (C := RX7) (T := TX7) (N := 5) hx hb hts hinX7 hown hK hP 1 (at_6 rfl) rfl 0 (by decide) (hts (.fieldLink RX7 12 "BondCalendars$Reader" "tape" "LBondCalendars$Tape;") (by decide +kernel)) (fun _ h9 => h9) rfl dX7_takeRule_20 ?_
    refine va_ldcS (tx := "euro") (q := (adK 27)) hx hb hown (vk_R.same rfl hT.2.1.2.2.2.2.2.2.2.2.2.2.2.2.2.2.2.2.2.2.2.2.2.2.2.2.2.2.2.1) dX7_takeRule_23 ?_
    have hF := gFree hD hS hA
    refine va_calliD hd0 (va_runV_D (As := [.ref (adK 27)]) (rest := []) ⟨hx, hb, hml, hown, hts⟩ (n_X10_isWord l dC dI ad cA adK adV H.size σ hI 27 (by decide)) (cwV 1 hts gX7_takeRule_X10_isWord rfl rfl rfl (by decide +kernel) ⟨Nat.le_of_ble_eq_true rfl, Nat.le_of_ble_eq_true rfl⟩) ⟨gBlind, va_recv hK hP (ci := 9) (q0 := 2) rfl (at_9 rfl), gStart (As := [.ref (ad 2), .ref (adK 27)]) hP hD hK0 hT hS hF (d_2)⟩ rfl rfl hl.1 rfl (lv_room (Nat.le_of_ble_eq_true rfl)) dX7_takeRule_25 ⟨Nat.le_of_ble_eq_true rfl, Nat.le_of_ble_eq_true rfl⟩) hS (fun q _ h => hF q h) hF (fun r_5 σ2 t H locs ht hvm hw hB hz1 hk1 hS d_6 hd0 => ?_)
    have hts := dr_words hts0 (d_6)
    have hK := gKd hK0 (d_6)
    have hown : (s.setDrawn (d_6)).vm.findClass RX7 = some m.cls := hown0
    obtain ⟨hP, hD⟩ := gBack hF ht hB
    obtain ⟨hIσ2, hro, hp_7⟩ := hw
    subst hro
    refine lv_if_eq (tgt := 36) hx hb dX7_takeRule_28 (by decide) (fun c_8 => ?_) (fun c_8 => ?_)
    · refine lv_aload_n hx hb dX7_takeRule_36 rfl (lv_at hl 1 rfl) ?_
      refine va_get (D := (dC, dI)) (ci := 6) (v := .ref (ad 2)) (C := RX7) (T := TX7) (N := 5) hx hb hts hinX7 hown hK hP 1 (at_6 rfl) rfl 0 (by decide) (hts (.fieldLink RX7 12 "BondCalendars$Reader" "tape" "LBondCalendars$Tape;") (by decide +kernel)) (fun _ h9 => h9) rfl dX7_takeRule_37 ?_
      refine va_ldcS (tx := "money") (q := (adK 28)) hx hb hown (vk_R.same rfl hT.2.1.2.2.2.2.2.2.2.2.2.2.2.2.2.2.2.2.2.2.2.2.2.2.2.2.2.2.2.2.1) dX7_takeRule_40 ?_
      have hF := gFree hD hS hA
      refine va_calliD hd0 (va_runV_D (As := [.ref (adK 28)]) (rest := []) ⟨hx, hb, hml, hown, hts⟩ (n_X10_isWord l dC dI ad cA adK adV H.size σ hI 28 (by decide)) (cwV 1 hts gX7_takeRule_X10_isWord rfl rfl rfl (by decide +kernel) ⟨Nat.le_of_ble_eq_true rfl, Nat.le_of_ble_eq_true rfl⟩) ⟨gBlind, va_recv hK hP (ci := 9) (q0 := 2) rfl (at_9 rfl), gStart (As := [.ref (ad 2), .ref (adK 28)]) hP hD hK0 hT hS hF (d_6)⟩ rfl rfl hl.1 rfl (lv_room (Nat.le_of_ble_eq_true rfl)) dX7_takeRule_42 ⟨Nat.le_of_ble_eq_true rfl, Nat.le_of_ble_eq_true rfl⟩) hS (fun q _ h => hF q h) hF (fun r_9 σ3 t H locs ht hvm hw hB hz1 hk1 hS d_10 hd0 => ?_)
      have hts := dr_words hts0 (d_10)
      have hK := gKd hK0 (d_10)
      have hown : (s.setDrawn (d_10)).vm.findClass RX7 = some m.cls := hown0
      obtain ⟨hP, hD⟩ := gBack hF ht hB
      obtain ⟨hIσ3, hro, hp_11⟩ := hw
      subst hro
      refine lv_if_eq (tgt := 53) hx hb dX7_takeRule_45 (by decide) (fun c_12 => ?_) (fun c_12 => ?_)
      · refine lv_aload_n hx hb dX7_takeRule_53 rfl (lv_at hl 1 rfl) ?_
        refine va_get (D := (dC, dI)) (ci := 6) (v := .ref (ad 2)) (C := RX7) (T := TX7) (N := 5) hx hb hts hinX7 hown hK hP 1 (at_6 rfl) rfl 0 (by decide) (hts (.fieldLink RX7 12 "BondCalendars$Reader" "tape" "LBondCalendars$Tape;") (by decide +kernel)) (fun _ h9 => h9) rfl dX7_takeRule_54 ?_
        refine va_ldcS (tx := "fixed") (q := (adK 29)) hx hb hown (vk_R.same rfl hT.2.1.2.2.2.2.2.2.2.2.2.2.2.2.2.2.2.2.2.2.2.2.2.2.2.2.2.2.2.2.2.1) dX7_takeRule_57 ?_
        have hF := gFree hD hS hA
        refine va_calliD hd0 (va_runV_D (As := [.ref (adK 29)]) (rest := []) ⟨hx, hb, hml, hown, hts⟩ (n_X10_isWord l dC dI ad cA adK adV H.size σ hI 29 (by decide)) (cwV 1 hts gX7_takeRule_X10_isWord rfl rfl rfl (by decide +kernel) ⟨Nat.le_of_ble_eq_true rfl, Nat.le_of_ble_eq_true rfl⟩) ⟨gBlind, va_recv hK hP (ci := 9) (q0 := 2) rfl (at_9 rfl), gStart (As := [.ref (ad 2), .ref (adK 29)]) hP hD hK0 hT hS hF (d_10)⟩ rfl rfl hl.1 rfl (lv_room (Nat.le_of_ble_eq_true rfl)) dX7_takeRule_59 ⟨Nat.le_of_ble_eq_true rfl, Nat.le_of_ble_eq_true rfl⟩) hS (fun q _ h => hF q h) hF (fun r_13 σ4 t H locs ht hvm hw hB hz1 hk1 hS d_14 hd0 => ?_)
        have hts := dr_words hts0 (d_14)
        have hK := gKd hK0 (d_14)
        have hown : (s.setDrawn (d_14)).vm.findClass RX7 = some m.cls := hown0
        obtain ⟨hP, hD⟩ := gBack hF ht hB
        obtain ⟨hIσ4, hro, hp_15⟩ := hw
        subst hro
        refine lv_if_eq (tgt := 70) hx hb dX7_takeRule_62 (by decide) (fun c_16 => ?_) (fun c_16 => ?_)
        · refine lv_aload_n hx hb dX7_takeRule_70 rfl (lv_at hl 1 rfl) ?_
          refine va_get (D := (dC, dI)) (ci := 6) (v := .ref (ad 2)) (C := RX7) (T := TX7) (N := 5) hx hb hts hinX7 hown hK hP 1 (at_6 rfl) rfl 0 (by decide) (hts (.fieldLink RX7 12 "BondCalendars$Reader" "tape" "LBondCalendars$Tape;") (by decide +kernel)) (fun _ h9 => h9) rfl dX7_takeRule_71 ?_
          refine va_ldcS (tx := "actual") (q := (adK 30)) hx hb hown (vk_R.same rfl hT.2.1.2.2.2.2.2.2.2.2.2.2.2.2.2.2.2.2.2.2.2.2.2.2.2.2.2.2.2.2.2.2.1) dX7_takeRule_74 ?_
          have hF := gFree hD hS hA
          refine va_calliD hd0 (va_runV_D (As := [.ref (adK 30)]) (rest := []) ⟨hx, hb, hml, hown, hts⟩ (n_X10_isWord l dC dI ad cA adK adV H.size σ hI 30 (by decide)) (cwV 1 hts gX7_takeRule_X10_isWord rfl rfl rfl (by decide +kernel) ⟨Nat.le_of_ble_eq_true rfl, Nat.le_of_ble_eq_true rfl⟩) ⟨gBlind, va_recv hK hP (ci := 9) (q0 := 2) rfl (at_9 rfl), gStart (As := [.ref (ad 2), .ref (adK 30)]) hP hD hK0 hT hS hF (d_14)⟩ rfl rfl hl.1 rfl (lv_room (Nat.le_of_ble_eq_true rfl)) dX7_takeRule_76 ⟨Nat.le_of_ble_eq_true rfl, Nat.le_of_ble_eq_true rfl⟩) hS (fun q _ h => hF q h) hF (fun r_17 σ5 t H locs ht hvm hw hB hz1 hk1 hS d_18 hd0 => ?_)
          have hts := dr_words hts0 (d_18)
          have hK := gKd hK0 (d_18)
          have hown : (s.setDrawn (d_18)).vm.findClass RX7 = some m.cls := hown0
          obtain ⟨hP, hD⟩ := gBack hF ht hB
          obtain ⟨hIσ5, hro, hp_19⟩ := hw
          subst hro
          refine lv_if_eq (tgt := 84) hx hb dX7_takeRule_79 (by decide) (fun c_20 => ?_) (fun c_20 => ?_)
          · refine lv_iload_n hx hb dX7_takeRule_84 rfl (lv_at hl 0 rfl) ?_
            refine lv_iconst (v := (-1)) hx hb dX7_takeRule_85 (by decide) ?_
            refine lv_icmp_ne (tgt := 105) hx hb dX7_takeRule_86 (by decide) (fun c_21 => ?_) (fun c_21 => ?_)
            · exact absurd (by decide) c_21
            · refine lv_aload_n hx hb dX7_takeRule_89 rfl (lv_at hl 1 rfl) ?_
              refine lv_iconst (v := 1) hx hb dX7_takeRule_90 (by decide) ?_
              refine lv_aload_n hx hb dX7_takeRule_91 rfl (lv_at hl 1 rfl) ?_
              refine va_get (D := (dC, dI)) (ci := 6) (v := .ref (ad 2)) (C := RX7) (T := TX7) (N := 5) hx hb hts hinX7 hown hK hP 1 (at_6 rfl) rfl 0 (by decide) (hts (.fieldLink RX7 12 "BondCalendars$Reader" "tape" "LBondCalendars$Tape;") (by decide +kernel)) (fun _ h9 => h9) rfl dX7_takeRule_92 ?_
              have bd_22 := rd_9_3 (c := 2) hI rfl
              refine va_get (D := (dC, dI)) (ci := 9) (v := .int ((σ 2).1 3)) (C := RX10) (T := TX10) (N := 7) hx hb hts hinX10 hown hK hP 2 (at_9 rfl) rfl 3 (by decide) (hts (.fieldLink RX7 52 "BondCalendars$Tape" "start" "I") (by decide +kernel)) (fun _ h9 => h9) rfl dX7_takeRule_95 ?_
              have hF := gFree hD hS hA
              refine va_calliD hd0 (va_runV_D (As := [.int 1, .int ((σ 2).1 3)]) (rest := []) ⟨hx, hb, hml, hown, hts⟩ (n_X7_fail l dC dI ad cA adK adV H.size σ hI 1 ((σ 2).1 3)) (cwV 2 hts gX7_takeRule_X7_fail rfl rfl rfl (by decide +kernel) ⟨Nat.le_of_ble_eq_true rfl, Nat.le_of_ble_eq_true rfl⟩) ⟨gBlind, va_recv hK hP (ci := 6) (q0 := 1) rfl (at_6 rfl), gStart (As := [.ref (ad 1), .int 1, .int ((σ 2).1 3)]) hP hD hK0 hT hS hF (d_18)⟩ rfl rfl hl.1 rfl (lv_room (Nat.le_of_ble_eq_true rfl)) dX7_takeRule_98 ⟨Nat.le_of_ble_eq_true rfl, Nat.le_of_ble_eq_true rfl⟩) hS (fun q _ h => hF q h) hF (fun r_23 σ6 t H locs ht hvm hw hB hz1 hk1 hS d_24 hd0 => ?_)
              have hts := dr_words hts0 (d_24)
              have hK := gKd hK0 (d_24)
              have hown : (s.setDrawn (d_24)).vm.findClass RX7 = some m.cls := hown0
              obtain ⟨hP, hD⟩ := gBack hF ht hB
              obtain ⟨hIσ6, fcσ6, hp_25⟩ := hw
              refine lv_pop hx hb dX7_takeRule_101 rfl ?_
              refine lv_goto (tgt := 112) hx hb dX7_takeRule_102 (by decide) ?_
              refine lv_iload_n hx hb dX7_takeRule_112 rfl (lv_at hl 0 rfl) ?_
              refine W.endD hd0 ?_
              exact W.iret (v := (-1)) hx hb hr (fun t ht hW => ⟨⟨(-1), σ6, rfl, ⟨hIσ6, (gFr.tr (gFr.rfl (L := [6, 9]) (σ := σ)) fcσ6 (by decide)), trivial⟩, ⟨by rw [ht]; exact hP, hD⟩⟩, hS.F ht⟩) hS.2.2 dX7_takeRule_113
          · refine lv_iconst (v := 4) hx hb dX7_takeRule_82 (by decide) ?_
            refine lv_istore_n (lv' := [(1, .int 4), (0, .ref (ad 1))]) hx hb dX7_takeRule_83 rfl hl (by decide) rfl (fun ls hl => ?_)
            refine lv_iload_n hx hb dX7_takeRule_84 rfl (lv_at hl 0 rfl) ?_
            refine lv_iconst (v := (-1)) hx hb dX7_takeRule_85 (by decide) ?_
            refine lv_icmp_ne (tgt := 105) hx hb dX7_takeRule_86 (by decide) (fun c_26 => ?_) (fun c_26 => ?_)
            · refine lv_aload_n hx hb dX7_takeRule_105 rfl (lv_at hl 1 rfl) ?_
              refine va_get (D := (dC, dI)) (ci := 6) (v := .ref (ad 2)) (C := RX7) (T := TX7) (N := 5) hx hb hts hinX7 hown hK hP 1 (at_6 rfl) rfl 0 (by decide) (hts (.fieldLink RX7 12 "BondCalendars$Reader" "tape" "LBondCalendars$Tape;") (by decide +kernel)) (fun _ h9 => h9) rfl dX7_takeRule_106 ?_
              have hF := gFree hD hS hA
              refine va_callvD hd0 (va_runV_D (As := []) (rest := []) ⟨hx, hb, hml, hown, hts⟩ (n_X10_advance l dC dI ad cA adK adV H.size σ hI ) (cwV 0 hts gX7_takeRule_X10_advance rfl rfl rfl (by decide +kernel) ⟨Nat.le_of_ble_eq_true rfl, Nat.le_of_ble_eq_true rfl⟩) ⟨gBlind, va_recv hK hP (ci := 9) (q0 := 2) rfl (at_9 rfl), gStart (As := [.ref (ad 2)]) hP hD hK0 hT hS hF (d_18)⟩ rfl rfl hl.1 rfl (lv_room (Nat.le_of_ble_eq_true rfl)) dX7_takeRule_109 ⟨Nat.le_of_ble_eq_true rfl, Nat.le_of_ble_eq_true rfl⟩) hS (fun q _ h => hF q h) hF (fun σ7 t H locs ht hvm hw hB hz1 hk1 hS d_28 hd0 => ?_)
              have hts := dr_words hts0 (d_28)
              have hK := gKd hK0 (d_28)
              have hown : (s.setDrawn (d_28)).vm.findClass RX7 = some m.cls := hown0
              obtain ⟨hP, hD⟩ := gBack hF ht hB
              obtain ⟨hIσ7, fcσ7, hp_29⟩ := hw
              refine lv_iload_n hx hb dX7_takeRule_112 rfl (lv_at hl 0 rfl) ?_
              refine W.endD hd0 ?_
              exact W.iret (v := 4) hx hb hr (fun t ht hW => ⟨⟨4, σ7, rfl, ⟨hIσ7, (gFr.tr (gFr.rfl (L := [6, 9]) (σ := σ)) fcσ7 (by decide)), trivial⟩, ⟨by rw [ht]; exact hP, hD⟩⟩, hS.F ht⟩) hS.2.2 dX7_takeRule_113
            · exact absurd c_26 (by decide)
        · refine lv_iconst (v := 3) hx hb dX7_takeRule_65 (by decide) ?_
          refine lv_istore_n (lv' := [(1, .int 3), (0, .ref (ad 1))]) hx hb dX7_takeRule_66 rfl hl (by decide) rfl (fun ls hl => ?_)
          refine lv_goto (tgt := 84) hx hb dX7_takeRule_67 (by decide) ?_
          refine lv_iload_n hx hb dX7_takeRule_84 rfl (lv_at hl 0 rfl) ?_
          refine lv_iconst (v := (-1)) hx hb dX7_takeRule_85 (by decide) ?_
          refine lv_icmp_ne (tgt := 105) hx hb dX7_takeRule_86 (by decide) (fun c_30 => ?_) (fun c_30 => ?_)
          · refine lv_aload_n hx hb dX7_takeRule_105 rfl (lv_at hl 1 rfl) ?_
            refine va_get (D := (dC, dI)) (ci := 6) (v := .ref (ad 2)) (C := RX7) (T := TX7) (N := 5) hx hb hts hinX7 hown hK hP 1 (at_6 rfl) rfl 0 (by decide) (hts (.fieldLink RX7 12 "BondCalendars$Reader" "tape" "LBondCalendars$Tape;") (by decide +kernel)) (fun _ h9 => h9) rfl dX7_takeRule_106 ?_
            have hF := gFree hD hS hA
            refine va_callvD hd0 (va_runV_D (As := []) (rest := []) ⟨hx, hb, hml, hown, hts⟩ (n_X10_advance l dC dI ad cA adK adV H.size σ hI ) (cwV 0 hts gX7_takeRule_X10_advance rfl rfl rfl (by decide +kernel) ⟨Nat.le_of_ble_eq_true rfl, Nat.le_of_ble_eq_true rfl⟩) ⟨gBlind, va_recv hK hP (ci := 9) (q0 := 2) rfl (at_9 rfl), gStart (As := [.ref (ad 2)]) hP hD hK0 hT hS hF (d_14)⟩ rfl rfl hl.1 rfl (lv_room (Nat.le_of_ble_eq_true rfl)) dX7_takeRule_109 ⟨Nat.le_of_ble_eq_true rfl, Nat.le_of_ble_eq_true rfl⟩) hS (fun q _ h => hF q h) hF (fun σ8 t H locs ht hvm hw hB hz1 hk1 hS d_32 hd0 => ?_)
            have hts := dr_words hts0 (d_32)
            have hK := gKd hK0 (d_32)
            have hown : (s.setDrawn (d_32)).vm.findClass RX7 = some m.cls := hown0
            obtain ⟨hP, hD⟩ := gBack hF ht hB
            obtain ⟨hIσ8, fcσ8, hp_33⟩ := hw
            refine lv_iload_n hx hb dX7_takeRule_112 rfl (lv_at hl 0 rfl) ?_
            refine W.endD hd0 ?_
            exact W.iret (v := 3) hx hb hr (fun t ht hW => ⟨⟨3, σ8, rfl, ⟨hIσ8, (gFr.tr (gFr.rfl (L := [6, 9]) (σ := σ)) fcσ8 (by decide)), trivial⟩, ⟨by rw [ht]; exact hP, hD⟩⟩, hS.F ht⟩) hS.2.2 dX7_takeRule_113
          · exact absurd c_30 (by decide)
      · refine lv_iconst (v := 2) hx hb dX7_takeRule_48 (by decide) ?_
        refine lv_istore_n (lv' := [(1, .int 2), (0, .ref (ad 1))]) hx hb dX7_takeRule_49 rfl hl (by decide) rfl (fun ls hl => ?_)
        refine lv_goto (tgt := 84) hx hb dX7_takeRule_50 (by decide) ?_
        refine lv_iload_n hx hb dX7_takeRule_84 rfl (lv_at hl 0 rfl) ?_
        refine lv_iconst (v := (-1)) hx hb dX7_takeRule_85 (by decide) ?_
        refine lv_icmp_ne (tgt := 105) hx hb dX7_takeRule_86 (by decide) (fun c_34 => ?_) (fun c_34 => ?_)
        · refine lv_aload_n hx hb dX7_takeRule_105 rfl (lv_at hl 1 rfl) ?_
          refine va_get (D := (dC, dI)) (ci := 6) (v := .ref (ad 2)) (C := RX7) (T := TX7) (N := 5) hx hb hts hinX7 hown hK hP 1 (at_6 rfl) rfl 0 (by decide) (hts (.fieldLink RX7 12 "BondCalendars$Reader" "tape" "LBondCalendars$Tape;") (by decide +kernel)) (fun _ h9 => h9) rfl dX7_takeRule_106 ?_
          have hF := gFree hD hS hA
          refine va_callvD hd0 (va_runV_D (As := []) (rest := []) ⟨hx, hb, hml, hown, hts⟩ (n_X10_advance l dC dI ad cA adK adV H.size σ hI ) (cwV 0 hts gX7_takeRule_X10_advance rfl rfl rfl (by decide +kernel) ⟨Nat.le_of_ble_eq_true rfl, Nat.le_of_ble_eq_true rfl⟩) ⟨gBlind, va_recv hK hP (ci := 9) (q0 := 2) rfl (at_9 rfl), gStart (As := [.ref (ad 2)]) hP hD hK0 hT hS hF (d_10)⟩ rfl rfl hl.1 rfl (lv_room (Nat.le_of_ble_eq_true rfl)) dX7_takeRule_109 ⟨Nat.le_of_ble_eq_true rfl, Nat.le_of_ble_eq_true rfl⟩) hS (fun q _ h => hF q h) hF (fun σ9 t H locs ht hvm hw hB hz1 hk1 hS d_36 hd0 => ?_)
          have hts := dr_words hts0 (d_36)
          have hK := gKd hK0 (d_36)
          have hown : (s.setDrawn (d_36)).vm.findClass RX7 = some m.cls := hown0
          obtain ⟨hP, hD⟩ := gBack hF ht hB
          obtain ⟨hIσ9, fcσ9, hp_37⟩ := hw
          refine lv_iload_n hx hb dX7_takeRule_112 rfl (lv_at hl 0 rfl) ?_
          refine W.endD hd0 ?_
          exact W.iret (v := 2) hx hb hr (fun t ht hW => ⟨⟨2, σ9, rfl, ⟨hIσ9, (gFr.tr (gFr.rfl (L := [6, 9]) (σ := σ)) fcσ9 (by decide)), trivial⟩, ⟨by rw [ht]; exact hP, hD⟩⟩, hS.F ht⟩) hS.2.2 dX7_takeRule_113
        · exact absurd c_34 (by decide)
    · refine lv_iconst (v := 1) hx hb dX7_takeRule_31 (by decide) ?_
      refine lv_istore_n (lv' := [(1, .int 1), (0, .ref (ad 1))]) hx hb dX7_takeRule_32 rfl hl (by decide) rfl (fun ls hl => ?_)
      refine lv_goto (tgt := 84) hx hb dX7_takeRule_33 (by decide) ?_
      refine lv_iload_n hx hb dX7_takeRule_84 rfl (lv_at hl 0 rfl) ?_
      refine lv_iconst (v := (-1)) hx hb dX7_takeRule_85 (by decide) ?_
      refine lv_icmp_ne (tgt := 105) hx hb dX7_takeRule_86 (by decide) (fun c_38 => ?_) (fun c_38 => ?_)
      · refine lv_aload_n hx hb dX7_takeRule_105 rfl (lv_at hl 1 rfl) ?_
        refine va_get (D := (dC, dI)) (ci := 6) (v := .ref (ad 2)) (C := RX7) (T := TX7) (N := 5) hx hb hts hinX7 hown hK hP 1 (at_6 rfl) rfl 0 (by decide) (hts (.fieldLink RX7 12 "BondCalendars$Reader" "tape" "LBondCalendars$Tape;") (by decide +kernel)) (fun _ h9 => h9) rfl dX7_takeRule_106 ?_
        have hF := gFree hD hS hA
        refine va_callvD hd0 (va_runV_D (As := []) (rest := []) ⟨hx, hb, hml, hown, hts⟩ (n_X10_advance l dC dI ad cA adK adV H.size σ hI ) (cwV 0 hts gX7_takeRule_X10_advance rfl rfl rfl (by decide +kernel) ⟨Nat.le_of_ble_eq_true rfl, Nat.le_of_ble_eq_true rfl⟩) ⟨gBlind, va_recv hK hP (ci := 9) (q0 := 2) rfl (at_9 rfl), gStart (As := [.ref (ad 2)]) hP hD hK0 hT hS hF (d_6)⟩ rfl rfl hl.1 rfl (lv_room (Nat.le_of_ble_eq_true rfl)) dX7_takeRule_109 ⟨Nat.le_of_ble_eq_true rfl, Nat.le_of_ble_eq_true rfl⟩) hS (fun q _ h => hF q h) hF (fun σ10 t H locs ht hvm hw hB hz1 hk1 hS d_40 hd0 => ?_)
        have hts := dr_words hts0 (d_40)
        have hK := gKd hK0 (d_40)
        have hown : (s.setDrawn (d_40)).vm.findClass RX7 = some m.cls := hown0
        obtain ⟨hP, hD⟩ := gBack hF ht hB
        obtain ⟨hIσ10, fcσ10, hp_41⟩ := hw
        refine lv_iload_n hx hb dX7_takeRule_112 rfl (lv_at hl 0 rfl) ?_
        refine W.endD hd0 ?_
        exact W.iret (v := 1) hx hb hr (fun t ht hW => ⟨⟨1, σ10, rfl, ⟨hIσ10, (gFr.tr (gFr.rfl (L := [6, 9]) (σ := σ)) fcσ10 (by decide)), trivial⟩, ⟨by rw [ht]; exact hP, hD⟩⟩, hS.F ht⟩) hS.2.2 dX7_takeRule_113
      · exact absurd c_38 (by decide)
  · refine lv_iconst (v := 0) hx hb dX7_takeRule_14 (by decide) ?_
    refine lv_istore_n (lv' := [(1, .int 0), (0, .ref (ad 1))]) hx hb dX7_takeRule_15 rfl hl (by decide) rfl (fun ls hl => ?_)
    refine lv_goto (tgt := 84) hx hb dX7_takeRule_16 (by decide) ?_
    refine lv_iload_n hx hb dX7_takeRule_84 rfl (lv_at hl 0 rfl) ?_
    refine lv_iconst (v := (-1)) hx hb dX7_takeRule_85 (by decide) ?_
    refine lv_icmp_ne (tgt := 105) hx hb dX7_takeRule_86 (by decide) (fun c_42 => ?_) (fun c_42 => ?_)
    · refine lv_aload_n hx hb dX7_takeRule_105 rfl (lv_at hl 1 rfl) ?_
      refine va_get (D := (dC, dI)) (ci := 6) (v := .ref (ad 2)) (C := RX7) (T := TX7) (N := 5) hx hb hts hinX7 hown hK hP 1 (at_6 rfl) rfl 0 (by decide) (hts (.fieldLink RX7 12 "BondCalendars$Reader" "tape" "LBondCalendars$Tape;") (by decide +kernel)) (fun _ h9 => h9) rfl dX7_takeRule_106 ?_
      have hF := gFree hD hS hA
      refine va_callvD hd0 (va_runV_D (As := []) (rest := []) ⟨hx, hb, hml, hown, hts⟩ (n_X10_advance l dC dI ad cA adK adV H.size σ hI ) (cwV 0 hts gX7_takeRule_X10_advance rfl rfl rfl (by decide +kernel) ⟨Nat.le_of_ble_eq_true rfl, Nat.le_of_ble_eq_true rfl⟩) ⟨gBlind, va_recv hK hP (ci := 9) (q0 := 2) rfl (at_9 rfl), gStart (As := [.ref (ad 2)]) hP hD hK0 hT hS hF (d_2)⟩ rfl rfl hl.1 rfl (lv_room (Nat.le_of_ble_eq_true rfl)) dX7_takeRule_109 ⟨Nat.le_of_ble_eq_true rfl, Nat.le_of_ble_eq_true rfl⟩) hS (fun q _ h => hF q h) hF (fun σ11 t H locs ht hvm hw hB hz1 hk1 hS d_44 hd0 => ?_)
      have hts := dr_words hts0 (d_44)
      have hK := gKd hK0 (d_44)
      have hown : (s.setDrawn (d_44)).vm.findClass RX7 = some m.cls := hown0
      obtain ⟨hP, hD⟩ := gBack hF ht hB
      obtain ⟨hIσ11, fcσ11, hp_45⟩ := hw
      refine lv_iload_n hx hb dX7_takeRule_112 rfl (lv_at hl 0 rfl) ?_
      refine W.endD hd0 ?_
      exact W.iret (v := 0) hx hb hr (fun t ht hW => ⟨⟨0, σ11, rfl, ⟨hIσ11, (gFr.tr (gFr.rfl (L := [6, 9]) (σ := σ)) fcσ11 (by decide)), trivial⟩, ⟨by rw [ht]; exact hP, hD⟩⟩, hS.F ht⟩) hS.2.2 dX7_takeRule_113
    · exact absurd c_42 (by decide)
set_option maxHeartbeats 8000000 in
set_option maxRecDepth 100000 in
theorem n_X7_readRate (l : Launch) (dC : Nat → ClassId) (dI : Nat → Nat → Nat) (ad : Nat → Nat) (cA : Nat → ClassId) (adK adV : Nat → Nat) (sz : Nat) (σ : gs) (hI : InvX σ) (a0 : Nat) (ha0 : kX a0 = 0) : MetD lw_cs l yX7_readRate wsX7_readRate ({ frames := 6, cells := 0, slots := 0, locals := 128 }) (va_Pc [.ref (ad 1), .ref (ad a0)] (gPre adK adV (dC, dI) (wX ad cA σ) (tX cA) sz)) (va_Qi (fun (r : Int32) (τ : gs) => InvX τ ∧ gFr [0, 6, 9] σ τ ∧ (r = 0 ∨ r = 1)) (fun τ t => gPost (dC, dI) (va_A (wX ad cA σ) sz) (wX ad cA τ) t) (va_A (wX ad cA σ) sz)) 0 0 (va_A (wX ad cA σ) sz) := by
  refine MetD.ofW (cc := cX7_readRate) (maxL := 2) (ret := (some .boolean)) (by decide) rfl ?_
  intro p e s m args below meth c s₁ B hml hv hd0
  obtain ⟨rfl, hsz, hP, hK, hD0, hT⟩ := hv
  have hx := B.exec
  have hb := B.bytes
  have hr := B.returns
  have hts0 := atoms_spec (ws := wsX7_readRate) B.pre
  have hK0 := hK
  have hown0 : s.vm.findClass RX7 = some m.cls := findClass_of_methodNamed B.named
  have hlocks := B.notSynchronized
  have hinX0 : ∀ w ∈ u_ws RX0 TX0 16, w ∈ wsX7_readRate := (fun _ h9 => List.mem_cons_of_mem _ (List.mem_append_left _ (List.mem_append_left _ (List.mem_append_right _ h9))))
  have hinX7 : ∀ w ∈ u_ws RX7 TX7 5, w ∈ wsX7_readRate := (fun _ h9 => List.mem_cons_of_mem _ (List.mem_append_left _ (List.mem_append_right _ h9)))
  subst hsz
  have hD := hD0.self (sz := s.heap.size)
  generalize hAe : va_A (wX ad cA σ) s.heap.size = A at hD hT ⊢
  have hA : ∀ q : Nat, s.heap.size ≤ q → A q := fun q h => by rw [← hAe]; exact Or.inr h
  have hS : va_S A s.heap s.heap [] := va_S.rf
  have hl := lv_entry ([.ref (ad 1), .ref (ad a0)]) (n := 2) (Nat.le_of_ble_eq_true rfl)
  rw [lg_entry_eq]
  generalize (lg_sl ([.ref (ad 1), .ref (ad a0)]) ++ List.replicate (2 - (lg_sl ([.ref (ad 1), .ref (ad a0)])).length) Slot.unset).toArray = ls at hl ⊢
  have hl : lv_has ls 2 [(0, .ref (ad 1)), (1, .ref (ad a0))] := hl
  have hts := dr_words hts0 (s.drawn)
  have hK := gKd hK0 (s.drawn)
  have hown : (s.setDrawn (s.drawn)).vm.findClass RX7 = some m.cls := hown0
  refine lv_aload_n hx hb dX7_readRate_0 rfl (lv_at hl 1 rfl) ?_
  refine lv_aload_n hx hb dX7_readRate_1 rfl (lv_at hl 0 rfl) ?_
  refine lv_iconst (v := 0) hx hb dX7_readRate_2 (by decide) ?_
  refine lv_sipush (v := 2000) hx hb dX7_readRate_3 (by decide) ?_
  have hF := gFree hD hS hA
  refine va_calliD hd0 (va_runV_D (As := [.int 0, .int 2000]) (rest := [.ref (ad a0)]) ⟨hx, hb, hml, hown, hts⟩ (n_X7_takeWhole l dC dI ad cA adK adV s.heap.size σ hI 0 2000) (cwV 2 hts gX7_readRate_X7_takeWhole rfl rfl rfl (by decide +kernel) ⟨Nat.le_of_ble_eq_true rfl, Nat.le_of_ble_eq_true rfl⟩) ⟨gBlind, va_recv hK hP (ci := 6) (q0 := 1) rfl (at_6 rfl), gStart (As := [.ref (ad 1), .int 0, .int 2000]) hP hD hK0 hT hS hF (s.drawn)⟩ rfl rfl hl.1 rfl (lv_room (Nat.le_of_ble_eq_true rfl)) dX7_readRate_6 ⟨Nat.le_of_ble_eq_true rfl, Nat.le_of_ble_eq_true rfl⟩) hS (fun q _ h => hF q h) hF (fun r_1 σ1 t H locs ht hvm hw hB hz1 hk1 hS d_2 hd0 => ?_)
  have hts := dr_words hts0 (d_2)
  have hK := gKd hK0 (d_2)
  have hown : (s.setDrawn (d_2)).vm.findClass RX7 = some m.cls := hown0
  obtain ⟨hP, hD⟩ := gBack hF ht hB
  obtain ⟨hIσ1, fcσ1, hp_3⟩ := hw
  refine va_put (D := (dC, dI)) (ci := 0) (v := .int r_1) (C := RX0) (T := TX0) (N := 16) hx hb hts hinX0 tyX0 tyX0_ok nmX0 hown hK hP hD hS a0 (at_0 ha0) rfl 0 (by decide) (hts (.fieldLink RX7 147 "BondCalendars$Bond" "rate" "I") (by decide +kernel)) (fun _ h9 => h9) rfl (ty := .int) (by decide +kernel) rfl rfl (Nat.le_of_ble_eq_true rfl) dX7_readRate_9 (fun H locs hP hD hS => ?_)
  obtain ⟨σ2, eσ2, hP, hD⟩ := gPut (se_0_0 ha0) hP hD
  have hIσ2 : InvX σ2 := by rw [eσ2]; exact inv_I hIσ1 (ok_0_0 ha0 _)
  have frσ2 : gFr [0, 6, 9] σ σ2 := by rw [eσ2]; exact gFr.pI (gFr.tr (gFr.rfl (L := [0, 6, 9]) (σ := σ)) fcσ1 (by decide)) ha0 (by decide)
  refine lv_aload_n hx hb dX7_readRate_12 rfl (lv_at hl 1 rfl) ?_
  refine va_get (D := (dC, dI)) (ci := 0) (v := .int r_1) (C := RX0) (T := TX0) (N := 16) hx hb hts hinX0 hown hK hP a0 (at_0 ha0) rfl 0 (by decide) (hts (.fieldLink RX7 147 "BondCalendars$Bond" "rate" "I") (by decide +kernel)) (fun _ h9 => h9) (congrArg (fun z => some (Value.int z)) (show (σ2 a0).1 0 = r_1 from by rw [eσ2, gI_self])) dX7_readRate_13 ?_
  refine lv_iconst (v := (-1)) hx hb dX7_readRate_16 (by decide) ?_
  refine lv_icmp_eq (tgt := 29) hx hb dX7_readRate_17 (by decide) (fun c_4 => ?_) (fun c_4 => ?_)
  · refine lv_iconst (v := 0) hx hb dX7_readRate_29 (by decide) ?_
    refine W.endD hd0 ?_
    exact W.zret (v := 0) hx hb hr (by decide) (fun t ht hW => ⟨⟨0, σ2, rfl, ⟨hIσ2, frσ2, Or.inl rfl⟩, ⟨by rw [ht]; exact hP, hD⟩⟩, hS.F ht⟩) hS.2.2 dX7_readRate_30
  · refine lv_aload_n hx hb dX7_readRate_20 rfl (lv_at hl 0 rfl) ?_
    refine va_ldcS (tx := "per") (q := (adK 24)) hx hb hown (vk_R.same rfl hT.2.1.2.2.2.2.2.2.2.2.2.2.2.2.2.2.2.2.2.2.2.2.2.2.2.2.1) dX7_readRate_21 ?_
    have hF := gFree hD hS hA
    refine va_calliD hd0 (va_runV_D (As := [.ref (adK 24)]) (rest := []) ⟨hx, hb, hml, hown, hts⟩ (n_X7_takeWord l dC dI ad cA adK adV H.size σ2 hIσ2 24 (by decide)) (cwV 1 hts gX7_readRate_X7_takeWord rfl rfl rfl (by decide +kernel) ⟨Nat.le_of_ble_eq_true rfl, Nat.le_of_ble_eq_true rfl⟩) ⟨gBlind, va_recv hK hP (ci := 6) (q0 := 1) rfl (at_6 rfl), gStart (As := [.ref (ad 1), .ref (adK 24)]) hP hD hK0 hT hS hF (d_2)⟩ rfl rfl hl.1 rfl (lv_room (Nat.le_of_ble_eq_true rfl)) dX7_readRate_23 ⟨Nat.le_of_ble_eq_true rfl, Nat.le_of_ble_eq_true rfl⟩) hS (fun q _ h => hF q h) hF (fun r_5 σ3 t H locs ht hvm hw hB hz1 hk1 hS d_6 hd0 => ?_)
    have hts := dr_words hts0 (d_6)
    have hK := gKd hK0 (d_6)
    have hown : (s.setDrawn (d_6)).vm.findClass RX7 = some m.cls := hown0
    obtain ⟨hP, hD⟩ := gBack hF ht hB
    obtain ⟨hIσ3, fcσ3, hp_7⟩ := hw
    refine lv_if_ne (tgt := 31) hx hb dX7_readRate_26 (by decide) (fun c_8 => ?_) (fun c_8 => ?_)
    · refine lv_aload_n hx hb dX7_readRate_31 rfl (lv_at hl 1 rfl) ?_
      refine lv_aload_n hx hb dX7_readRate_32 rfl (lv_at hl 0 rfl) ?_
      refine lv_iconst (v := 1) hx hb dX7_readRate_33 (by decide) ?_
      refine lv_iconst (v := 4) hx hb dX7_readRate_34 (by decide) ?_
      have hF := gFree hD hS hA
      refine va_calliD hd0 (va_runV_D (As := [.int 1, .int 4]) (rest := [.ref (ad a0)]) ⟨hx, hb, hml, hown, hts⟩ (n_X7_takeWhole l dC dI ad cA adK adV H.size σ3 hIσ3 1 4) (cwV 2 hts gX7_readRate_X7_takeWhole rfl rfl rfl (by decide +kernel) ⟨Nat.le_of_ble_eq_true rfl, Nat.le_of_ble_eq_true rfl⟩) ⟨gBlind, va_recv hK hP (ci := 6) (q0 := 1) rfl (at_6 rfl), gStart (As := [.ref (ad 1), .int 1, .int 4]) hP hD hK0 hT hS hF (d_6)⟩ rfl rfl hl.1 rfl (lv_room (Nat.le_of_ble_eq_true rfl)) dX7_readRate_35 ⟨Nat.le_of_ble_eq_true rfl, Nat.le_of_ble_eq_true rfl⟩) hS (fun q _ h => hF q h) hF (fun r_9 σ4 t H locs ht hvm hw hB hz1 hk1 hS d_10 hd0 => ?_)
      have hts := dr_words hts0 (d_10)
      have hK := gKd hK0 (d_10)
      have hown : (s.setDrawn (d_10)).vm.findClass RX7 = some m.cls := hown0
      obtain ⟨hP, hD⟩ := gBack hF ht hB
      obtain ⟨hIσ4, fcσ4, hp_11⟩ := hw
      refine va_put (D := (dC, dI)) (ci := 0) (v := .int r_9) (C := RX0) (T := TX0) (N := 16) hx hb hts hinX0 tyX0 tyX0_ok nmX0 hown hK hP hD hS a0 (at_0 ha0) rfl 1 (by decide) (hts (.fieldLink RX7 154 "BondCalendars$Bond" "frequency" "I") (by decide +kernel)) (fun _ h9 => h9) rfl (ty := .int) (by decide +kernel) rfl rfl (Nat.le_of_ble_eq_true rfl) dX7_readRate_38 (fun H locs hP hD hS => ?_)
      obtain ⟨σ5, eσ5, hP, hD⟩ := gPut (se_0_1 ha0) hP hD
      have hIσ5 : InvX σ5 := by rw [eσ5]; exact inv_I hIσ4 (ok_0_1 ha0 _)
      have frσ5 : gFr [0, 6, 9] σ σ5 := by rw [eσ5]; exact gFr.pI (gFr.tr (gFr.tr frσ2 fcσ3 (by decide)) fcσ4 (by decide)) ha0 (by decide)
      refine lv_aload_n hx hb dX7_readRate_41 rfl (lv_at hl 1 rfl) ?_
      refine va_get (D := (dC, dI)) (ci := 0) (v := .int r_9) (C := RX0) (T := TX0) (N := 16) hx hb hts hinX0 hown hK hP a0 (at_0 ha0) rfl 1 (by decide) (hts (.fieldLink RX7 154 "BondCalendars$Bond" "frequency" "I") (by decide +kernel)) (fun _ h9 => h9) (congrArg (fun z => some (Value.int z)) (show (σ5 a0).1 1 = r_9 from by rw [eσ5, gI_self])) dX7_readRate_42 ?_
      refine lv_iconst (v := (-1)) hx hb dX7_readRate_45 (by decide) ?_
      refine lv_icmp_ne (tgt := 51) hx hb dX7_readRate_46 (by decide) (fun c_12 => ?_) (fun c_12 => ?_)
      · refine lv_aload_n hx hb dX7_readRate_51 rfl (lv_at hl 1 rfl) ?_
        refine va_get (D := (dC, dI)) (ci := 0) (v := .int r_9) (C := RX0) (T := TX0) (N := 16) hx hb hts hinX0 hown hK hP a0 (at_0 ha0) rfl 1 (by decide) (hts (.fieldLink RX7 154 "BondCalendars$Bond" "frequency" "I") (by decide +kernel)) (fun _ h9 => h9) (congrArg (fun z => some (Value.int z)) (show (σ5 a0).1 1 = r_9 from by rw [eσ5, gI_self])) dX7_readRate_52 ?_
        refine lv_iconst (v := 3) hx hb dX7_readRate_55 (by decide) ?_
        refine lv_icmp_ne (tgt := 69) hx hb dX7_readRate_56 (by decide) (fun c_13 => ?_) (fun c_13 => ?_)
        · refine lv_aload_n hx hb dX7_readRate_69 rfl (lv_at hl 1 rfl) ?_
          refine lv_aload_n hx hb dX7_readRate_70 rfl (lv_at hl 0 rfl) ?_
          have hF := gFree hD hS hA
          refine va_calliD hd0 (va_runV_D (As := []) (rest := [.ref (ad a0)]) ⟨hx, hb, hml, hown, hts⟩ (n_X7_takeRule l dC dI ad cA adK adV H.size σ5 hIσ5 ) (cwV 0 hts gX7_readRate_X7_takeRule rfl rfl rfl (by decide +kernel) ⟨Nat.le_of_ble_eq_true rfl, Nat.le_of_ble_eq_true rfl⟩) ⟨gBlind, va_recv hK hP (ci := 6) (q0 := 1) rfl (at_6 rfl), gStart (As := [.ref (ad 1)]) hP hD hK0 hT hS hF (d_10)⟩ rfl rfl hl.1 rfl (lv_room (Nat.le_of_ble_eq_true rfl)) dX7_readRate_71 ⟨Nat.le_of_ble_eq_true rfl, Nat.le_of_ble_eq_true rfl⟩) hS (fun q _ h => hF q h) hF (fun r_14 σ6 t H locs ht hvm hw hB hz1 hk1 hS d_15 hd0 => ?_)
          have hts := dr_words hts0 (d_15)
          have hK := gKd hK0 (d_15)
          have hown : (s.setDrawn (d_15)).vm.findClass RX7 = some m.cls := hown0
          obtain ⟨hP, hD⟩ := gBack hF ht hB
          obtain ⟨hIσ6, fcσ6, hp_16⟩ := hw
          refine va_put (D := (dC, dI)) (ci := 0) (v := .int r_14) (C := RX0) (T := TX0) (N := 16) hx hb hts hinX0 tyX0 tyX0_ok nmX0 hown hK hP hD hS a0 (at_0 ha0) rfl 2 (by decide) (hts (.fieldLink RX7 160 "BondCalendars$Bond" "rule" "I") (by decide +kernel)) (fun _ h9 => h9) rfl (ty := .int) (by decide +kernel) rfl rfl (Nat.le_of_ble_eq_true rfl) dX7_readRate_74 (fun H locs hP hD hS => ?_)
          obtain ⟨σ7, eσ7, hP, hD⟩ := gPut (se_0_2 ha0) hP hD
          have hIσ7 : InvX σ7 := by rw [eσ7]; exact inv_I hIσ6 (ok_0_2 ha0 _)
          have frσ7 : gFr [0, 6, 9] σ σ7 := by rw [eσ7]; exact gFr.pI (gFr.tr frσ5 fcσ6 (by decide)) ha0 (by decide)
          refine lv_aload_n hx hb dX7_readRate_77 rfl (lv_at hl 1 rfl) ?_
          refine va_get (D := (dC, dI)) (ci := 0) (v := .int r_14) (C := RX0) (T := TX0) (N := 16) hx hb hts hinX0 hown hK hP a0 (at_0 ha0) rfl 2 (by decide) (hts (.fieldLink RX7 160 "BondCalendars$Bond" "rule" "I") (by decide +kernel)) (fun _ h9 => h9) (congrArg (fun z => some (Value.int z)) (show (σ7 a0).1 2 = r_14 from by rw [eσ7, gI_self])) dX7_readRate_78 ?_
          refine lv_iconst (v := (-1)) hx hb dX7_readRate_81 (by decide) ?_
          refine lv_icmp_ne (tgt := 87) hx hb dX7_readRate_82 (by decide) (fun c_17 => ?_) (fun c_17 => ?_)
          · refine lv_aload_n hx hb dX7_readRate_87 rfl (lv_at hl 1 rfl) ?_
            refine lv_aload_n hx hb dX7_readRate_88 rfl (lv_at hl 0 rfl) ?_
            refine va_get (D := (dC, dI)) (ci := 6) (v := .ref (ad 2)) (C := RX7) (T := TX7) (N := 5) hx hb hts hinX7 hown hK hP 1 (at_6 rfl) rfl 0 (by decide) (hts (.fieldLink RX7 12 "BondCalendars$Reader" "tape" "LBondCalendars$Tape;") (by decide +kernel)) (fun _ h9 => h9) rfl dX7_readRate_89 ?_
            refine va_ldcS (tx := "eom") (q := (adK 25)) hx hb hown (vk_R.same rfl hT.2.1.2.2.2.2.2.2.2.2.2.2.2.2.2.2.2.2.2.2.2.2.2.2.2.2.2.1) dX7_readRate_92 ?_
            have hF := gFree hD hS hA
            refine va_calliD hd0 (va_runV_D (As := [.ref (adK 25)]) (rest := [.ref (ad a0)]) ⟨hx, hb, hml, hown, hts⟩ (n_X10_isWord l dC dI ad cA adK adV H.size σ7 hIσ7 25 (by decide)) (cwV 1 hts gX7_readRate_X10_isWord rfl rfl rfl (by decide +kernel) ⟨Nat.le_of_ble_eq_true rfl, Nat.le_of_ble_eq_true rfl⟩) ⟨gBlind, va_recv hK hP (ci := 9) (q0 := 2) rfl (at_9 rfl), gStart (As := [.ref (ad 2), .ref (adK 25)]) hP hD hK0 hT hS hF (d_15)⟩ rfl rfl hl.1 rfl (lv_room (Nat.le_of_ble_eq_true rfl)) dX7_readRate_94 ⟨Nat.le_of_ble_eq_true rfl, Nat.le_of_ble_eq_true rfl⟩) hS (fun q _ h => hF q h) hF (fun r_18 σ8 t H locs ht hvm hw hB hz1 hk1 hS d_19 hd0 => ?_)
            have hts := dr_words hts0 (d_19)
            have hK := gKd hK0 (d_19)
            have hown : (s.setDrawn (d_19)).vm.findClass RX7 = some m.cls := hown0
            obtain ⟨hP, hD⟩ := gBack hF ht hB
            obtain ⟨hIσ8, hro, hp_20⟩ := hw
            subst hro
            refine va_put (D := (dC, dI)) (ci := 0) (v := .int r_18) (C := RX0) (T := TX0) (N := 16) hx hb hts hinX0 tyX0 tyX0_ok nmX0 hown hK hP hD hS a0 (at_0 ha0) rfl 3 (by decide) (hts (.fieldLink RX7 165 "BondCalendars$Bond" "monthEnds" "Z") (by decide +kernel)) (fun _ h9 => h9) rfl (ty := .boolean) (by decide +kernel) (by rcases hp_20 with h9 | h9 <;> rw [h9] <;> decide +kernel) (by rcases hp_20 with h9 | h9 <;> rw [h9] <;> decide +kernel) (Nat.le_of_ble_eq_true rfl) dX7_readRate_97 (fun H locs hP hD hS => ?_)
            obtain ⟨σ9, eσ9, hP, hD⟩ := gPut (se_0_3 ha0) hP hD
            have hIσ9 : InvX σ9 := by rw [eσ9]; exact inv_I hIσ7 (ok_0_3 ha0 _)
            have frσ9 : gFr [0, 6, 9] σ σ9 := by rw [eσ9]; exact gFr.pI frσ7 ha0 (by decide)
            refine lv_aload_n hx hb dX7_readRate_100 rfl (lv_at hl 1 rfl) ?_
            refine va_get (D := (dC, dI)) (ci := 0) (v := .int r_18) (C := RX0) (T := TX0) (N := 16) hx hb hts hinX0 hown hK hP a0 (at_0 ha0) rfl 3 (by decide) (hts (.fieldLink RX7 165 "BondCalendars$Bond" "monthEnds" "Z") (by decide +kernel)) (fun _ h9 => h9) (congrArg (fun z => some (Value.int z)) (show (σ9 a0).1 3 = r_18 from by rw [eσ9, gI_self])) dX7_readRate_101 ?_
            refine lv_if_eq (tgt := 114) hx hb dX7_readRate_104 (by decide) (fun c_21 => ?_) (fun c_21 => ?_)
            · refine lv_iconst (v := 1) hx hb dX7_readRate_114 (by decide) ?_
              refine W.endD hd0 ?_
              exact W.zret (v := 1) hx hb hr (by decide) (fun t ht hW => ⟨⟨1, σ9, rfl, ⟨hIσ9, frσ9, Or.inr rfl⟩, ⟨by rw [ht]; exact hP, hD⟩⟩, hS.F ht⟩) hS.2.2 dX7_readRate_115
            · refine lv_aload_n hx hb dX7_readRate_107 rfl (lv_at hl 0 rfl) ?_
              refine va_get (D := (dC, dI)) (ci := 6) (v := .ref (ad 2)) (C := RX7) (T := TX7) (N := 5) hx hb hts hinX7 hown hK hP 1 (at_6 rfl) rfl 0 (by decide) (hts (.fieldLink RX7 12 "BondCalendars$Reader" "tape" "LBondCalendars$Tape;") (by decide +kernel)) (fun _ h9 => h9) rfl dX7_readRate_108 ?_
              have hF := gFree hD hS hA
              refine va_callvD hd0 (va_runV_D (As := []) (rest := []) ⟨hx, hb, hml, hown, hts⟩ (n_X10_advance l dC dI ad cA adK adV H.size σ9 hIσ9 ) (cwV 0 hts gX7_readRate_X10_advance rfl rfl rfl (by decide +kernel) ⟨Nat.le_of_ble_eq_true rfl, Nat.le_of_ble_eq_true rfl⟩) ⟨gBlind, va_recv hK hP (ci := 9) (q0 := 2) rfl (at_9 rfl), gStart (As := [.ref (ad 2)]) hP hD hK0 hT hS hF (d_19)⟩ rfl rfl hl.1 rfl (lv_room (Nat.le_of_ble_eq_true rfl)) dX7_readRate_111 ⟨Nat.le_of_ble_eq_true rfl, Nat.le_of_ble_eq_true rfl⟩) hS (fun q _ h => hF q h) hF (fun σ10 t H locs ht hvm hw hB hz1 hk1 hS d_23 hd0 => ?_)
              have hts := dr_words hts0 (d_23)
              have hK := gKd hK0 (d_23)
              have hown : (s.setDrawn (d_23)).vm.findClass RX7 = some m.cls := hown0
              obtain ⟨hP, hD⟩ := gBack hF ht hB
              obtain ⟨hIσ10, fcσ10, hp_24⟩ := hw
              refine lv_iconst (v := 1) hx hb dX7_readRate_114 (by decide) ?_
              refine W.endD hd0 ?_
              exact W.zret (v := 1) hx hb hr (by decide) (fun t ht hW => ⟨⟨1, σ10, rfl, ⟨hIσ10, (gFr.tr frσ9 fcσ10 (by decide)), Or.inr rfl⟩, ⟨by rw [ht]; exact hP, hD⟩⟩, hS.F ht⟩) hS.2.2 dX7_readRate_115
          · refine lv_iconst (v := 0) hx hb dX7_readRate_85 (by decide) ?_
            refine W.endD hd0 ?_
            exact W.zret (v := 0) hx hb hr (by decide) (fun t ht hW => ⟨⟨0, σ7, rfl, ⟨hIσ7, frσ7, Or.inl rfl⟩, ⟨by rw [ht]; exact hP, hD⟩⟩, hS.F ht⟩) hS.2.2 dX7_readRate_86
        · refine lv_aload_n hx hb dX7_readRate_59 rfl (lv_at hl 0 rfl) ?_
          refine lv_iconst (v := 2) hx hb dX7_readRate_60 (by decide) ?_
          refine lv_aload_n hx hb dX7_readRate_61 rfl (lv_at hl 0 rfl) ?_
          refine va_get (D := (dC, dI)) (ci := 6) (v := .int ((σ4 1).1 4)) (C := RX7) (T := TX7) (N := 5) hx hb hts hinX7 hown hK hP 1 (at_6 rfl) rfl 4 (by decide) (hts (.fieldLink RX7 29 "BondCalendars$Reader" "wholeAt" "I") (by decide +kernel)) (fun _ h9 => h9) (congrArg (fun z => some (Value.int z)) (show (σ5 1).1 4 = ((σ4 1).1 4) from by rw [eσ5, gI_ne _ _ _ (kne rfl ha0 (by decide))])) dX7_readRate_62 ?_
          have hF := gFree hD hS hA
          refine va_calliD hd0 (va_runV_D (As := [.int 2, .int ((σ4 1).1 4)]) (rest := []) ⟨hx, hb, hml, hown, hts⟩ (n_X7_fail l dC dI ad cA adK adV H.size σ5 hIσ5 2 ((σ4 1).1 4)) (cwV 2 hts gX7_readRate_X7_fail rfl rfl rfl (by decide +kernel) ⟨Nat.le_of_ble_eq_true rfl, Nat.le_of_ble_eq_true rfl⟩) ⟨gBlind, va_recv hK hP (ci := 6) (q0 := 1) rfl (at_6 rfl), gStart (As := [.ref (ad 1), .int 2, .int ((σ4 1).1 4)]) hP hD hK0 hT hS hF (d_10)⟩ rfl rfl hl.1 rfl (lv_room (Nat.le_of_ble_eq_true rfl)) dX7_readRate_65 ⟨Nat.le_of_ble_eq_true rfl, Nat.le_of_ble_eq_true rfl⟩) hS (fun q _ h => hF q h) hF (fun r_25 σ11 t H locs ht hvm hw hB hz1 hk1 hS d_26 hd0 => ?_)
          have hts := dr_words hts0 (d_26)
          have hK := gKd hK0 (d_26)
          have hown : (s.setDrawn (d_26)).vm.findClass RX7 = some m.cls := hown0
          obtain ⟨hP, hD⟩ := gBack hF ht hB
          obtain ⟨hIσ11, fcσ11, hp_27⟩ := hw
          refine W.endD hd0 ?_
          exact W.zret (v := r_25) hx hb hr (by rcases hp_27 with h9 | h9 <;> rw [h9] <;> decide +kernel) (fun t ht hW => ⟨⟨r_25, σ11, rfl, ⟨hIσ11, (gFr.tr frσ5 fcσ11 (by decide)), hp_27⟩, ⟨by rw [ht]; exact hP, hD⟩⟩, hS.F ht⟩) hS.2.2 dX7_readRate_68
      · refine lv_iconst (v := 0) hx hb dX7_readRate_49 (by decide) ?_
        refine W.endD hd0 ?_
        exact W.zret (v := 0) hx hb hr (by decide) (fun t ht hW => ⟨⟨0, σ5, rfl, ⟨hIσ5, frσ5, Or.inl rfl⟩, ⟨by rw [ht]; exact hP, hD⟩⟩, hS.F ht⟩) hS.2.2 dX7_readRate_50
    · refine lv_iconst (v := 0) hx hb dX7_readRate_29 (by decide) ?_
      refine W.endD hd0 ?_
      exact W.zret (v := 0) hx hb hr (by decide) (fun t ht hW => ⟨⟨0, σ3, rfl, ⟨hIσ3, (gFr.tr frσ2 fcσ3 (by decide)), Or.inl rfl⟩, ⟨by rw [ht]; exact hP, hD⟩⟩, hS.F ht⟩) hS.2.2 dX7_readRate_30
set_option maxHeartbeats 8000000 in
set_option maxRecDepth 100000 in
theorem n_X7_readMature (l : Launch) (dC : Nat → ClassId) (dI : Nat → Nat → Nat) (ad : Nat → Nat) (cA : Nat → ClassId) (adK adV : Nat → Nat) (sz : Nat) (σ : gs) (hI : InvX σ) (a0 : Nat) (ha0 : kX a0 = 0) : MetD lw_cs l yX7_readMature wsX7_readMature ({ frames := 6, cells := 0, slots := 0, locals := 128 }) (va_Pc [.ref (ad 1), .ref (ad a0)] (gPre adK adV (dC, dI) (wX ad cA σ) (tX cA) sz)) (va_Qi (fun (r : Int32) (τ : gs) => InvX τ ∧ gFr [0, 6, 9] σ τ ∧ (r = 0 ∨ r = 1)) (fun τ t => gPost (dC, dI) (va_A (wX ad cA σ) sz) (wX ad cA τ) t) (va_A (wX ad cA σ) sz)) 0 0 (va_A (wX ad cA σ) sz) := by
  refine MetD.ofW (cc := cX7_readMature) (maxL := 5) (ret := (some .boolean)) (by decide) rfl ?_
  intro p e s m args below meth c s₁ B hml hv hd0
  obtain ⟨rfl, hsz, hP, hK, hD0, hT⟩ := hv
  have hx := B.exec
  have hb := B.bytes
  have hr := B.returns
  have hts0 := atoms_spec (ws := wsX7_readMature) B.pre
  have hK0 := hK
  have hown0 : s.vm.findClass RX7 = some m.cls := findClass_of_methodNamed B.named
  have hlocks := B.notSynchronized
  have hinX0 : ∀ w ∈ u_ws RX0 TX0 16, w ∈ wsX7_readMature := (fun _ h9 => List.mem_cons_of_mem _ (List.mem_append_left _ (List.mem_append_left _ (List.mem_append_right _ h9))))
  have hinX7 : ∀ w ∈ u_ws RX7 TX7 5, w ∈ wsX7_readMature := (fun _ h9 => List.mem_cons_of_mem _ (List.mem_append_left _ (List.mem_append_right _ h9)))
  subst hsz
  have hD := hD0.self (sz := s.heap.size)
  generalize hAe : va_A (wX ad cA σ) s.heap.size = A at hD hT ⊢
  have hA : ∀ q : Nat, s.heap.size ≤ q → A q := fun q h => by rw [← hAe]; exact Or.inr h
  have hS : va_S A s.heap s.heap [] := va_S.rf
  have hl := lv_entry ([.ref (ad 1), .ref (ad a0)]) (n := 5) (Nat.le_of_ble_eq_true rfl)
  rw [lg_entry_eq]
  generalize (lg_sl ([.ref (ad 1), .ref (ad a0)]) ++ List.replicate (5 - (lg_sl ([.ref (ad 1), .ref (ad a0)])).length) Slot.unset).toArray = ls at hl ⊢
  have hl : lv_has ls 5 [(0, .ref (ad 1)), (1, .ref (ad a0))] := hl
  have hts := dr_words hts0 (s.drawn)
  have hK := gKd hK0 (s.drawn)
  have hown : (s.setDrawn (s.drawn)).vm.findClass RX7 = some m.cls := hown0
  refine lv_aload_n hx hb dX7_readMature_0 rfl (lv_at hl 0 rfl) ?_
  refine va_ldcS (tx := "mature") (q := (adK 31)) hx hb hown (vk_R.same rfl hT.2.1.2.2.2.2.2.2.2.2.2.2.2.2.2.2.2.2.2.2.2.2.2.2.2.2.2.2.2.2.2.2.2.1) dX7_readMature_1 ?_
  have hF := gFree hD hS hA
  refine va_calliD hd0 (va_runV_D (As := [.ref (adK 31)]) (rest := []) ⟨hx, hb, hml, hown, hts⟩ (n_X7_takeWord l dC dI ad cA adK adV s.heap.size σ hI 31 (by decide)) (cwV 1 hts gX7_readMature_X7_takeWord rfl rfl rfl (by decide +kernel) ⟨Nat.le_of_ble_eq_true rfl, Nat.le_of_ble_eq_true rfl⟩) ⟨gBlind, va_recv hK hP (ci := 6) (q0 := 1) rfl (at_6 rfl), gStart (As := [.ref (ad 1), .ref (adK 31)]) hP hD hK0 hT hS hF (s.drawn)⟩ rfl rfl hl.1 rfl (lv_room (Nat.le_of_ble_eq_true rfl)) dX7_readMature_3 ⟨Nat.le_of_ble_eq_true rfl, Nat.le_of_ble_eq_true rfl⟩) hS (fun q _ h => hF q h) hF (fun r_1 σ1 t H locs ht hvm hw hB hz1 hk1 hS d_2 hd0 => ?_)
  have hts := dr_words hts0 (d_2)
  have hK := gKd hK0 (d_2)
  have hown : (s.setDrawn (d_2)).vm.findClass RX7 = some m.cls := hown0
  obtain ⟨hP, hD⟩ := gBack hF ht hB
  obtain ⟨hIσ1, fcσ1, hp_3⟩ := hw
  refine lv_if_ne (tgt := 11) hx hb dX7_readMature_6 (by decide) (fun c_4 => ?_) (fun c_4 => ?_)
  · refine lv_aload_n hx hb dX7_readMature_11 rfl (lv_at hl 1 rfl) ?_
    refine lv_aload_n hx hb dX7_readMature_12 rfl (lv_at hl 0 rfl) ?_
    have hF := gFree hD hS hA
    refine va_calliD hd0 (va_runV_D (As := []) (rest := [.ref (ad a0)]) ⟨hx, hb, hml, hown, hts⟩ (n_X7_takeDate l dC dI ad cA adK adV H.size σ1 hIσ1 ) (cwV 0 hts gX7_readMature_X7_takeDate rfl rfl rfl (by decide +kernel) ⟨Nat.le_of_ble_eq_true rfl, Nat.le_of_ble_eq_true rfl⟩) ⟨gBlind, va_recv hK hP (ci := 6) (q0 := 1) rfl (at_6 rfl), gStart (As := [.ref (ad 1)]) hP hD hK0 hT hS hF (d_2)⟩ rfl rfl hl.1 rfl (lv_room (Nat.le_of_ble_eq_true rfl)) dX7_readMature_13 ⟨Nat.le_of_ble_eq_true rfl, Nat.le_of_ble_eq_true rfl⟩) hS (fun q _ h => hF q h) hF (fun r_5 σ2 t H locs ht hvm hw hB hz1 hk1 hS d_6 hd0 => ?_)
    have hts := dr_words hts0 (d_6)
    have hK := gKd hK0 (d_6)
    have hown : (s.setDrawn (d_6)).vm.findClass RX7 = some m.cls := hown0
    obtain ⟨hP, hD⟩ := gBack hF ht hB
    obtain ⟨hIσ2, fcσ2, hp_7⟩ := hw
    refine va_put (D := (dC, dI)) (ci := 0) (v := .int r_5) (C := RX0) (T := TX0) (N := 16) hx hb hts hinX0 tyX0 tyX0_ok nmX0 hown hK hP hD hS a0 (at_0 ha0) rfl 4 (by decide) (hts (.fieldLink RX7 180 "BondCalendars$Bond" "matureDay" "I") (by decide +kernel)) (fun _ h9 => h9) rfl (ty := .int) (by decide +kernel) rfl rfl (Nat.le_of_ble_eq_true rfl) dX7_readMature_16 (fun H locs hP hD hS => ?_)
    obtain ⟨σ3, eσ3, hP, hD⟩ := gPut (se_0_4 ha0) hP hD
    have hIσ3 : InvX σ3 := by rw [eσ3]; exact inv_I hIσ2 (ok_0_4 ha0 _)
    have frσ3 : gFr [0, 6, 9] σ σ3 := by rw [eσ3]; exact gFr.pI (gFr.tr (gFr.tr (gFr.rfl (L := [0, 6, 9]) (σ := σ)) fcσ1 (by decide)) fcσ2 (by decide)) ha0 (by decide)
    refine lv_aload_n hx hb dX7_readMature_19 rfl (lv_at hl 1 rfl) ?_
    refine lv_aload_n hx hb dX7_readMature_20 rfl (lv_at hl 1 rfl) ?_
    refine va_get (D := (dC, dI)) (ci := 0) (v := .int r_5) (C := RX0) (T := TX0) (N := 16) hx hb hts hinX0 hown hK hP a0 (at_0 ha0) rfl 4 (by decide) (hts (.fieldLink RX7 180 "BondCalendars$Bond" "matureDay" "I") (by decide +kernel)) (fun _ h9 => h9) (congrArg (fun z => some (Value.int z)) (show (σ3 a0).1 4 = r_5 from by rw [eσ3, gI_self])) dX7_readMature_21 ?_
    refine va_put (D := (dC, dI)) (ci := 0) (v := .int r_5) (C := RX0) (T := TX0) (N := 16) hx hb hts hinX0 tyX0 tyX0_ok nmX0 hown hK hP hD hS a0 (at_0 ha0) rfl 5 (by decide) (hts (.fieldLink RX7 183 "BondCalendars$Bond" "anchorDay" "I") (by decide +kernel)) (fun _ h9 => h9) rfl (ty := .int) (by decide +kernel) rfl rfl (Nat.le_of_ble_eq_true rfl) dX7_readMature_24 (fun H locs hP hD hS => ?_)
    obtain ⟨σ4, eσ4, hP, hD⟩ := gPut (se_0_5 ha0) hP hD
    have hIσ4 : InvX σ4 := by rw [eσ4]; exact inv_I hIσ3 (ok_0_5 ha0 _)
    have frσ4 : gFr [0, 6, 9] σ σ4 := by rw [eσ4]; exact gFr.pI frσ3 ha0 (by decide)
    refine lv_aload_n hx hb dX7_readMature_27 rfl (lv_at hl 1 rfl) ?_
    refine va_get (D := (dC, dI)) (ci := 0) (v := .int r_5) (C := RX0) (T := TX0) (N := 16) hx hb hts hinX0 hown hK hP a0 (at_0 ha0) rfl 4 (by decide) (hts (.fieldLink RX7 180 "BondCalendars$Bond" "matureDay" "I") (by decide +kernel)) (fun _ h9 => h9) (congrArg (fun z => some (Value.int z)) (show (σ4 a0).1 4 = r_5 from by rw [eσ4, gI_oth _ _ _ (by decide), eσ3, gI_self])) dX7_readMature_28 ?_
    refine lv_iconst (v := (-1)) hx hb dX7_readMature_31 (by decide) ?_
    refine lv_icmp_ne (tgt := 37) hx hb dX7_readMature_32 (by decide) (fun c_8 => ?_) (fun c_8 => ?_)
    · refine lv_aload_n hx hb dX7_readMature_37 rfl (lv_at hl 0 rfl) ?_
      refine va_get (D := (dC, dI)) (ci := 6) (v := .ref (ad 2)) (C := RX7) (T := TX7) (N := 5) hx hb hts hinX7 hown hK hP 1 (at_6 rfl) rfl 0 (by decide) (hts (.fieldLink RX7 12 "BondCalendars$Reader" "tape" "LBondCalendars$Tape;") (by decide +kernel)) (fun _ h9 => h9) rfl dX7_readMature_38 ?_
      refine va_ldcS (tx := "last") (q := (adK 32)) hx hb hown (vk_R.same rfl hT.2.1.2.2.2.2.2.2.2.2.2.2.2.2.2.2.2.2.2.2.2.2.2.2.2.2.2.2.2.2.2.2.2.2.1) dX7_readMature_41 ?_
      have hF := gFree hD hS hA
      refine va_calliD hd0 (va_runV_D (As := [.ref (adK 32)]) (rest := []) ⟨hx, hb, hml, hown, hts⟩ (n_X10_isWord l dC dI ad cA adK adV H.size σ4 hIσ4 32 (by decide)) (cwV 1 hts gX7_readMature_X10_isWord rfl rfl rfl (by decide +kernel) ⟨Nat.le_of_ble_eq_true rfl, Nat.le_of_ble_eq_true rfl⟩) ⟨gBlind, va_recv hK hP (ci := 9) (q0 := 2) rfl (at_9 rfl), gStart (As := [.ref (ad 2), .ref (adK 32)]) hP hD hK0 hT hS hF (d_6)⟩ rfl rfl hl.1 rfl (lv_room (Nat.le_of_ble_eq_true rfl)) dX7_readMature_43 ⟨Nat.le_of_ble_eq_true rfl, Nat.le_of_ble_eq_true rfl⟩) hS (fun q _ h => hF q h) hF (fun r_9 σ5 t H locs ht hvm hw hB hz1 hk1 hS d_10 hd0 => ?_)
      have hts := dr_words hts0 (d_10)
      have hK := gKd hK0 (d_10)
      have hown : (s.setDrawn (d_10)).vm.findClass RX7 = some m.cls := hown0
      obtain ⟨hP, hD⟩ := gBack hF ht hB
      obtain ⟨hIσ5, hro, hp_11⟩ := hw
      subst hro
      refine lv_if_ne (tgt := 51) hx hb dX7_readMature_46 (by decide) (fun c_12 => ?_) (fun c_12 => ?_)
      · refine lv_aload_n hx hb dX7_readMature_51 rfl (lv_at hl 0 rfl) ?_
        refine va_get (D := (dC, dI)) (ci := 6) (v := .ref (ad 2)) (C := RX7) (T := TX7) (N := 5) hx hb hts hinX7 hown hK hP 1 (at_6 rfl) rfl 0 (by decide) (hts (.fieldLink RX7 12 "BondCalendars$Reader" "tape" "LBondCalendars$Tape;") (by decide +kernel)) (fun _ h9 => h9) rfl dX7_readMature_52 ?_
        have hF := gFree hD hS hA
        refine va_callvD hd0 (va_runV_D (As := []) (rest := []) ⟨hx, hb, hml, hown, hts⟩ (n_X10_advance l dC dI ad cA adK adV H.size σ4 hIσ4 ) (cwV 0 hts gX7_readMature_X10_advance rfl rfl rfl (by decide +kernel) ⟨Nat.le_of_ble_eq_true rfl, Nat.le_of_ble_eq_true rfl⟩) ⟨gBlind, va_recv hK hP (ci := 9) (q0 := 2) rfl (at_9 rfl), gStart (As := [.ref (ad 2)]) hP hD hK0 hT hS hF (d_10)⟩ rfl rfl hl.1 rfl (lv_room (Nat.le_of_ble_eq_true rfl)) dX7_readMature_55 ⟨Nat.le_of_ble_eq_true rfl, Nat.le_of_ble_eq_true rfl⟩) hS (fun q _ h => hF q h) hF (fun σ6 t H locs ht hvm hw hB hz1 hk1 hS d_14 hd0 => ?_)
        have hts := dr_words hts0 (d_14)
        have hK := gKd hK0 (d_14)
        have hown : (s.setDrawn (d_14)).vm.findClass RX7 = some m.cls := hown0
        obtain ⟨hP, hD⟩ := gBack hF ht hB
        obtain ⟨hIσ6, fcσ6, hp_15⟩ := hw
        refine lv_aload_n hx hb dX7_readMature_58 rfl (lv_at hl 1 rfl) ?_
        refine lv_aload_n hx hb dX7_readMature_59 rfl (lv_at hl 0 rfl) ?_
        have hF := gFree hD hS hA
        refine va_calliD hd0 (va_runV_D (As := []) (rest := [.ref (ad a0)]) ⟨hx, hb, hml, hown, hts⟩ (n_X7_takeDate l dC dI ad cA adK adV H.size σ6 hIσ6 ) (cwV 0 hts gX7_readMature_X7_takeDate rfl rfl rfl (by decide +kernel) ⟨Nat.le_of_ble_eq_true rfl, Nat.le_of_ble_eq_true rfl⟩) ⟨gBlind, va_recv hK hP (ci := 6) (q0 := 1) rfl (at_6 rfl), gStart (As := [.ref (ad 1)]) hP hD hK0 hT hS hF (d_14)⟩ rfl rfl hl.1 rfl (lv_room (Nat.le_of_ble_eq_true rfl)) dX7_readMature_60 ⟨Nat.le_of_ble_eq_true rfl, Nat.le_of_ble_eq_true rfl⟩) hS (fun q _ h => hF q h) hF (fun r_16 σ7 t H locs ht hvm hw hB hz1 hk1 hS d_17 hd0 => ?_)
        have hts := dr_words hts0 (d_17)
        have hK := gKd hK0 (d_17)
        have hown : (s.setDrawn (d_17)).vm.findClass RX7 = some m.cls := hown0
        obtain ⟨hP, hD⟩ := gBack hF ht hB
        obtain ⟨hIσ7, fcσ7, hp_18⟩ := hw
        refine va_put (D := (dC, dI)) (ci := 0) (v := .int r_16) (C := RX0) (T := TX0) (N := 16) hx hb hts hinX0 tyX0 tyX0_ok nmX0 hown hK hP hD hS a0 (at_0 ha0) rfl 5 (by decide) (hts (.fieldLink RX7 183 "BondCalendars$Bond" "anchorDay" "I") (by decide +kernel)) (fun _ h9 => h9) rfl (ty := .int) (by decide +kernel) rfl rfl (Nat.le_of_ble_eq_true rfl) dX7_readMature_63 (fun H locs hP hD hS => ?_)
        obtain ⟨σ8, eσ8, hP, hD⟩ := gPut (se_0_5 ha0) hP hD
        have hIσ8 : InvX σ8 := by rw [eσ8]; exact inv_I hIσ7 (ok_0_5 ha0 _)
        have frσ8 : gFr [0, 6, 9] σ σ8 := by rw [eσ8]; exact gFr.pI (gFr.tr (gFr.tr frσ4 fcσ6 (by decide)) fcσ7 (by decide)) ha0 (by decide)
        refine lv_aload_n hx hb dX7_readMature_66 rfl (lv_at hl 1 rfl) ?_
        refine va_get (D := (dC, dI)) (ci := 0) (v := .int r_16) (C := RX0) (T := TX0) (N := 16) hx hb hts hinX0 hown hK hP a0 (at_0 ha0) rfl 5 (by decide) (hts (.fieldLink RX7 183 "BondCalendars$Bond" "anchorDay" "I") (by decide +kernel)) (fun _ h9 => h9) (congrArg (fun z => some (Value.int z)) (show (σ8 a0).1 5 = r_16 from by rw [eσ8, gI_self])) dX7_readMature_67 ?_
        refine lv_iconst (v := (-1)) hx hb dX7_readMature_70 (by decide) ?_
        refine lv_icmp_ne (tgt := 76) hx hb dX7_readMature_71 (by decide) (fun c_19 => ?_) (fun c_19 => ?_)
        · refine lv_iconst (v := 3) hx hb dX7_readMature_76 (by decide) ?_
          refine lv_aload_n hx hb dX7_readMature_77 rfl (lv_at hl 1 rfl) ?_
          have hF := gFree hD hS hA
          refine va_calliD hd0 (va_runV_D (As := []) (rest := [.int 3]) ⟨hx, hb, hml, hown, hts⟩ (n_X0_stepMonths l dC dI ad cA adK adV H.size σ8 hIσ8 a0 ha0) (cwV 0 hts gX7_readMature_X0_stepMonths rfl rfl rfl (by decide +kernel) ⟨Nat.le_of_ble_eq_true rfl, Nat.le_of_ble_eq_true rfl⟩) ⟨gBlind, va_recv hK hP (ci := 0) (q0 := a0) rfl (at_0 ha0), gStart (As := [.ref (ad a0)]) hP hD hK0 hT hS hF (d_17)⟩ rfl rfl hl.1 rfl (lv_room (Nat.le_of_ble_eq_true rfl)) dX7_readMature_78 ⟨Nat.le_of_ble_eq_true rfl, Nat.le_of_ble_eq_true rfl⟩) hS (fun q _ h => hF q h) hF (fun r_20 σ9 t H locs ht hvm hw hB hz1 hk1 hS d_21 hd0 => ?_)
          have hts := dr_words hts0 (d_21)
          have hK := gKd hK0 (d_21)
          have hown : (s.setDrawn (d_21)).vm.findClass RX7 = some m.cls := hown0
          obtain ⟨hP, hD⟩ := gBack hF ht hB
          obtain ⟨hIσ9, hro, hp_22⟩ := hw
          subst hro
          refine lv_imul hx hb dX7_readMature_81 ?_
          refine lv_topi (fun x_23 ex_23 => ?_)
          refine lv_istore_n (lv' := [(2, .int x_23), (0, .ref (ad 1)), (1, .ref (ad a0))]) hx hb dX7_readMature_82 rfl hl (by decide) rfl (fun ls hl => ?_)
          refine lv_aload_n hx hb dX7_readMature_83 rfl (lv_at hl 2 rfl) ?_
          refine va_get (D := (dC, dI)) (ci := 0) (v := .int r_16) (C := RX0) (T := TX0) (N := 16) hx hb hts hinX0 hown hK hP a0 (at_0 ha0) rfl 5 (by decide) (hts (.fieldLink RX7 183 "BondCalendars$Bond" "anchorDay" "I") (by decide +kernel)) (fun _ h9 => h9) (congrArg (fun z => some (Value.int z)) (show (σ8 a0).1 5 = r_16 from by rw [eσ8, gI_self])) dX7_readMature_84 ?_
          have hF := gFree (w := []) (hx_D0 (A := A)) hS hA
          have hKe := hK.sub (tys' := []) [] rfl
          refine va_calli (va_runS (As := [.int r_16]) (rest := []) ⟨hx, hb, hml, hown, hts⟩ (k_X3_numberOf l dC dI H.size r_16 ) (va_cwS 1 hts gX7_readMature_X3_numberOf rfl rfl rfl (by decide +kernel) ⟨Nat.le_of_ble_eq_true rfl, Nat.le_of_ble_eq_true rfl⟩) ⟨fun a U g mk q => by obtain ⟨q0, q1, qP, qK, qD⟩ := q; exact ⟨q0, q1, qP, va_K.moved (u := U) (U := U.calling g mk a) (Vm.Alike.refl U.vm) qK, qD⟩, fun U hU hW => ⟨rfl, by rw [hU], hx_P0, va_K.moved hW.alike hKe, hx_D0⟩⟩ rfl rfl hl.1 rfl (lv_room (Nat.le_of_ble_eq_true rfl)) dX7_readMature_87 ⟨Nat.le_of_ble_eq_true rfl, Nat.le_of_ble_eq_true rfl⟩) hS (fun q _ h => hF q h) hF (fun r_24 u t H locs ht hvm hw hB hz1 hk1 hS => ?_)
          have hP := gKeep hP hk1
          refine lv_iload_n hx hb dX7_readMature_90 rfl (lv_at hl 0 rfl) ?_
          refine lv_iconst (v := 0) hx hb dX7_readMature_91 (by decide) ?_
          have hF := gFree (w := []) (hx_D0 (A := A)) hS hA
          have hKe := hK.sub (tys' := []) [] rfl
          refine va_calli (va_runS (As := [.int r_24, .int x_23, .int 0]) (rest := []) ⟨hx, hb, hml, hown, hts⟩ (k_X3_monthsFrom l dC dI H.size r_24 x_23 0 ) (va_cwS 3 hts gX7_readMature_X3_monthsFrom rfl rfl rfl (by decide +kernel) ⟨Nat.le_of_ble_eq_true rfl, Nat.le_of_ble_eq_true rfl⟩) ⟨fun a U g mk q => by obtain ⟨q0, q1, qP, qK, qD⟩ := q; exact ⟨q0, q1, qP, va_K.moved (u := U) (U := U.calling g mk a) (Vm.Alike.refl U.vm) qK, qD⟩, fun U hU hW => ⟨rfl, by rw [hU], hx_P0, va_K.moved hW.alike hKe, hx_D0⟩⟩ rfl rfl hl.1 rfl (lv_room (Nat.le_of_ble_eq_true rfl)) dX7_readMature_92 ⟨Nat.le_of_ble_eq_true rfl, Nat.le_of_ble_eq_true rfl⟩) hS (fun q _ h => hF q h) hF (fun r_25 u t H locs ht hvm hw hB hz1 hk1 hS => ?_)
          have hP := gKeep hP hk1
          refine lv_istore_n (lv' := [(3, .int r_25), (2, .int x_23), (0, .ref (ad 1)), (1, .ref (ad a0))]) hx hb dX7_readMature_95 rfl hl (by decide) rfl (fun ls hl => ?_)
          refine lv_aload_n hx hb dX7_readMature_96 rfl (lv_at hl 3 rfl) ?_
          refine va_get (D := (dC, dI)) (ci := 0) (v := .int r_16) (C := RX0) (T := TX0) (N := 16) hx hb hts hinX0 hown hK hP a0 (at_0 ha0) rfl 5 (by decide) (hts (.fieldLink RX7 183 "BondCalendars$Bond" "anchorDay" "I") (by decide +kernel)) (fun _ h9 => h9) (congrArg (fun z => some (Value.int z)) (show (σ8 a0).1 5 = r_16 from by rw [eσ8, gI_self])) dX7_readMature_97 ?_
          refine lv_aload_n hx hb dX7_readMature_100 rfl (lv_at hl 3 rfl) ?_
          refine va_get (D := (dC, dI)) (ci := 0) (v := .int r_5) (C := RX0) (T := TX0) (N := 16) hx hb hts hinX0 hown hK hP a0 (at_0 ha0) rfl 4 (by decide) (hts (.fieldLink RX7 180 "BondCalendars$Bond" "matureDay" "I") (by decide +kernel)) (fun _ h9 => h9) (congrArg (fun z => some (Value.int z)) (show (σ8 a0).1 4 = r_5 from by rw [eσ8, gI_oth _ _ _ (by decide), fcσ7 a0 (by rw [ha0]; decide), fcσ6 a0 (by rw [ha0]; decide), eσ4, gI_oth _ _ _ (by decide), eσ3, gI_self])) dX7_readMature_101 ?_
          refine lv_icmp_ge (tgt := 118) hx hb dX7_readMature_104 (by decide) (fun c_26 => ?_) (fun c_26 => ?_)
          · refine lv_iconst (v := 1) hx hb dX7_readMature_118 (by decide) ?_
            refine lv_goto (tgt := 123) hx hb dX7_readMature_119 (by decide) ?_
            refine lv_istore (lv' := [(4, .int 1), (3, .int r_25), (2, .int x_23), (0, .ref (ad 1)), (1, .ref (ad a0))]) hx hb dX7_readMature_123 hl (by decide) rfl (fun ls hl => ?_)
            refine lv_iload hx hb dX7_readMature_125 (lv_at hl 0 rfl) ?_
            refine lv_if_eq (tgt := 142) hx hb dX7_readMature_127 (by decide) (fun c_27 => ?_) (fun c_27 => ?_)
            · exact absurd c_27 (by decide)
            · refine lv_aload_n hx hb dX7_readMature_130 rfl (lv_at hl 3 rfl) ?_
              refine lv_iconst (v := 4) hx hb dX7_readMature_131 (by decide) ?_
              refine lv_aload_n hx hb dX7_readMature_132 rfl (lv_at hl 3 rfl) ?_
              refine va_get (D := (dC, dI)) (ci := 6) (v := .int ((σ7 1).1 4)) (C := RX7) (T := TX7) (N := 5) hx hb hts hinX7 hown hK hP 1 (at_6 rfl) rfl 4 (by decide) (hts (.fieldLink RX7 29 "BondCalendars$Reader" "wholeAt" "I") (by decide +kernel)) (fun _ h9 => h9) (congrArg (fun z => some (Value.int z)) (show (σ8 1).1 4 = ((σ7 1).1 4) from by rw [eσ8, gI_ne _ _ _ (kne rfl ha0 (by decide))])) dX7_readMature_133 ?_
              have hF := gFree hD hS hA
              refine va_calliD hd0 (va_runV_D (As := [.int 4, .int ((σ7 1).1 4)]) (rest := []) ⟨hx, hb, hml, hown, hts⟩ (n_X7_fail l dC dI ad cA adK adV H.size σ8 hIσ8 4 ((σ7 1).1 4)) (cwV 2 hts gX7_readMature_X7_fail rfl rfl rfl (by decide +kernel) ⟨Nat.le_of_ble_eq_true rfl, Nat.le_of_ble_eq_true rfl⟩) ⟨gBlind, va_recv hK hP (ci := 6) (q0 := 1) rfl (at_6 rfl), gStart (As := [.ref (ad 1), .int 4, .int ((σ7 1).1 4)]) hP hD hK0 hT hS hF (d_21)⟩ rfl rfl hl.1 rfl (lv_room (Nat.le_of_ble_eq_true rfl)) dX7_readMature_136 ⟨Nat.le_of_ble_eq_true rfl, Nat.le_of_ble_eq_true rfl⟩) hS (fun q _ h => hF q h) hF (fun r_28 σ10 t H locs ht hvm hw hB hz1 hk1 hS d_29 hd0 => ?_)
              have hts := dr_words hts0 (d_29)
              have hK := gKd hK0 (d_29)
              have hown : (s.setDrawn (d_29)).vm.findClass RX7 = some m.cls := hown0
              obtain ⟨hP, hD⟩ := gBack hF ht hB
              obtain ⟨hIσ10, fcσ10, hp_30⟩ := hw
              refine lv_if_eq (tgt := 146) hx hb dX7_readMature_139 (by decide) (fun c_31 => ?_) (fun c_31 => ?_)
              · refine lv_iconst (v := 0) hx hb dX7_readMature_146 (by decide) ?_
                refine W.endD hd0 ?_
                exact W.zret (v := 0) hx hb hr (by decide) (fun t ht hW => ⟨⟨0, σ10, rfl, ⟨hIσ10, (gFr.tr frσ8 fcσ10 (by decide)), Or.inl rfl⟩, ⟨by rw [ht]; exact hP, hD⟩⟩, hS.F ht⟩) hS.2.2 dX7_readMature_147
              · refine lv_iconst (v := 1) hx hb dX7_readMature_142 (by decide) ?_
                refine lv_goto (tgt := 147) hx hb dX7_readMature_143 (by decide) ?_
                refine W.endD hd0 ?_
                exact W.zret (v := 1) hx hb hr (by decide) (fun t ht hW => ⟨⟨1, σ10, rfl, ⟨hIσ10, (gFr.tr frσ8 fcσ10 (by decide)), Or.inr rfl⟩, ⟨by rw [ht]; exact hP, hD⟩⟩, hS.F ht⟩) hS.2.2 dX7_readMature_147
          · refine lv_aload_n hx hb dX7_readMature_107 rfl (lv_at hl 3 rfl) ?_
            refine va_get (D := (dC, dI)) (ci := 0) (v := .int r_5) (C := RX0) (T := TX0) (N := 16) hx hb hts hinX0 hown hK hP a0 (at_0 ha0) rfl 4 (by decide) (hts (.fieldLink RX7 180 "BondCalendars$Bond" "matureDay" "I") (by decide +kernel)) (fun _ h9 => h9) (congrArg (fun z => some (Value.int z)) (show (σ8 a0).1 4 = r_5 from by rw [eσ8, gI_oth _ _ _ (by decide), fcσ7 a0 (by rw [ha0]; decide), fcσ6 a0 (by rw [ha0]; decide), eσ4, gI_oth _ _ _ (by decide), eσ3, gI_self])) dX7_readMature_108 ?_
            refine lv_iload_n hx hb dX7_readMature_111 rfl (lv_at hl 0 rfl) ?_
            have hF := gFree (w := []) (hx_D0 (A := A)) hS hA
            have hKe := hK.sub (tys' := []) [] rfl
            refine va_calli (va_runS (As := [.int r_25]) (rest := [.int r_5]) ⟨hx, hb, hml, hown, hts⟩ (k_X3_dayOf l dC dI H.size r_25 ) (va_cwS 1 hts gX7_readMature_X3_dayOf rfl rfl rfl (by decide +kernel) ⟨Nat.le_of_ble_eq_true rfl, Nat.le_of_ble_eq_true rfl⟩) ⟨fun a U g mk q => by obtain ⟨q0, q1, qP, qK, qD⟩ := q; exact ⟨q0, q1, qP, va_K.moved (u := U) (U := U.calling g mk a) (Vm.Alike.refl U.vm) qK, qD⟩, fun U hU hW => ⟨rfl, by rw [hU], hx_P0, va_K.moved hW.alike hKe, hx_D0⟩⟩ rfl rfl hl.1 rfl (lv_room (Nat.le_of_ble_eq_true rfl)) dX7_readMature_112 ⟨Nat.le_of_ble_eq_true rfl, Nat.le_of_ble_eq_true rfl⟩) hS (fun q _ h => hF q h) hF (fun r_32 u t H locs ht hvm hw hB hz1 hk1 hS => ?_)
            have hP := gKeep hP hk1
            refine lv_icmp_le (tgt := 122) hx hb dX7_readMature_115 (by decide) (fun c_33 => ?_) (fun c_33 => ?_)
            · refine lv_iconst (v := 0) hx hb dX7_readMature_122 (by decide) ?_
              refine lv_istore (lv' := [(4, .int 0), (3, .int r_25), (2, .int x_23), (0, .ref (ad 1)), (1, .ref (ad a0))]) hx hb dX7_readMature_123 hl (by decide) rfl (fun ls hl => ?_)
              refine lv_iload hx hb dX7_readMature_125 (lv_at hl 0 rfl) ?_
              refine lv_if_eq (tgt := 142) hx hb dX7_readMature_127 (by decide) (fun c_34 => ?_) (fun c_34 => ?_)
              · refine lv_iconst (v := 1) hx hb dX7_readMature_142 (by decide) ?_
                refine lv_goto (tgt := 147) hx hb dX7_readMature_143 (by decide) ?_
                refine W.endD hd0 ?_
                exact W.zret (v := 1) hx hb hr (by decide) (fun t ht hW => ⟨⟨1, σ8, rfl, ⟨hIσ8, frσ8, Or.inr rfl⟩, ⟨by rw [ht]; exact hP, hD⟩⟩, hS.F ht⟩) hS.2.2 dX7_readMature_147
              · exact absurd (by decide) c_34
            · refine lv_iconst (v := 1) hx hb dX7_readMature_118 (by decide) ?_
              refine lv_goto (tgt := 123) hx hb dX7_readMature_119 (by decide) ?_
              refine lv_istore (lv' := [(4, .int 1), (3, .int r_25), (2, .int x_23), (0, .ref (ad 1)), (1, .ref (ad a0))]) hx hb dX7_readMature_123 hl (by decide) rfl (fun ls hl => ?_)
              refine lv_iload hx hb dX7_readMature_125 (lv_at hl 0 rfl) ?_
              refine lv_if_eq (tgt := 142) hx hb dX7_readMature_127 (by decide) (fun c_35 => ?_) (fun c_35 => ?_)
              · exact absurd c_35 (by decide)
              · refine lv_aload_n hx hb dX7_readMature_130 rfl (lv_at hl 3 rfl) ?_
                refine lv_iconst (v := 4) hx hb dX7_readMature_131 (by decide) ?_
                refine lv_aload_n hx hb dX7_readMature_132 rfl (lv_at hl 3 rfl) ?_
                refine va_get (D := (dC, dI)) (ci := 6) (v := .int ((σ7 1).1 4)) (C := RX7) (T := TX7) (N := 5) hx hb hts hinX7 hown hK hP 1 (at_6 rfl) rfl 4 (by decide) (hts (.fieldLink RX7 29 "BondCalendars$Reader" "wholeAt" "I") (by decide +kernel)) (fun _ h9 => h9) (congrArg (fun z => some (Value.int z)) (show (σ8 1).1 4 = ((σ7 1).1 4) from by rw [eσ8, gI_ne _ _ _ (kne rfl ha0 (by decide))])) dX7_readMature_133 ?_
                have hF := gFree hD hS hA
                refine va_calliD hd0 (va_runV_D (As := [.int 4, .int ((σ7 1).1 4)]) (rest := []) ⟨hx, hb, hml, hown, hts⟩ (n_X7_fail l dC dI ad cA adK adV H.size σ8 hIσ8 4 ((σ7 1).1 4)) (cwV 2 hts gX7_readMature_X7_fail rfl rfl rfl (by decide +kernel) ⟨Nat.le_of_ble_eq_true rfl, Nat.le_of_ble_eq_true rfl⟩) ⟨gBlind, va_recv hK hP (ci := 6) (q0 := 1) rfl (at_6 rfl), gStart (As := [.ref (ad 1), .int 4, .int ((σ7 1).1 4)]) hP hD hK0 hT hS hF (d_21)⟩ rfl rfl hl.1 rfl (lv_room (Nat.le_of_ble_eq_true rfl)) dX7_readMature_136 ⟨Nat.le_of_ble_eq_true rfl, Nat.le_of_ble_eq_true rfl⟩) hS (fun q _ h => hF q h) hF (fun r_36 σ11 t H locs ht hvm hw hB hz1 hk1 hS d_37 hd0 => ?_)
                have hts := dr_words hts0 (d_37)
                have hK := gKd hK0 (d_37)
                have hown : (s.setDrawn (d_37)).vm.findClass RX7 = some m.cls := hown0
                obtain ⟨hP, hD⟩ := gBack hF ht hB
                obtain ⟨hIσ11, fcσ11, hp_38⟩ := hw
                refine lv_if_eq (tgt := 146) hx hb dX7_readMature_139 (by decide) (fun c_39 => ?_) (fun c_39 => ?_)
                · refine lv_iconst (v := 0) hx hb dX7_readMature_146 (by decide) ?_
                  refine W.endD hd0 ?_
                  exact W.zret (v := 0) hx hb hr (by decide) (fun t ht hW => ⟨⟨0, σ11, rfl, ⟨hIσ11, (gFr.tr frσ8 fcσ11 (by decide)), Or.inl rfl⟩, ⟨by rw [ht]; exact hP, hD⟩⟩, hS.F ht⟩) hS.2.2 dX7_readMature_147
                · refine lv_iconst (v := 1) hx hb dX7_readMature_142 (by decide) ?_
                  refine lv_goto (tgt := 147) hx hb dX7_readMature_143 (by decide) ?_
                  refine W.endD hd0 ?_
                  exact W.zret (v := 1) hx hb hr (by decide) (fun t ht hW => ⟨⟨1, σ11, rfl, ⟨hIσ11, (gFr.tr frσ8 fcσ11 (by decide)), Or.inr rfl⟩, ⟨by rw [ht]; exact hP, hD⟩⟩, hS.F ht⟩) hS.2.2 dX7_readMature_147
        · refine lv_iconst (v := 0) hx hb dX7_readMature_74 (by decide) ?_
          refine W.endD hd0 ?_
          exact W.zret (v := 0) hx hb hr (by decide) (fun t ht hW => ⟨⟨0, σ8, rfl, ⟨hIσ8, frσ8, Or.inl rfl⟩, ⟨by rw [ht]; exact hP, hD⟩⟩, hS.F ht⟩) hS.2.2 dX7_readMature_75
      · refine lv_iconst (v := 1) hx hb dX7_readMature_49 (by decide) ?_
        refine W.endD hd0 ?_
        exact W.zret (v := 1) hx hb hr (by decide) (fun t ht hW => ⟨⟨1, σ4, rfl, ⟨hIσ4, frσ4, Or.inr rfl⟩, ⟨by rw [ht]; exact hP, hD⟩⟩, hS.F ht⟩) hS.2.2 dX7_readMature_50
    · refine lv_iconst (v := 0) hx hb dX7_readMature_35 (by decide) ?_
      refine W.endD hd0 ?_
      exact W.zret (v := 0) hx hb hr (by decide) (fun t ht hW => ⟨⟨0, σ4, rfl, ⟨hIσ4, frσ4, Or.inl rfl⟩, ⟨by rw [ht]; exact hP, hD⟩⟩, hS.F ht⟩) hS.2.2 dX7_readMature_36
  · refine lv_iconst (v := 0) hx hb dX7_readMature_9 (by decide) ?_
    refine W.endD hd0 ?_
    exact W.zret (v := 0) hx hb hr (by decide) (fun t ht hW => ⟨⟨0, σ1, rfl, ⟨hIσ1, (gFr.tr (gFr.rfl (L := [0, 6, 9]) (σ := σ)) fcσ1 (by decide)), Or.inl rfl⟩, ⟨by rw [ht]; exact hP, hD⟩⟩, hS.F ht⟩) hS.2.2 dX7_readMature_10
set_option maxHeartbeats 8000000 in
set_option maxRecDepth 100000 in
theorem n_X7_readIssue (l : Launch) (dC : Nat → ClassId) (dI : Nat → Nat → Nat) (ad : Nat → Nat) (cA : Nat → ClassId) (adK adV : Nat → Nat) (sz : Nat) (σ : gs) (hI : InvX σ) (a0 : Nat) (ha0 : kX a0 = 0) : MetD lw_cs l yX7_readIssue wsX7_readIssue ({ frames := 6, cells := 0, slots := 0, locals := 128 }) (va_Pc [.ref (ad 1), .ref (ad a0)] (gPre adK adV (dC, dI) (wX ad cA σ) (tX cA) sz)) (va_Qi (fun (r : Int32) (τ : gs) => InvX τ ∧ gFr [0, 6, 9, 27] σ τ ∧ (r = 0 ∨ r = 1)) (fun τ t => gPost (dC, dI) (va_A (wX ad cA σ) sz) (wX ad cA τ) t) (va_A (wX ad cA σ) sz)) 0 0 (va_A (wX ad cA σ) sz) := by
  refine MetD.ofW (cc := cX7_readIssue) (maxL := 3) (ret := (some .boolean)) (by decide) rfl ?_
  intro p e s m args below meth c s₁ B hml hv hd0
  obtain ⟨rfl, hsz, hP, hK, hD0, hT⟩ := hv
  have hx := B.exec
  have hb := B.bytes
  have hr := B.returns
  have hts0 := atoms_spec (ws := wsX7_readIssue) B.pre
  have hK0 := hK
  have hown0 : s.vm.findClass RX7 = some m.cls := findClass_of_methodNamed B.named
  have hlocks := B.notSynchronized
  have hinX0 : ∀ w ∈ u_ws RX0 TX0 16, w ∈ wsX7_readIssue := (fun _ h9 => List.mem_cons_of_mem _ (List.mem_append_left _ (List.mem_append_left _ (List.mem_append_right _ h9))))
  have hinX7 : ∀ w ∈ u_ws RX7 TX7 5, w ∈ wsX7_readIssue := (fun _ h9 => List.mem_cons_of_mem _ (List.mem_append_left _ (List.mem_append_right _ h9)))
  subst hsz
  have hD := hD0.self (sz := s.heap.size)
  generalize hAe : va_A (wX ad cA σ) s.heap.size = A at hD hT ⊢
  have hA : ∀ q : Nat, s.heap.size ≤ q → A q := fun q h => by rw [← hAe]; exact Or.inr h
  have hS : va_S A s.heap s.heap [] := va_S.rf
  have hl := lv_entry ([.ref (ad 1), .ref (ad a0)]) (n := 3) (Nat.le_of_ble_eq_true rfl)
  rw [lg_entry_eq]
  generalize (lg_sl ([.ref (ad 1), .ref (ad a0)]) ++ List.replicate (3 - (lg_sl ([.ref (ad 1), .ref (ad a0)])).length) Slot.unset).toArray = ls at hl ⊢
  have hl : lv_has ls 3 [(0, .ref (ad 1)), (1, .ref (ad a0))] := hl
  have hts := dr_words hts0 (s.drawn)
  have hK := gKd hK0 (s.drawn)
  have hown : (s.setDrawn (s.drawn)).vm.findClass RX7 = some m.cls := hown0
  refine lv_aload_n hx hb dX7_readIssue_0 rfl (lv_at hl 0 rfl) ?_
  refine va_ldcS (tx := "issue") (q := (adK 33)) hx hb hown (vk_R.same rfl hT.2.1.2.2.2.2.2.2.2.2.2.2.2.2.2.2.2.2.2.2.2.2.2.2.2.2.2.2.2.2.2.2.2.2.2.1) dX7_readIssue_1 ?_
  have hF := gFree hD hS hA
  refine va_calliD hd0 (va_runV_D (As := [.ref (adK 33)]) (rest := []) ⟨hx, hb, hml, hown, hts⟩ (n_X7_takeWord l dC dI ad cA adK adV s.heap.size σ hI 33 (by decide)) (cwV 1 hts gX7_readIssue_X7_takeWord rfl rfl rfl (by decide +kernel) ⟨Nat.le_of_ble_eq_true rfl, Nat.le_of_ble_eq_true rfl⟩) ⟨gBlind, va_recv hK hP (ci := 6) (q0 := 1) rfl (at_6 rfl), gStart (As := [.ref (ad 1), .ref (adK 33)]) hP hD hK0 hT hS hF (s.drawn)⟩ rfl rfl hl.1 rfl (lv_room (Nat.le_of_ble_eq_true rfl)) dX7_readIssue_3 ⟨Nat.le_of_ble_eq_true rfl, Nat.le_of_ble_eq_true rfl⟩) hS (fun q _ h => hF q h) hF (fun r_1 σ1 t H locs ht hvm hw hB hz1 hk1 hS d_2 hd0 => ?_)
  have hts := dr_words hts0 (d_2)
  have hK := gKd hK0 (d_2)
  have hown : (s.setDrawn (d_2)).vm.findClass RX7 = some m.cls := hown0
  obtain ⟨hP, hD⟩ := gBack hF ht hB
  obtain ⟨hIσ1, fcσ1, hp_3⟩ := hw
  refine lv_if_ne (tgt := 11) hx hb dX7_readIssue_6 (by decide) (fun c_4 => ?_) (fun c_4 => ?_)
  · refine lv_aload_n hx hb dX7_readIssue_11 rfl (lv_at hl 1 rfl) ?_
    refine lv_aload_n hx hb dX7_readIssue_12 rfl (lv_at hl 0 rfl) ?_
    have hF := gFree hD hS hA
    refine va_calliD hd0 (va_runV_D (As := []) (rest := [.ref (ad a0)]) ⟨hx, hb, hml, hown, hts⟩ (n_X7_takeDate l dC dI ad cA adK adV H.size σ1 hIσ1 ) (cwV 0 hts gX7_readIssue_X7_takeDate rfl rfl rfl (by decide +kernel) ⟨Nat.le_of_ble_eq_true rfl, Nat.le_of_ble_eq_true rfl⟩) ⟨gBlind, va_recv hK hP (ci := 6) (q0 := 1) rfl (at_6 rfl), gStart (As := [.ref (ad 1)]) hP hD hK0 hT hS hF (d_2)⟩ rfl rfl hl.1 rfl (lv_room (Nat.le_of_ble_eq_true rfl)) dX7_readIssue_13 ⟨Nat.le_of_ble_eq_true rfl, Nat.le_of_ble_eq_true rfl⟩) hS (fun q _ h => hF q h) hF (fun r_5 σ2 t H locs ht hvm hw hB hz1 hk1 hS d_6 hd0 => ?_)
    have hts := dr_words hts0 (d_6)
    have hK := gKd hK0 (d_6)
    have hown : (s.setDrawn (d_6)).vm.findClass RX7 = some m.cls := hown0
    obtain ⟨hP, hD⟩ := gBack hF ht hB
    obtain ⟨hIσ2, fcσ2, hp_7⟩ := hw
    refine va_put (D := (dC, dI)) (ci := 0) (v := .int r_5) (C := RX0) (T := TX0) (N := 16) hx hb hts hinX0 tyX0 tyX0_ok nmX0 hown hK hP hD hS a0 (at_0 ha0) rfl 6 (by decide) (hts (.fieldLink RX7 206 "BondCalendars$Bond" "issueDay" "I") (by decide +kernel)) (fun _ h9 => h9) rfl (ty := .int) (by decide +kernel) rfl rfl (Nat.le_of_ble_eq_true rfl) dX7_readIssue_16 (fun H locs hP hD hS => ?_)
    obtain ⟨σ3, eσ3, hP, hD⟩ := gPut (se_0_6 ha0) hP hD
    have hIσ3 : InvX σ3 := by rw [eσ3]; exact inv_I hIσ2 (ok_0_6 ha0 _)
    have frσ3 : gFr [0, 6, 9, 27] σ σ3 := by rw [eσ3]; exact gFr.pI (gFr.tr (gFr.tr (gFr.rfl (L := [0, 6, 9, 27]) (σ := σ)) fcσ1 (by decide)) fcσ2 (by decide)) ha0 (by decide)
    refine lv_aload_n hx hb dX7_readIssue_19 rfl (lv_at hl 1 rfl) ?_
    refine va_get (D := (dC, dI)) (ci := 0) (v := .int r_5) (C := RX0) (T := TX0) (N := 16) hx hb hts hinX0 hown hK hP a0 (at_0 ha0) rfl 6 (by decide) (hts (.fieldLink RX7 206 "BondCalendars$Bond" "issueDay" "I") (by decide +kernel)) (fun _ h9 => h9) (congrArg (fun z => some (Value.int z)) (show (σ3 a0).1 6 = r_5 from by rw [eσ3, gI_self])) dX7_readIssue_20 ?_
    refine lv_iconst (v := (-1)) hx hb dX7_readIssue_23 (by decide) ?_
    refine lv_icmp_ne (tgt := 29) hx hb dX7_readIssue_24 (by decide) (fun c_8 => ?_) (fun c_8 => ?_)
    · refine lv_aload_n hx hb dX7_readIssue_29 rfl (lv_at hl 1 rfl) ?_
      refine va_get (D := (dC, dI)) (ci := 0) (v := .int r_5) (C := RX0) (T := TX0) (N := 16) hx hb hts hinX0 hown hK hP a0 (at_0 ha0) rfl 6 (by decide) (hts (.fieldLink RX7 206 "BondCalendars$Bond" "issueDay" "I") (by decide +kernel)) (fun _ h9 => h9) (congrArg (fun z => some (Value.int z)) (show (σ3 a0).1 6 = r_5 from by rw [eσ3, gI_self])) dX7_readIssue_30 ?_
      refine lv_aload_n hx hb dX7_readIssue_33 rfl (lv_at hl 1 rfl) ?_
      refine va_get (D := (dC, dI)) (ci := 0) (v := .int ((σ a0).1 5)) (C := RX0) (T := TX0) (N := 16) hx hb hts hinX0 hown hK hP a0 (at_0 ha0) rfl 5 (by decide) (hts (.fieldLink RX7 183 "BondCalendars$Bond" "anchorDay" "I") (by decide +kernel)) (fun _ h9 => h9) (congrArg (fun z => some (Value.int z)) (show (σ3 a0).1 5 = ((σ a0).1 5) from by rw [eσ3, gI_oth _ _ _ (by decide), fcσ2 a0 (by rw [ha0]; decide), fcσ1 a0 (by rw [ha0]; decide)])) dX7_readIssue_34 ?_
      refine lv_icmp_lt (tgt := 50) hx hb dX7_readIssue_37 (by decide) (fun c_9 => ?_) (fun c_9 => ?_)
      · refine lv_aload_n hx hb dX7_readIssue_50 rfl (lv_at hl 1 rfl) ?_
        have hF := gFree hD hS hA
        refine va_callvD hd0 (va_runV_D (As := []) (rest := []) ⟨hx, hb, hml, hown, hts⟩ (n_X0_layGrid l dC dI ad cA adK adV H.size σ3 hIσ3 a0 ha0) (cwV 0 hts gX7_readIssue_X0_layGrid rfl rfl rfl (by decide +kernel) ⟨Nat.le_of_ble_eq_true rfl, Nat.le_of_ble_eq_true rfl⟩) ⟨gBlind, va_recv hK hP (ci := 0) (q0 := a0) rfl (at_0 ha0), gStart (As := [.ref (ad a0)]) hP hD hK0 hT hS hF (d_6)⟩ rfl rfl hl.1 rfl (lv_room (Nat.le_of_ble_eq_true rfl)) dX7_readIssue_51 ⟨Nat.le_of_ble_eq_true rfl, Nat.le_of_ble_eq_true rfl⟩) hS (fun q _ h => hF q h) hF (fun σ4 t H locs ht hvm hw hB hz1 hk1 hS d_11 hd0 => ?_)
        have hts := dr_words hts0 (d_11)
        have hK := gKd hK0 (d_11)
        have hown : (s.setDrawn (d_11)).vm.findClass RX7 = some m.cls := hown0
        obtain ⟨hP, hD⟩ := gBack hF ht hB
        obtain ⟨hIσ4, fcσ4, hp_12⟩ := hw
        refine lv_aload_n hx hb dX7_readIssue_54 rfl (lv_at hl 1 rfl) ?_
        refine lv_aload_n hx hb dX7_readIssue_55 rfl (lv_at hl 1 rfl) ?_
        refine va_get (D := (dC, dI)) (ci := 0) (v := .int r_5) (C := RX0) (T := TX0) (N := 16) hx hb hts hinX0 hown hK hP a0 (at_0 ha0) rfl 6 (by decide) (hts (.fieldLink RX7 206 "BondCalendars$Bond" "issueDay" "I") (by decide +kernel)) (fun _ h9 => h9) (congrArg (fun z => some (Value.int z)) (show (σ4 a0).1 6 = r_5 from by rw [fcσ4 a0 (by rw [ha0]; decide), eσ3, gI_self])) dX7_readIssue_56 ?_
        have hF := gFree hD hS hA
        refine va_calliD hd0 (va_runV_D (As := [.int r_5]) (rest := []) ⟨hx, hb, hml, hown, hts⟩ (n_X0_stepsBehind l dC dI ad cA adK adV H.size σ4 hIσ4 a0 ha0 r_5) (cwV 1 hts gX7_readIssue_X0_stepsBehind rfl rfl rfl (by decide +kernel) ⟨Nat.le_of_ble_eq_true rfl, Nat.le_of_ble_eq_true rfl⟩) ⟨gBlind, va_recv hK hP (ci := 0) (q0 := a0) rfl (at_0 ha0), gStart (As := [.ref (ad a0), .int r_5]) hP hD hK0 hT hS hF (d_11)⟩ rfl rfl hl.1 rfl (lv_room (Nat.le_of_ble_eq_true rfl)) dX7_readIssue_59 ⟨Nat.le_of_ble_eq_true rfl, Nat.le_of_ble_eq_true rfl⟩) hS (fun q _ h => hF q h) hF (fun r_13 σ5 t H locs ht hvm hw hB hz1 hk1 hS d_14 hd0 => ?_)
        have hts := dr_words hts0 (d_14)
        have hK := gKd hK0 (d_14)
        have hown : (s.setDrawn (d_14)).vm.findClass RX7 = some m.cls := hown0
        obtain ⟨hP, hD⟩ := gBack hF ht hB
        obtain ⟨hIσ5, hro, hp_15⟩ := hw
        subst hro
        refine lv_istore_n (lv' := [(2, .int r_13), (0, .ref (ad 1)), (1, .ref (ad a0))]) hx hb dX7_readIssue_62 rfl hl (by decide) rfl (fun ls hl => ?_)
        refine lv_aload_n hx hb dX7_readIssue_63 rfl (lv_at hl 2 rfl) ?_
        refine lv_bipush (v := 91) hx hb dX7_readIssue_64 (by decide) ?_
        refine lv_iload_n hx hb dX7_readIssue_66 rfl (lv_at hl 0 rfl) ?_
        refine lv_isub hx hb dX7_readIssue_67 ?_
        refine lv_topi (fun x_16 ex_16 => ?_)
        refine va_put (D := (dC, dI)) (ci := 0) (v := .int x_16) (C := RX0) (T := TX0) (N := 16) hx hb hts hinX0 tyX0 tyX0_ok nmX0 hown hK hP hD hS a0 (at_0 ha0) rfl 8 (by decide) (hts (.fieldLink RX7 215 "BondCalendars$Bond" "firstAt" "I") (by decide +kernel)) (fun _ h9 => h9) rfl (ty := .int) (by decide +kernel) rfl rfl (Nat.le_of_ble_eq_true rfl) dX7_readIssue_68 (fun H locs hP hD hS => ?_)
        obtain ⟨σ6, eσ6, hP, hD⟩ := gPut (se_0_8 ha0) hP hD
        have hIσ6 : InvX σ6 := by rw [eσ6]; exact inv_I hIσ4 (ok_0_8 ha0 _)
        have frσ6 : gFr [0, 6, 9, 27] σ σ6 := by rw [eσ6]; exact gFr.pI (gFr.tr frσ3 fcσ4 (by decide)) ha0 (by decide)
        refine lv_iload_n hx hb dX7_readIssue_71 rfl (lv_at hl 0 rfl) ?_
        refine lv_bipush (v := 80) hx hb dX7_readIssue_72 (by decide) ?_
        refine lv_icmp_le (tgt := 89) hx hb dX7_readIssue_74 (by decide) (fun c_17 => ?_) (fun c_17 => ?_)
        · refine lv_iconst (v := 1) hx hb dX7_readIssue_89 (by decide) ?_
          refine lv_goto (tgt := 94) hx hb dX7_readIssue_90 (by decide) ?_
          refine W.endD hd0 ?_
          exact W.zret (v := 1) hx hb hr (by decide) (fun t ht hW => ⟨⟨1, σ6, rfl, ⟨hIσ6, frσ6, Or.inr rfl⟩, ⟨by rw [ht]; exact hP, hD⟩⟩, hS.F ht⟩) hS.2.2 dX7_readIssue_94
        · refine lv_aload_n hx hb dX7_readIssue_77 rfl (lv_at hl 1 rfl) ?_
          refine lv_iconst (v := 5) hx hb dX7_readIssue_78 (by decide) ?_
          refine lv_aload_n hx hb dX7_readIssue_79 rfl (lv_at hl 1 rfl) ?_
          refine va_get (D := (dC, dI)) (ci := 6) (v := .int ((σ2 1).1 4)) (C := RX7) (T := TX7) (N := 5) hx hb hts hinX7 hown hK hP 1 (at_6 rfl) rfl 4 (by decide) (hts (.fieldLink RX7 29 "BondCalendars$Reader" "wholeAt" "I") (by decide +kernel)) (fun _ h9 => h9) (congrArg (fun z => some (Value.int z)) (show (σ6 1).1 4 = ((σ2 1).1 4) from by rw [eσ6, gI_ne _ _ _ (kne rfl ha0 (by decide)), fcσ4 1 (by decide), eσ3, gI_ne _ _ _ (kne rfl ha0 (by decide))])) dX7_readIssue_80 ?_
          have hF := gFree hD hS hA
          refine va_calliD hd0 (va_runV_D (As := [.int 5, .int ((σ2 1).1 4)]) (rest := []) ⟨hx, hb, hml, hown, hts⟩ (n_X7_fail l dC dI ad cA adK adV H.size σ6 hIσ6 5 ((σ2 1).1 4)) (cwV 2 hts gX7_readIssue_X7_fail rfl rfl rfl (by decide +kernel) ⟨Nat.le_of_ble_eq_true rfl, Nat.le_of_ble_eq_true rfl⟩) ⟨gBlind, va_recv hK hP (ci := 6) (q0 := 1) rfl (at_6 rfl), gStart (As := [.ref (ad 1), .int 5, .int ((σ2 1).1 4)]) hP hD hK0 hT hS hF (d_14)⟩ rfl rfl hl.1 rfl (lv_room (Nat.le_of_ble_eq_true rfl)) dX7_readIssue_83 ⟨Nat.le_of_ble_eq_true rfl, Nat.le_of_ble_eq_true rfl⟩) hS (fun q _ h => hF q h) hF (fun r_18 σ7 t H locs ht hvm hw hB hz1 hk1 hS d_19 hd0 => ?_)
          have hts := dr_words hts0 (d_19)
          have hK := gKd hK0 (d_19)
          have hown : (s.setDrawn (d_19)).vm.findClass RX7 = some m.cls := hown0
          obtain ⟨hP, hD⟩ := gBack hF ht hB
          obtain ⟨hIσ7, fcσ7, hp_20⟩ := hw
          refine lv_if_eq (tgt := 93) hx hb dX7_readIssue_86 (by decide) (fun c_21 => ?_) (fun c_21 => ?_)
          · refine lv_iconst (v := 0) hx hb dX7_readIssue_93 (by decide) ?_
            refine W.endD hd0 ?_
            exact W.zret (v := 0) hx hb hr (by decide) (fun t ht hW => ⟨⟨0, σ7, rfl, ⟨hIσ7, (gFr.tr frσ6 fcσ7 (by decide)), Or.inl rfl⟩, ⟨by rw [ht]; exact hP, hD⟩⟩, hS.F ht⟩) hS.2.2 dX7_readIssue_94
          · refine lv_iconst (v := 1) hx hb dX7_readIssue_89 (by decide) ?_
            refine lv_goto (tgt := 94) hx hb dX7_readIssue_90 (by decide) ?_
            refine W.endD hd0 ?_
            exact W.zret (v := 1) hx hb hr (by decide) (fun t ht hW => ⟨⟨1, σ7, rfl, ⟨hIσ7, (gFr.tr frσ6 fcσ7 (by decide)), Or.inr rfl⟩, ⟨by rw [ht]; exact hP, hD⟩⟩, hS.F ht⟩) hS.2.2 dX7_readIssue_94
      · refine lv_aload_n hx hb dX7_readIssue_40 rfl (lv_at hl 0 rfl) ?_
        refine lv_iconst (v := 4) hx hb dX7_readIssue_41 (by decide) ?_
        refine lv_aload_n hx hb dX7_readIssue_42 rfl (lv_at hl 0 rfl) ?_
        refine va_get (D := (dC, dI)) (ci := 6) (v := .int ((σ2 1).1 4)) (C := RX7) (T := TX7) (N := 5) hx hb hts hinX7 hown hK hP 1 (at_6 rfl) rfl 4 (by decide) (hts (.fieldLink RX7 29 "BondCalendars$Reader" "wholeAt" "I") (by decide +kernel)) (fun _ h9 => h9) (congrArg (fun z => some (Value.int z)) (show (σ3 1).1 4 = ((σ2 1).1 4) from by rw [eσ3, gI_ne _ _ _ (kne rfl ha0 (by decide))])) dX7_readIssue_43 ?_
        have hF := gFree hD hS hA
        refine va_calliD hd0 (va_runV_D (As := [.int 4, .int ((σ2 1).1 4)]) (rest := []) ⟨hx, hb, hml, hown, hts⟩ (n_X7_fail l dC dI ad cA adK adV H.size σ3 hIσ3 4 ((σ2 1).1 4)) (cwV 2 hts gX7_readIssue_X7_fail rfl rfl rfl (by decide +kernel) ⟨Nat.le_of_ble_eq_true rfl, Nat.le_of_ble_eq_true rfl⟩) ⟨gBlind, va_recv hK hP (ci := 6) (q0 := 1) rfl (at_6 rfl), gStart (As := [.ref (ad 1), .int 4, .int ((σ2 1).1 4)]) hP hD hK0 hT hS hF (d_6)⟩ rfl rfl hl.1 rfl (lv_room (Nat.le_of_ble_eq_true rfl)) dX7_readIssue_46 ⟨Nat.le_of_ble_eq_true rfl, Nat.le_of_ble_eq_true rfl⟩) hS (fun q _ h => hF q h) hF (fun r_22 σ8 t H locs ht hvm hw hB hz1 hk1 hS d_23 hd0 => ?_)
        have hts := dr_words hts0 (d_23)
        have hK := gKd hK0 (d_23)
        have hown : (s.setDrawn (d_23)).vm.findClass RX7 = some m.cls := hown0
        obtain ⟨hP, hD⟩ := gBack hF ht hB
        obtain ⟨hIσ8, fcσ8, hp_24⟩ := hw
        refine W.endD hd0 ?_
        exact W.zret (v := r_22) hx hb hr (by rcases hp_24 with h9 | h9 <;> rw [h9] <;> decide +kernel) (fun t ht hW => ⟨⟨r_22, σ8, rfl, ⟨hIσ8, (gFr.tr frσ3 fcσ8 (by decide)), hp_24⟩, ⟨by rw [ht]; exact hP, hD⟩⟩, hS.F ht⟩) hS.2.2 dX7_readIssue_49
    · refine lv_iconst (v := 0) hx hb dX7_readIssue_27 (by decide) ?_
      refine W.endD hd0 ?_
      exact W.zret (v := 0) hx hb hr (by decide) (fun t ht hW => ⟨⟨0, σ3, rfl, ⟨hIσ3, frσ3, Or.inl rfl⟩, ⟨by rw [ht]; exact hP, hD⟩⟩, hS.F ht⟩) hS.2.2 dX7_readIssue_28
  · refine lv_iconst (v := 0) hx hb dX7_readIssue_9 (by decide) ?_
    refine W.endD hd0 ?_
    exact W.zret (v := 0) hx hb hr (by decide) (fun t ht hW => ⟨⟨0, σ1, rfl, ⟨hIσ1, (gFr.tr (gFr.rfl (L := [0, 6, 9, 27]) (σ := σ)) fcσ1 (by decide)), Or.inl rfl⟩, ⟨by rw [ht]; exact hP, hD⟩⟩, hS.F ht⟩) hS.2.2 dX7_readIssue_10
set_option maxHeartbeats 8000000 in
set_option maxRecDepth 100000 in
theorem n_X7_readFirst (l : Launch) (dC : Nat → ClassId) (dI : Nat → Nat → Nat) (ad : Nat → Nat) (cA : Nat → ClassId) (adK adV : Nat → Nat) (sz : Nat) (σ : gs) (hI : InvX σ) (a0 : Nat) (ha0 : kX a0 = 0) : MetD lw_cs l yX7_readFirst wsX7_readFirst ({ frames := 5, cells := 0, slots := 0, locals := 107 }) (va_Pc [.ref (ad 1), .ref (ad a0)] (gPre adK adV (dC, dI) (wX ad cA σ) (tX cA) sz)) (va_Qi (fun (r : Int32) (τ : gs) => InvX τ ∧ gFr [0, 6, 9] σ τ ∧ (r = 0 ∨ r = 1)) (fun τ t => gPost (dC, dI) (va_A (wX ad cA σ) sz) (wX ad cA τ) t) (va_A (wX ad cA σ) sz)) 0 0 (va_A (wX ad cA σ) sz) := by
  refine MetD.ofW (cc := cX7_readFirst) (maxL := 5) (ret := (some .boolean)) (by decide) rfl ?_
  intro p e s m args below meth c s₁ B hml hv hd0
  obtain ⟨rfl, hsz, hP, hK, hD0, hT⟩ := hv
  have hx := B.exec
  have hb := B.bytes
  have hr := B.returns
  have hts0 := atoms_spec (ws := wsX7_readFirst) B.pre
  have hK0 := hK
  have hown0 : s.vm.findClass RX7 = some m.cls := findClass_of_methodNamed B.named
  have hlocks := B.notSynchronized
  have hinX7 : ∀ w ∈ u_ws RX7 TX7 5, w ∈ wsX7_readFirst := (fun _ h9 => List.mem_cons_of_mem _ (List.mem_append_left _ (List.mem_append_left _ (List.mem_append_right _ h9))))
  have hinX0 : ∀ w ∈ u_ws RX0 TX0 16, w ∈ wsX7_readFirst := (fun _ h9 => List.mem_cons_of_mem _ (List.mem_append_left _ (List.mem_append_right _ h9)))
  subst hsz
  have hD := hD0.self (sz := s.heap.size)
  generalize hAe : va_A (wX ad cA σ) s.heap.size = A at hD hT ⊢
  have hA : ∀ q : Nat, s.heap.size ≤ q → A q := fun q h => by rw [← hAe]; exact Or.inr h
  have hS : va_S A s.heap s.heap [] := va_S.rf
  have hl := lv_entry ([.ref (ad 1), .ref (ad a0)]) (n := 5) (Nat.le_of_ble_eq_true rfl)
  rw [lg_entry_eq]
  generalize (lg_sl ([.ref (ad 1), .ref (ad a0)]) ++ List.replicate (5 - (lg_sl ([.ref (ad 1), .ref (ad a0)])).length) Slot.unset).toArray = ls at hl ⊢
  have hl : lv_has ls 5 [(0, .ref (ad 1)), (1, .ref (ad a0))] := hl
  have hts := dr_words hts0 (s.drawn)
  have hK := gKd hK0 (s.drawn)
  have hown : (s.setDrawn (s.drawn)).vm.findClass RX7 = some m.cls := hown0
  refine lv_aload_n hx hb dX7_readFirst_0 rfl (lv_at hl 0 rfl) ?_
  refine va_get (D := (dC, dI)) (ci := 6) (v := .ref (ad 2)) (C := RX7) (T := TX7) (N := 5) hx hb hts hinX7 hown hK hP 1 (at_6 rfl) rfl 0 (by decide) (hts (.fieldLink RX7 12 "BondCalendars$Reader" "tape" "LBondCalendars$Tape;") (by decide +kernel)) (fun _ h9 => h9) rfl dX7_readFirst_1 ?_
  refine va_ldcS (tx := "first") (q := (adK 34)) hx hb hown (vk_R.same rfl hT.2.1.2.2.2.2.2.2.2.2.2.2.2.2.2.2.2.2.2.2.2.2.2.2.2.2.2.2.2.2.2.2.2.2.2.2.1) dX7_readFirst_4 ?_
  have hF := gFree hD hS hA
  refine va_calliD hd0 (va_runV_D (As := [.ref (adK 34)]) (rest := []) ⟨hx, hb, hml, hown, hts⟩ (n_X10_isWord l dC dI ad cA adK adV s.heap.size σ hI 34 (by decide)) (cwV 1 hts gX7_readFirst_X10_isWord rfl rfl rfl (by decide +kernel) ⟨Nat.le_of_ble_eq_true rfl, Nat.le_of_ble_eq_true rfl⟩) ⟨gBlind, va_recv hK hP (ci := 9) (q0 := 2) rfl (at_9 rfl), gStart (As := [.ref (ad 2), .ref (adK 34)]) hP hD hK0 hT hS hF (s.drawn)⟩ rfl rfl hl.1 rfl (lv_room (Nat.le_of_ble_eq_true rfl)) dX7_readFirst_6 ⟨Nat.le_of_ble_eq_true rfl, Nat.le_of_ble_eq_true rfl⟩) hS (fun q _ h => hF q h) hF (fun r_1 σ1 t H locs ht hvm hw hB hz1 hk1 hS d_2 hd0 => ?_)
  have hts := dr_words hts0 (d_2)
  have hK := gKd hK0 (d_2)
  have hown : (s.setDrawn (d_2)).vm.findClass RX7 = some m.cls := hown0
  obtain ⟨hP, hD⟩ := gBack hF ht hB
  obtain ⟨hIσ1, hro, hp_3⟩ := hw
  subst hro
  refine lv_if_ne (tgt := 14) hx hb dX7_readFirst_9 (by decide) (fun c_4 => ?_) (fun c_4 => ?_)
  · refine lv_aload_n hx hb dX7_readFirst_14 rfl (lv_at hl 0 rfl) ?_
    refine va_get (D := (dC, dI)) (ci := 6) (v := .ref (ad 2)) (C := RX7) (T := TX7) (N := 5) hx hb hts hinX7 hown hK hP 1 (at_6 rfl) rfl 0 (by decide) (hts (.fieldLink RX7 12 "BondCalendars$Reader" "tape" "LBondCalendars$Tape;") (by decide +kernel)) (fun _ h9 => h9) rfl dX7_readFirst_15 ?_
    have hF := gFree hD hS hA
    refine va_callvD hd0 (va_runV_D (As := []) (rest := []) ⟨hx, hb, hml, hown, hts⟩ (n_X10_advance l dC dI ad cA adK adV H.size σ hI ) (cwV 0 hts gX7_readFirst_X10_advance rfl rfl rfl (by decide +kernel) ⟨Nat.le_of_ble_eq_true rfl, Nat.le_of_ble_eq_true rfl⟩) ⟨gBlind, va_recv hK hP (ci := 9) (q0 := 2) rfl (at_9 rfl), gStart (As := [.ref (ad 2)]) hP hD hK0 hT hS hF (d_2)⟩ rfl rfl hl.1 rfl (lv_room (Nat.le_of_ble_eq_true rfl)) dX7_readFirst_18 ⟨Nat.le_of_ble_eq_true rfl, Nat.le_of_ble_eq_true rfl⟩) hS (fun q _ h => hF q h) hF (fun σ2 t H locs ht hvm hw hB hz1 hk1 hS d_6 hd0 => ?_)
    have hts := dr_words hts0 (d_6)
    have hK := gKd hK0 (d_6)
    have hown : (s.setDrawn (d_6)).vm.findClass RX7 = some m.cls := hown0
    obtain ⟨hP, hD⟩ := gBack hF ht hB
    obtain ⟨hIσ2, fcσ2, hp_7⟩ := hw
    refine lv_aload_n hx hb dX7_readFirst_21 rfl (lv_at hl 0 rfl) ?_
    have hF := gFree hD hS hA
    refine va_calliD hd0 (va_runV_D (As := []) (rest := []) ⟨hx, hb, hml, hown, hts⟩ (n_X7_takeDate l dC dI ad cA adK adV H.size σ2 hIσ2 ) (cwV 0 hts gX7_readFirst_X7_takeDate rfl rfl rfl (by decide +kernel) ⟨Nat.le_of_ble_eq_true rfl, Nat.le_of_ble_eq_true rfl⟩) ⟨gBlind, va_recv hK hP (ci := 6) (q0 := 1) rfl (at_6 rfl), gStart (As := [.ref (ad 1)]) hP hD hK0 hT hS hF (d_6)⟩ rfl rfl hl.1 rfl (lv_room (Nat.le_of_ble_eq_true rfl)) dX7_readFirst_22 ⟨Nat.le_of_ble_eq_true rfl, Nat.le_of_ble_eq_true rfl⟩) hS (fun q _ h => hF q h) hF (fun r_8 σ3 t H locs ht hvm hw hB hz1 hk1 hS d_9 hd0 => ?_)
    have hts := dr_words hts0 (d_9)
    have hK := gKd hK0 (d_9)
    have hown : (s.setDrawn (d_9)).vm.findClass RX7 = some m.cls := hown0
    obtain ⟨hP, hD⟩ := gBack hF ht hB
    obtain ⟨hIσ3, fcσ3, hp_10⟩ := hw
    refine lv_istore_n (lv' := [(2, .int r_8), (0, .ref (ad 1)), (1, .ref (ad a0))]) hx hb dX7_readFirst_25 rfl hl (by decide) rfl (fun ls hl => ?_)
    refine lv_iload_n hx hb dX7_readFirst_26 rfl (lv_at hl 0 rfl) ?_
    refine lv_iconst (v := (-1)) hx hb dX7_readFirst_27 (by decide) ?_
    refine lv_icmp_ne (tgt := 33) hx hb dX7_readFirst_28 (by decide) (fun c_11 => ?_) (fun c_11 => ?_)
    · refine lv_aload_n hx hb dX7_readFirst_33 rfl (lv_at hl 2 rfl) ?_
      refine lv_iload_n hx hb dX7_readFirst_34 rfl (lv_at hl 0 rfl) ?_
      have hF := gFree hD hS hA
      refine va_calliD hd0 (va_runV_D (As := [.int r_8]) (rest := []) ⟨hx, hb, hml, hown, hts⟩ (n_X0_gridPlaceOf l dC dI ad cA adK adV H.size σ3 hIσ3 a0 ha0 r_8) (cwV 1 hts gX7_readFirst_X0_gridPlaceOf rfl rfl rfl (by decide +kernel) ⟨Nat.le_of_ble_eq_true rfl, Nat.le_of_ble_eq_true rfl⟩) ⟨gBlind, va_recv hK hP (ci := 0) (q0 := a0) rfl (at_0 ha0), gStart (As := [.ref (ad a0), .int r_8]) hP hD hK0 hT hS hF (d_9)⟩ rfl rfl hl.1 rfl (lv_room (Nat.le_of_ble_eq_true rfl)) dX7_readFirst_35 ⟨Nat.le_of_ble_eq_true rfl, Nat.le_of_ble_eq_true rfl⟩) hS (fun q _ h => hF q h) hF (fun r_12 σ4 t H locs ht hvm hw hB hz1 hk1 hS d_13 hd0 => ?_)
      have hts := dr_words hts0 (d_13)
      have hK := gKd hK0 (d_13)
      have hown : (s.setDrawn (d_13)).vm.findClass RX7 = some m.cls := hown0
      obtain ⟨hP, hD⟩ := gBack hF ht hB
      obtain ⟨hIσ4, hro, hp_14⟩ := hw
      subst hro
      refine lv_istore_n (lv' := [(3, .int r_12), (2, .int r_8), (0, .ref (ad 1)), (1, .ref (ad a0))]) hx hb dX7_readFirst_38 rfl hl (by decide) rfl (fun ls hl => ?_)
      refine lv_iload_n hx hb dX7_readFirst_39 rfl (lv_at hl 0 rfl) ?_
      refine lv_iconst (v := 3) hx hb dX7_readFirst_40 (by decide) ?_
      refine lv_icmp_lt (tgt := 67) hx hb dX7_readFirst_41 (by decide) (fun c_15 => ?_) (fun c_15 => ?_)
      · refine lv_iconst (v := 1) hx hb dX7_readFirst_67 (by decide) ?_
        refine lv_goto (tgt := 72) hx hb dX7_readFirst_68 (by decide) ?_
        refine lv_istore (lv' := [(4, .int 1), (3, .int r_12), (2, .int r_8), (0, .ref (ad 1)), (1, .ref (ad a0))]) hx hb dX7_readFirst_72 hl (by decide) rfl (fun ls hl => ?_)
        refine lv_aload_n hx hb dX7_readFirst_74 rfl (lv_at hl 4 rfl) ?_
        refine lv_iload_n hx hb dX7_readFirst_75 rfl (lv_at hl 1 rfl) ?_
        refine va_put (D := (dC, dI)) (ci := 0) (v := .int r_12) (C := RX0) (T := TX0) (N := 16) hx hb hts hinX0 tyX0 tyX0_ok nmX0 hown hK hP hD hS a0 (at_0 ha0) rfl 8 (by decide) (hts (.fieldLink RX7 215 "BondCalendars$Bond" "firstAt" "I") (by decide +kernel)) (fun _ h9 => h9) rfl (ty := .int) (by decide +kernel) rfl rfl (Nat.le_of_ble_eq_true rfl) dX7_readFirst_76 (fun H locs hP hD hS => ?_)
        obtain ⟨σ5, eσ5, hP, hD⟩ := gPut (se_0_8 ha0) hP hD
        have hIσ5 : InvX σ5 := by rw [eσ5]; exact inv_I hIσ3 (ok_0_8 ha0 _)
        have frσ5 : gFr [0, 6, 9] σ σ5 := by rw [eσ5]; exact gFr.pI (gFr.tr (gFr.tr (gFr.rfl (L := [0, 6, 9]) (σ := σ)) fcσ2 (by decide)) fcσ3 (by decide)) ha0 (by decide)
        refine lv_iload hx hb dX7_readFirst_79 (lv_at hl 0 rfl) ?_
        refine lv_if_eq (tgt := 96) hx hb dX7_readFirst_81 (by decide) (fun c_16 => ?_) (fun c_16 => ?_)
        · exact absurd c_16 (by decide)
        · refine lv_aload_n hx hb dX7_readFirst_84 rfl (lv_at hl 3 rfl) ?_
          refine lv_iconst (v := 4) hx hb dX7_readFirst_85 (by decide) ?_
          refine lv_aload_n hx hb dX7_readFirst_86 rfl (lv_at hl 3 rfl) ?_
          refine va_get (D := (dC, dI)) (ci := 6) (v := .int ((σ3 1).1 4)) (C := RX7) (T := TX7) (N := 5) hx hb hts hinX7 hown hK hP 1 (at_6 rfl) rfl 4 (by decide) (hts (.fieldLink RX7 29 "BondCalendars$Reader" "wholeAt" "I") (by decide +kernel)) (fun _ h9 => h9) (congrArg (fun z => some (Value.int z)) (show (σ5 1).1 4 = ((σ3 1).1 4) from by rw [eσ5, gI_ne _ _ _ (kne rfl ha0 (by decide))])) dX7_readFirst_87 ?_
          have hF := gFree hD hS hA
          refine va_calliD hd0 (va_runV_D (As := [.int 4, .int ((σ3 1).1 4)]) (rest := []) ⟨hx, hb, hml, hown, hts⟩ (n_X7_fail l dC dI ad cA adK adV H.size σ5 hIσ5 4 ((σ3 1).1 4)) (cwV 2 hts gX7_readFirst_X7_fail rfl rfl rfl (by decide +kernel) ⟨Nat.le_of_ble_eq_true rfl, Nat.le_of_ble_eq_true rfl⟩) ⟨gBlind, va_recv hK hP (ci := 6) (q0 := 1) rfl (at_6 rfl), gStart (As := [.ref (ad 1), .int 4, .int ((σ3 1).1 4)]) hP hD hK0 hT hS hF (d_13)⟩ rfl rfl hl.1 rfl (lv_room (Nat.le_of_ble_eq_true rfl)) dX7_readFirst_90 ⟨Nat.le_of_ble_eq_true rfl, Nat.le_of_ble_eq_true rfl⟩) hS (fun q _ h => hF q h) hF (fun r_17 σ6 t H locs ht hvm hw hB hz1 hk1 hS d_18 hd0 => ?_)
          have hts := dr_words hts0 (d_18)
          have hK := gKd hK0 (d_18)
          have hown : (s.setDrawn (d_18)).vm.findClass RX7 = some m.cls := hown0
          obtain ⟨hP, hD⟩ := gBack hF ht hB
          obtain ⟨hIσ6, fcσ6, hp_19⟩ := hw
          refine lv_if_eq (tgt := 100) hx hb dX7_readFirst_93 (by decide) (fun c_20 => ?_) (fun c_20 => ?_)
          · refine lv_iconst (v := 0) hx hb dX7_readFirst_100 (by decide) ?_
            refine W.endD hd0 ?_
            exact W.zret (v := 0) hx hb hr (by decide) (fun t ht hW => ⟨⟨0, σ6, rfl, ⟨hIσ6, (gFr.tr frσ5 fcσ6 (by decide)), Or.inl rfl⟩, ⟨by rw [ht]; exact hP, hD⟩⟩, hS.F ht⟩) hS.2.2 dX7_readFirst_101
          · refine lv_iconst (v := 1) hx hb dX7_readFirst_96 (by decide) ?_
            refine lv_goto (tgt := 101) hx hb dX7_readFirst_97 (by decide) ?_
            refine W.endD hd0 ?_
            exact W.zret (v := 1) hx hb hr (by decide) (fun t ht hW => ⟨⟨1, σ6, rfl, ⟨hIσ6, (gFr.tr frσ5 fcσ6 (by decide)), Or.inr rfl⟩, ⟨by rw [ht]; exact hP, hD⟩⟩, hS.F ht⟩) hS.2.2 dX7_readFirst_101
      · refine lv_iload_n hx hb dX7_readFirst_44 rfl (lv_at hl 1 rfl) ?_
        refine lv_aload_n hx hb dX7_readFirst_45 rfl (lv_at hl 3 rfl) ?_
        refine va_get (D := (dC, dI)) (ci := 0) (v := .int ((σ a0).1 6)) (C := RX0) (T := TX0) (N := 16) hx hb hts hinX0 hown hK hP a0 (at_0 ha0) rfl 6 (by decide) (hts (.fieldLink RX7 206 "BondCalendars$Bond" "issueDay" "I") (by decide +kernel)) (fun _ h9 => h9) (congrArg (fun z => some (Value.int z)) (show (σ3 a0).1 6 = ((σ a0).1 6) from by rw [fcσ3 a0 (by rw [ha0]; decide), fcσ2 a0 (by rw [ha0]; decide)])) dX7_readFirst_46 ?_
        refine lv_icmp_le (tgt := 67) hx hb dX7_readFirst_49 (by decide) (fun c_21 => ?_) (fun c_21 => ?_)
        · refine lv_iconst (v := 1) hx hb dX7_readFirst_67 (by decide) ?_
          refine lv_goto (tgt := 72) hx hb dX7_readFirst_68 (by decide) ?_
          refine lv_istore (lv' := [(4, .int 1), (3, .int r_12), (2, .int r_8), (0, .ref (ad 1)), (1, .ref (ad a0))]) hx hb dX7_readFirst_72 hl (by decide) rfl (fun ls hl => ?_)
          refine lv_aload_n hx hb dX7_readFirst_74 rfl (lv_at hl 4 rfl) ?_
          refine lv_iload_n hx hb dX7_readFirst_75 rfl (lv_at hl 1 rfl) ?_
          refine va_put (D := (dC, dI)) (ci := 0) (v := .int r_12) (C := RX0) (T := TX0) (N := 16) hx hb hts hinX0 tyX0 tyX0_ok nmX0 hown hK hP hD hS a0 (at_0 ha0) rfl 8 (by decide) (hts (.fieldLink RX7 215 "BondCalendars$Bond" "firstAt" "I") (by decide +kernel)) (fun _ h9 => h9) rfl (ty := .int) (by decide +kernel) rfl rfl (Nat.le_of_ble_eq_true rfl) dX7_readFirst_76 (fun H locs hP hD hS => ?_)
          obtain ⟨σ7, eσ7, hP, hD⟩ := gPut (se_0_8 ha0) hP hD
          have hIσ7 : InvX σ7 := by rw [eσ7]; exact inv_I hIσ3 (ok_0_8 ha0 _)
          have frσ7 : gFr [0, 6, 9] σ σ7 := by rw [eσ7]; exact gFr.pI (gFr.tr (gFr.tr (gFr.rfl (L := [0, 6, 9]) (σ := σ)) fcσ2 (by decide)) fcσ3 (by decide)) ha0 (by decide)
          refine lv_iload hx hb dX7_readFirst_79 (lv_at hl 0 rfl) ?_
          refine lv_if_eq (tgt := 96) hx hb dX7_readFirst_81 (by decide) (fun c_22 => ?_) (fun c_22 => ?_)
          · exact absurd c_22 (by decide)
          · refine lv_aload_n hx hb dX7_readFirst_84 rfl (lv_at hl 3 rfl) ?_
            refine lv_iconst (v := 4) hx hb dX7_readFirst_85 (by decide) ?_
            refine lv_aload_n hx hb dX7_readFirst_86 rfl (lv_at hl 3 rfl) ?_
            refine va_get (D := (dC, dI)) (ci := 6) (v := .int ((σ3 1).1 4)) (C := RX7) (T := TX7) (N := 5) hx hb hts hinX7 hown hK hP 1 (at_6 rfl) rfl 4 (by decide) (hts (.fieldLink RX7 29 "BondCalendars$Reader" "wholeAt" "I") (by decide +kernel)) (fun _ h9 => h9) (congrArg (fun z => some (Value.int z)) (show (σ7 1).1 4 = ((σ3 1).1 4) from by rw [eσ7, gI_ne _ _ _ (kne rfl ha0 (by decide))])) dX7_readFirst_87 ?_
            have hF := gFree hD hS hA
            refine va_calliD hd0 (va_runV_D (As := [.int 4, .int ((σ3 1).1 4)]) (rest := []) ⟨hx, hb, hml, hown, hts⟩ (n_X7_fail l dC dI ad cA adK adV H.size σ7 hIσ7 4 ((σ3 1).1 4)) (cwV 2 hts gX7_readFirst_X7_fail rfl rfl rfl (by decide +kernel) ⟨Nat.le_of_ble_eq_true rfl, Nat.le_of_ble_eq_true rfl⟩) ⟨gBlind, va_recv hK hP (ci := 6) (q0 := 1) rfl (at_6 rfl), gStart (As := [.ref (ad 1), .int 4, .int ((σ3 1).1 4)]) hP hD hK0 hT hS hF (d_13)⟩ rfl rfl hl.1 rfl (lv_room (Nat.le_of_ble_eq_true rfl)) dX7_readFirst_90 ⟨Nat.le_of_ble_eq_true rfl, Nat.le_of_ble_eq_true rfl⟩) hS (fun q _ h => hF q h) hF (fun r_23 σ8 t H locs ht hvm hw hB hz1 hk1 hS d_24 hd0 => ?_)
            have hts := dr_words hts0 (d_24)
            have hK := gKd hK0 (d_24)
            have hown : (s.setDrawn (d_24)).vm.findClass RX7 = some m.cls := hown0
            obtain ⟨hP, hD⟩ := gBack hF ht hB
            obtain ⟨hIσ8, fcσ8, hp_25⟩ := hw
            refine lv_if_eq (tgt := 100) hx hb dX7_readFirst_93 (by decide) (fun c_26 => ?_) (fun c_26 => ?_)
            · refine lv_iconst (v := 0) hx hb dX7_readFirst_100 (by decide) ?_
              refine W.endD hd0 ?_
              exact W.zret (v := 0) hx hb hr (by decide) (fun t ht hW => ⟨⟨0, σ8, rfl, ⟨hIσ8, (gFr.tr frσ7 fcσ8 (by decide)), Or.inl rfl⟩, ⟨by rw [ht]; exact hP, hD⟩⟩, hS.F ht⟩) hS.2.2 dX7_readFirst_101
            · refine lv_iconst (v := 1) hx hb dX7_readFirst_96 (by decide) ?_
              refine lv_goto (tgt := 101) hx hb dX7_readFirst_97 (by decide) ?_
              refine W.endD hd0 ?_
              exact W.zret (v := 1) hx hb hr (by decide) (fun t ht hW => ⟨⟨1, σ8, rfl, ⟨hIσ8, (gFr.tr frσ7 fcσ8 (by decide)), Or.inr rfl⟩, ⟨by rw [ht]; exact hP, hD⟩⟩, hS.F ht⟩) hS.2.2 dX7_readFirst_101
        · refine lv_aload_n hx hb dX7_readFirst_52 rfl (lv_at hl 3 rfl) ?_
          refine va_get (D := (dC, dI)) (ci := 0) (v := .ref (ad (a0 + 1))) (C := RX0) (T := TX0) (N := 16) hx hb hts hinX0 hown hK hP a0 (at_0 ha0) rfl 10 (by decide) (hts (.fieldLink RX7 223 "BondCalendars$Bond" "gridDays" "[I") (by decide +kernel)) (fun _ h9 => h9) rfl dX7_readFirst_53 ?_
          refine lv_iload_n hx hb dX7_readFirst_56 rfl (lv_at hl 0 rfl) ?_
          refine lv_iconst (v := 3) hx hb dX7_readFirst_57 (by decide) ?_
          refine lv_isub hx hb dX7_readFirst_58 ?_
          refine lv_topi (fun x_27 ex_27 => ?_)
          refine va_iald hx hb hK hP ((a0 + 1)) ((a0 + 1)) (at_27 (kk_0_1 ha0)) (ty_27 (kk_0_1 ha0)) (gin (N := 94) (by decide) (sub_k (k := 3) (by decide) (Int32.not_lt.mp c_15) ex_27).1 (Int32.lt_trans (Int32.lt_of_lt_of_le (sub_k (k := 3) (by decide) (Int32.not_lt.mp c_15) ex_27).2 hp_14) (show (90 : Int32) < 94 by decide))) dX7_readFirst_59 ?_
          refine lv_topi (fun x_28 _ => ?_)
          refine lv_aload_n hx hb dX7_readFirst_60 rfl (lv_at hl 3 rfl) ?_
          refine va_get (D := (dC, dI)) (ci := 0) (v := .int ((σ a0).1 6)) (C := RX0) (T := TX0) (N := 16) hx hb hts hinX0 hown hK hP a0 (at_0 ha0) rfl 6 (by decide) (hts (.fieldLink RX7 206 "BondCalendars$Bond" "issueDay" "I") (by decide +kernel)) (fun _ h9 => h9) (congrArg (fun z => some (Value.int z)) (show (σ3 a0).1 6 = ((σ a0).1 6) from by rw [fcσ3 a0 (by rw [ha0]; decide), fcσ2 a0 (by rw [ha0]; decide)])) dX7_readFirst_61 ?_
          refine lv_icmp_le (tgt := 71) hx hb dX7_readFirst_64 (by decide) (fun c_29 => ?_) (fun c_29 => ?_)
          · refine lv_iconst (v := 0) hx hb dX7_readFirst_71 (by decide) ?_
            refine lv_istore (lv' := [(4, .int 0), (3, .int r_12), (2, .int r_8), (0, .ref (ad 1)), (1, .ref (ad a0))]) hx hb dX7_readFirst_72 hl (by decide) rfl (fun ls hl => ?_)
            refine lv_aload_n hx hb dX7_readFirst_74 rfl (lv_at hl 4 rfl) ?_
            refine lv_iload_n hx hb dX7_readFirst_75 rfl (lv_at hl 1 rfl) ?_
            refine va_put (D := (dC, dI)) (ci := 0) (v := .int r_12) (C := RX0) (T := TX0) (N := 16) hx hb hts hinX0 tyX0 tyX0_ok nmX0 hown hK hP hD hS a0 (at_0 ha0) rfl 8 (by decide) (hts (.fieldLink RX7 215 "BondCalendars$Bond" "firstAt" "I") (by decide +kernel)) (fun _ h9 => h9) rfl (ty := .int) (by decide +kernel) rfl rfl (Nat.le_of_ble_eq_true rfl) dX7_readFirst_76 (fun H locs hP hD hS => ?_)
            obtain ⟨σ9, eσ9, hP, hD⟩ := gPut (se_0_8 ha0) hP hD
            have hIσ9 : InvX σ9 := by rw [eσ9]; exact inv_I hIσ3 (ok_0_8 ha0 _)
            have frσ9 : gFr [0, 6, 9] σ σ9 := by rw [eσ9]; exact gFr.pI (gFr.tr (gFr.tr (gFr.rfl (L := [0, 6, 9]) (σ := σ)) fcσ2 (by decide)) fcσ3 (by decide)) ha0 (by decide)
            refine lv_iload hx hb dX7_readFirst_79 (lv_at hl 0 rfl) ?_
            refine lv_if_eq (tgt := 96) hx hb dX7_readFirst_81 (by decide) (fun c_30 => ?_) (fun c_30 => ?_)
            · refine lv_iconst (v := 1) hx hb dX7_readFirst_96 (by decide) ?_
              refine lv_goto (tgt := 101) hx hb dX7_readFirst_97 (by decide) ?_
              refine W.endD hd0 ?_
              exact W.zret (v := 1) hx hb hr (by decide) (fun t ht hW => ⟨⟨1, σ9, rfl, ⟨hIσ9, frσ9, Or.inr rfl⟩, ⟨by rw [ht]; exact hP, hD⟩⟩, hS.F ht⟩) hS.2.2 dX7_readFirst_101
            · exact absurd (by decide) c_30
          · refine lv_iconst (v := 1) hx hb dX7_readFirst_67 (by decide) ?_
            refine lv_goto (tgt := 72) hx hb dX7_readFirst_68 (by decide) ?_
            refine lv_istore (lv' := [(4, .int 1), (3, .int r_12), (2, .int r_8), (0, .ref (ad 1)), (1, .ref (ad a0))]) hx hb dX7_readFirst_72 hl (by decide) rfl (fun ls hl => ?_)
            refine lv_aload_n hx hb dX7_readFirst_74 rfl (lv_at hl 4 rfl) ?_
            refine lv_iload_n hx hb dX7_readFirst_75 rfl (lv_at hl 1 rfl) ?_
            refine va_put (D := (dC, dI)) (ci := 0) (v := .int r_12) (C := RX0) (T := TX0) (N := 16) hx hb hts hinX0 tyX0 tyX0_ok nmX0 hown hK hP hD hS a0 (at_0 ha0) rfl 8 (by decide) (hts (.fieldLink RX7 215 "BondCalendars$Bond" "firstAt" "I") (by decide +kernel)) (fun _ h9 => h9) rfl (ty := .int) (by decide +kernel) rfl rfl (Nat.le_of_ble_eq_true rfl) dX7_readFirst_76 (fun H locs hP hD hS => ?_)
            obtain ⟨σ10, eσ10, hP, hD⟩ := gPut (se_0_8 ha0) hP hD
            have hIσ10 : InvX σ10 := by rw [eσ10]; exact inv_I hIσ3 (ok_0_8 ha0 _)
            have frσ10 : gFr [0, 6, 9] σ σ10 := by rw [eσ10]; exact gFr.pI (gFr.tr (gFr.tr (gFr.rfl (L := [0, 6, 9]) (σ := σ)) fcσ2 (by decide)) fcσ3 (by decide)) ha0 (by decide)
            refine lv_iload hx hb dX7_readFirst_79 (lv_at hl 0 rfl) ?_
            refine lv_if_eq (tgt := 96) hx hb dX7_readFirst_81 (by decide) (fun c_31 => ?_) (fun c_31 => ?_)
            · exact absurd c_31 (by decide)
            · refine lv_aload_n hx hb dX7_readFirst_84 rfl (lv_at hl 3 rfl) ?_
              refine lv_iconst (v := 4) hx hb dX7_readFirst_85 (by decide) ?_
              refine lv_aload_n hx hb dX7_readFirst_86 rfl (lv_at hl 3 rfl) ?_
              refine va_get (D := (dC, dI)) (ci := 6) (v := .int ((σ3 1).1 4)) (C := RX7) (T := TX7) (N := 5) hx hb hts hinX7 hown hK hP 1 (at_6 rfl) rfl 4 (by decide) (hts (.fieldLink RX7 29 "BondCalendars$Reader" "wholeAt" "I") (by decide +kernel)) (fun _ h9 => h9) (congrArg (fun z => some (Value.int z)) (show (σ10 1).1 4 = ((σ3 1).1 4) from by rw [eσ10, gI_ne _ _ _ (kne rfl ha0 (by decide))])) dX7_readFirst_87 ?_
              have hF := gFree hD hS hA
              refine va_calliD hd0 (va_runV_D (As := [.int 4, .int ((σ3 1).1 4)]) (rest := []) ⟨hx, hb, hml, hown, hts⟩ (n_X7_fail l dC dI ad cA adK adV H.size σ10 hIσ10 4 ((σ3 1).1 4)) (cwV 2 hts gX7_readFirst_X7_fail rfl rfl rfl (by decide +kernel) ⟨Nat.le_of_ble_eq_true rfl, Nat.le_of_ble_eq_true rfl⟩) ⟨gBlind, va_recv hK hP (ci := 6) (q0 := 1) rfl (at_6 rfl), gStart (As := [.ref (ad 1), .int 4, .int ((σ3 1).1 4)]) hP hD hK0 hT hS hF (d_13)⟩ rfl rfl hl.1 rfl (lv_room (Nat.le_of_ble_eq_true rfl)) dX7_readFirst_90 ⟨Nat.le_of_ble_eq_true rfl, Nat.le_of_ble_eq_true rfl⟩) hS (fun q _ h => hF q h) hF (fun r_32 σ11 t H locs ht hvm hw hB hz1 hk1 hS d_33 hd0 => ?_)
              have hts := dr_words hts0 (d_33)
              have hK := gKd hK0 (d_33)
              have hown : (s.setDrawn (d_33)).vm.findClass RX7 = some m.cls := hown0
              obtain ⟨hP, hD⟩ := gBack hF ht hB
              obtain ⟨hIσ11, fcσ11, hp_34⟩ := hw
              refine lv_if_eq (tgt := 100) hx hb dX7_readFirst_93 (by decide) (fun c_35 => ?_) (fun c_35 => ?_)
              · refine lv_iconst (v := 0) hx hb dX7_readFirst_100 (by decide) ?_
                refine W.endD hd0 ?_
                exact W.zret (v := 0) hx hb hr (by decide) (fun t ht hW => ⟨⟨0, σ11, rfl, ⟨hIσ11, (gFr.tr frσ10 fcσ11 (by decide)), Or.inl rfl⟩, ⟨by rw [ht]; exact hP, hD⟩⟩, hS.F ht⟩) hS.2.2 dX7_readFirst_101
              · refine lv_iconst (v := 1) hx hb dX7_readFirst_96 (by decide) ?_
                refine lv_goto (tgt := 101) hx hb dX7_readFirst_97 (by decide) ?_
                refine W.endD hd0 ?_
                exact W.zret (v := 1) hx hb hr (by decide) (fun t ht hW => ⟨⟨1, σ11, rfl, ⟨hIσ11, (gFr.tr frσ10 fcσ11 (by decide)), Or.inr rfl⟩, ⟨by rw [ht]; exact hP, hD⟩⟩, hS.F ht⟩) hS.2.2 dX7_readFirst_101
    · refine lv_iconst (v := 0) hx hb dX7_readFirst_31 (by decide) ?_
      refine W.endD hd0 ?_
      exact W.zret (v := 0) hx hb hr (by decide) (fun t ht hW => ⟨⟨0, σ3, rfl, ⟨hIσ3, (gFr.tr (gFr.tr (gFr.rfl (L := [0, 6, 9]) (σ := σ)) fcσ2 (by decide)) fcσ3 (by decide)), Or.inl rfl⟩, ⟨by rw [ht]; exact hP, hD⟩⟩, hS.F ht⟩) hS.2.2 dX7_readFirst_32
  · refine lv_iconst (v := 1) hx hb dX7_readFirst_12 (by decide) ?_
    refine W.endD hd0 ?_
    exact W.zret (v := 1) hx hb hr (by decide) (fun t ht hW => ⟨⟨1, σ, rfl, ⟨hI, (gFr.rfl (L := [0, 6, 9]) (σ := σ)), Or.inr rfl⟩, ⟨by rw [ht]; exact hP, hD⟩⟩, hS.F ht⟩) hS.2.2 dX7_readFirst_13
set_option maxHeartbeats 8000000 in
set_option maxRecDepth 100000 in
theorem n_X7_readEx (l : Launch) (dC : Nat → ClassId) (dI : Nat → Nat → Nat) (ad : Nat → Nat) (cA : Nat → ClassId) (adK adV : Nat → Nat) (sz : Nat) (σ : gs) (hI : InvX σ) (a0 : Nat) (ha0 : kX a0 = 0) : MetD lw_cs l yX7_readEx wsX7_readEx ({ frames := 5, cells := 0, slots := 0, locals := 107 }) (va_Pc [.ref (ad 1), .ref (ad a0)] (gPre adK adV (dC, dI) (wX ad cA σ) (tX cA) sz)) (va_Qi (fun (r : Int32) (τ : gs) => InvX τ ∧ gFr [0, 6, 9] σ τ ∧ (r = 0 ∨ r = 1)) (fun τ t => gPost (dC, dI) (va_A (wX ad cA σ) sz) (wX ad cA τ) t) (va_A (wX ad cA σ) sz)) 0 0 (va_A (wX ad cA σ) sz) := by
  refine MetD.ofW (cc := cX7_readEx) (maxL := 2) (ret := (some .boolean)) (by decide) rfl ?_
  intro p e s m args below meth c s₁ B hml hv hd0
  obtain ⟨rfl, hsz, hP, hK, hD0, hT⟩ := hv
  have hx := B.exec
  have hb := B.bytes
  have hr := B.returns
  have hts0 := atoms_spec (ws := wsX7_readEx) B.pre
  have hK0 := hK
  have hown0 : s.vm.findClass RX7 = some m.cls := findClass_of_methodNamed B.named
  have hlocks := B.notSynchronized
  have hinX0 : ∀ w ∈ u_ws RX0 TX0 16, w ∈ wsX7_readEx := (fun _ h9 => List.mem_cons_of_mem _ (List.mem_append_left _ (List.mem_append_left _ (List.mem_append_right _ h9))))
  have hinX7 : ∀ w ∈ u_ws RX7 TX7 5, w ∈ wsX7_readEx := (fun _ h9 => List.mem_cons_of_mem _ (List.mem_append_left _ (List.mem_append_right _ h9)))
  subst hsz
  have hD := hD0.self (sz := s.heap.size)
  generalize hAe : va_A (wX ad cA σ) s.heap.size = A at hD hT ⊢
  have hA : ∀ q : Nat, s.heap.size ≤ q → A q := fun q h => by rw [← hAe]; exact Or.inr h
  have hS : va_S A s.heap s.heap [] := va_S.rf
  have hl := lv_entry ([.ref (ad 1), .ref (ad a0)]) (n := 2) (Nat.le_of_ble_eq_true rfl)
  rw [lg_entry_eq]
  generalize (lg_sl ([.ref (ad 1), .ref (ad a0)]) ++ List.replicate (2 - (lg_sl ([.ref (ad 1), .ref (ad a0)])).length) Slot.unset).toArray = ls at hl ⊢
  have hl : lv_has ls 2 [(0, .ref (ad 1)), (1, .ref (ad a0))] := hl
  have hts := dr_words hts0 (s.drawn)
  have hK := gKd hK0 (s.drawn)
  have hown : (s.setDrawn (s.drawn)).vm.findClass RX7 = some m.cls := hown0
  refine lv_aload_n hx hb dX7_readEx_0 rfl (lv_at hl 1 rfl) ?_
  refine lv_iconst (v := 0) hx hb dX7_readEx_1 (by decide) ?_
  refine va_put (D := (dC, dI)) (ci := 0) (v := .int 0) (C := RX0) (T := TX0) (N := 16) hx hb hts hinX0 tyX0 tyX0_ok nmX0 hown hK hP hD hS a0 (at_0 ha0) rfl 7 (by decide) (hts (.fieldLink RX7 227 "BondCalendars$Bond" "exDays" "I") (by decide +kernel)) (fun _ h9 => h9) rfl (ty := .int) (by decide +kernel) rfl rfl (Nat.le_of_ble_eq_true rfl) dX7_readEx_2 (fun H locs hP hD hS => ?_)
  obtain ⟨σ1, eσ1, hP, hD⟩ := gPut (se_0_7 ha0) hP hD
  have hIσ1 : InvX σ1 := by rw [eσ1]; exact inv_I hI (ok_0_7 ha0 _)
  have frσ1 : gFr [0, 6, 9] σ σ1 := by rw [eσ1]; exact gFr.pI (gFr.rfl (L := [0, 6, 9]) (σ := σ)) ha0 (by decide)
  refine lv_aload_n hx hb dX7_readEx_5 rfl (lv_at hl 0 rfl) ?_
  refine va_get (D := (dC, dI)) (ci := 6) (v := .ref (ad 2)) (C := RX7) (T := TX7) (N := 5) hx hb hts hinX7 hown hK hP 1 (at_6 rfl) rfl 0 (by decide) (hts (.fieldLink RX7 12 "BondCalendars$Reader" "tape" "LBondCalendars$Tape;") (by decide +kernel)) (fun _ h9 => h9) rfl dX7_readEx_6 ?_
  refine va_ldcS (tx := "ex") (q := (adK 35)) hx hb hown (vk_R.same rfl hT.2.1.2.2.2.2.2.2.2.2.2.2.2.2.2.2.2.2.2.2.2.2.2.2.2.2.2.2.2.2.2.2.2.2.2.2.2) dX7_readEx_9 ?_
  have hF := gFree hD hS hA
  refine va_calliD hd0 (va_runV_D (As := [.ref (adK 35)]) (rest := []) ⟨hx, hb, hml, hown, hts⟩ (n_X10_isWord l dC dI ad cA adK adV H.size σ1 hIσ1 35 (by decide)) (cwV 1 hts gX7_readEx_X10_isWord rfl rfl rfl (by decide +kernel) ⟨Nat.le_of_ble_eq_true rfl, Nat.le_of_ble_eq_true rfl⟩) ⟨gBlind, va_recv hK hP (ci := 9) (q0 := 2) rfl (at_9 rfl), gStart (As := [.ref (ad 2), .ref (adK 35)]) hP hD hK0 hT hS hF (s.drawn)⟩ rfl rfl hl.1 rfl (lv_room (Nat.le_of_ble_eq_true rfl)) dX7_readEx_11 ⟨Nat.le_of_ble_eq_true rfl, Nat.le_of_ble_eq_true rfl⟩) hS (fun q _ h => hF q h) hF (fun r_1 σ2 t H locs ht hvm hw hB hz1 hk1 hS d_2 hd0 => ?_)
  have hts := dr_words hts0 (d_2)
  have hK := gKd hK0 (d_2)
  have hown : (s.setDrawn (d_2)).vm.findClass RX7 = some m.cls := hown0
  obtain ⟨hP, hD⟩ := gBack hF ht hB
  obtain ⟨hIσ2, hro, hp_3⟩ := hw
  subst hro
  refine lv_if_ne (tgt := 19) hx hb dX7_readEx_14 (by decide) (fun c_4 => ?_) (fun c_4 => ?_)
  · refine lv_aload_n hx hb dX7_readEx_19 rfl (lv_at hl 0 rfl) ?_
    refine va_get (D := (dC, dI)) (ci := 6) (v := .ref (ad 2)) (C := RX7) (T := TX7) (N := 5) hx hb hts hinX7 hown hK hP 1 (at_6 rfl) rfl 0 (by decide) (hts (.fieldLink RX7 12 "BondCalendars$Reader" "tape" "LBondCalendars$Tape;") (by decide +kernel)) (fun _ h9 => h9) rfl dX7_readEx_20 ?_
    have hF := gFree hD hS hA
    refine va_callvD hd0 (va_runV_D (As := []) (rest := []) ⟨hx, hb, hml, hown, hts⟩ (n_X10_advance l dC dI ad cA adK adV H.size σ1 hIσ1 ) (cwV 0 hts gX7_readEx_X10_advance rfl rfl rfl (by decide +kernel) ⟨Nat.le_of_ble_eq_true rfl, Nat.le_of_ble_eq_true rfl⟩) ⟨gBlind, va_recv hK hP (ci := 9) (q0 := 2) rfl (at_9 rfl), gStart (As := [.ref (ad 2)]) hP hD hK0 hT hS hF (d_2)⟩ rfl rfl hl.1 rfl (lv_room (Nat.le_of_ble_eq_true rfl)) dX7_readEx_23 ⟨Nat.le_of_ble_eq_true rfl, Nat.le_of_ble_eq_true rfl⟩) hS (fun q _ h => hF q h) hF (fun σ3 t H locs ht hvm hw hB hz1 hk1 hS d_6 hd0 => ?_)
    have hts := dr_words hts0 (d_6)
    have hK := gKd hK0 (d_6)
    have hown : (s.setDrawn (d_6)).vm.findClass RX7 = some m.cls := hown0
    obtain ⟨hP, hD⟩ := gBack hF ht hB
    obtain ⟨hIσ3, fcσ3, hp_7⟩ := hw
    refine lv_aload_n hx hb dX7_readEx_26 rfl (lv_at hl 1 rfl) ?_
    refine lv_aload_n hx hb dX7_readEx_27 rfl (lv_at hl 0 rfl) ?_
    refine lv_iconst (v := 0) hx hb dX7_readEx_28 (by decide) ?_
    refine lv_bipush (v := 10) hx hb dX7_readEx_29 (by decide) ?_
    have hF := gFree hD hS hA
    refine va_calliD hd0 (va_runV_D (As := [.int 0, .int 10]) (rest := [.ref (ad a0)]) ⟨hx, hb, hml, hown, hts⟩ (n_X7_takeWhole l dC dI ad cA adK adV H.size σ3 hIσ3 0 10) (cwV 2 hts gX7_readEx_X7_takeWhole rfl rfl rfl (by decide +kernel) ⟨Nat.le_of_ble_eq_true rfl, Nat.le_of_ble_eq_true rfl⟩) ⟨gBlind, va_recv hK hP (ci := 6) (q0 := 1) rfl (at_6 rfl), gStart (As := [.ref (ad 1), .int 0, .int 10]) hP hD hK0 hT hS hF (d_6)⟩ rfl rfl hl.1 rfl (lv_room (Nat.le_of_ble_eq_true rfl)) dX7_readEx_31 ⟨Nat.le_of_ble_eq_true rfl, Nat.le_of_ble_eq_true rfl⟩) hS (fun q _ h => hF q h) hF (fun r_8 σ4 t H locs ht hvm hw hB hz1 hk1 hS d_9 hd0 => ?_)
    have hts := dr_words hts0 (d_9)
    have hK := gKd hK0 (d_9)
    have hown : (s.setDrawn (d_9)).vm.findClass RX7 = some m.cls := hown0
    obtain ⟨hP, hD⟩ := gBack hF ht hB
    obtain ⟨hIσ4, fcσ4, hp_10⟩ := hw
    refine va_put (D := (dC, dI)) (ci := 0) (v := .int r_8) (C := RX0) (T := TX0) (N := 16) hx hb hts hinX0 tyX0 tyX0_ok nmX0 hown hK hP hD hS a0 (at_0 ha0) rfl 7 (by decide) (hts (.fieldLink RX7 227 "BondCalendars$Bond" "exDays" "I") (by decide +kernel)) (fun _ h9 => h9) rfl (ty := .int) (by decide +kernel) rfl rfl (Nat.le_of_ble_eq_true rfl) dX7_readEx_34 (fun H locs hP hD hS => ?_)
    obtain ⟨σ5, eσ5, hP, hD⟩ := gPut (se_0_7 ha0) hP hD
    have hIσ5 : InvX σ5 := by rw [eσ5]; exact inv_I hIσ4 (ok_0_7 ha0 _)
    have frσ5 : gFr [0, 6, 9] σ σ5 := by rw [eσ5]; exact gFr.pI (gFr.tr (gFr.tr frσ1 fcσ3 (by decide)) fcσ4 (by decide)) ha0 (by decide)
    refine lv_aload_n hx hb dX7_readEx_37 rfl (lv_at hl 1 rfl) ?_
    refine va_get (D := (dC, dI)) (ci := 0) (v := .int r_8) (C := RX0) (T := TX0) (N := 16) hx hb hts hinX0 hown hK hP a0 (at_0 ha0) rfl 7 (by decide) (hts (.fieldLink RX7 227 "BondCalendars$Bond" "exDays" "I") (by decide +kernel)) (fun _ h9 => h9) (congrArg (fun z => some (Value.int z)) (show (σ5 a0).1 7 = r_8 from by rw [eσ5, gI_self])) dX7_readEx_38 ?_
    refine lv_iconst (v := (-1)) hx hb dX7_readEx_41 (by decide) ?_
    refine lv_icmp_eq (tgt := 49) hx hb dX7_readEx_42 (by decide) (fun c_11 => ?_) (fun c_11 => ?_)
    · refine lv_iconst (v := 0) hx hb dX7_readEx_49 (by decide) ?_
      refine W.endD hd0 ?_
      exact W.zret (v := 0) hx hb hr (by decide) (fun t ht hW => ⟨⟨0, σ5, rfl, ⟨hIσ5, frσ5, Or.inl rfl⟩, ⟨by rw [ht]; exact hP, hD⟩⟩, hS.F ht⟩) hS.2.2 dX7_readEx_50
    · refine lv_iconst (v := 1) hx hb dX7_readEx_45 (by decide) ?_
      refine lv_goto (tgt := 50) hx hb dX7_readEx_46 (by decide) ?_
      refine W.endD hd0 ?_
      exact W.zret (v := 1) hx hb hr (by decide) (fun t ht hW => ⟨⟨1, σ5, rfl, ⟨hIσ5, frσ5, Or.inr rfl⟩, ⟨by rw [ht]; exact hP, hD⟩⟩, hS.F ht⟩) hS.2.2 dX7_readEx_50
  · refine lv_iconst (v := 1) hx hb dX7_readEx_17 (by decide) ?_
    refine W.endD hd0 ?_
    exact W.zret (v := 1) hx hb hr (by decide) (fun t ht hW => ⟨⟨1, σ1, rfl, ⟨hIσ1, frσ1, Or.inr rfl⟩, ⟨by rw [ht]; exact hP, hD⟩⟩, hS.F ht⟩) hS.2.2 dX7_readEx_18
set_option maxHeartbeats 8000000 in
set_option maxRecDepth 100000 in
theorem n_X7_readBond (l : Launch) (dC : Nat → ClassId) (dI : Nat → Nat → Nat) (ad : Nat → Nat) (cA : Nat → ClassId) (adK adV : Nat → Nat) (sz : Nat) (σ : gs) (hI : InvX σ) (a0 : Nat) (ha0 : kX a0 = 3) : MetD lw_cs l yX7_readBond wsX7_readBond ({ frames := 7, cells := 0, slots := 0, locals := 152 }) (va_Pc [.ref (ad 1), .ref (ad a0)] (gPre adK adV (dC, dI) (wX ad cA σ) (tX cA) sz)) (va_Qi (fun (r : Int32) (τ : gs) => InvX τ ∧ gFr [0, 3, 6, 9, 27] σ τ ∧ (r = 0 ∨ r = 1)) (fun τ t => gPost (dC, dI) (va_A (wX ad cA σ) sz) (wX ad cA τ) t) (va_A (wX ad cA σ) sz)) 0 0 (va_A (wX ad cA σ) sz) := by
  refine MetD.ofW (cc := cX7_readBond) (maxL := 4) (ret := (some .boolean)) (by decide) rfl ?_
  intro p e s m args below meth c s₁ B hml hv hd0
  obtain ⟨rfl, hsz, hP, hK, hD0, hT⟩ := hv
  have hx := B.exec
  have hb := B.bytes
  have hr := B.returns
  have hts0 := atoms_spec (ws := wsX7_readBond) B.pre
  have hK0 := hK
  have hown0 : s.vm.findClass RX7 = some m.cls := findClass_of_methodNamed B.named
  have hlocks := B.notSynchronized
  have hinX4 : ∀ w ∈ u_ws RX4 TX4 12, w ∈ wsX7_readBond := (fun _ h9 => List.mem_cons_of_mem _ (List.mem_append_left _ (List.mem_append_left _ (List.mem_append_left _ (List.mem_append_right _ h9)))))
  have hinX7 : ∀ w ∈ u_ws RX7 TX7 5, w ∈ wsX7_readBond := (fun _ h9 => List.mem_cons_of_mem _ (List.mem_append_left _ (List.mem_append_left _ (List.mem_append_right _ h9))))
  have hinX10 : ∀ w ∈ u_ws RX10 TX10 7, w ∈ wsX7_readBond := (fun _ h9 => List.mem_cons_of_mem _ (List.mem_append_left _ (List.mem_append_right _ h9)))
  subst hsz
  have hD := hD0.self (sz := s.heap.size)
  generalize hAe : va_A (wX ad cA σ) s.heap.size = A at hD hT ⊢
  have hA : ∀ q : Nat, s.heap.size ≤ q → A q := fun q h => by rw [← hAe]; exact Or.inr h
  have hS : va_S A s.heap s.heap [] := va_S.rf
  have hl := lv_entry ([.ref (ad 1), .ref (ad a0)]) (n := 4) (Nat.le_of_ble_eq_true rfl)
  rw [lg_entry_eq]
  generalize (lg_sl ([.ref (ad 1), .ref (ad a0)]) ++ List.replicate (4 - (lg_sl ([.ref (ad 1), .ref (ad a0)])).length) Slot.unset).toArray = ls at hl ⊢
  have hl : lv_has ls 4 [(0, .ref (ad 1)), (1, .ref (ad a0))] := hl
  have hts := dr_words hts0 (s.drawn)
  have hK := gKd hK0 (s.drawn)
  have hown : (s.setDrawn (s.drawn)).vm.findClass RX7 = some m.cls := hown0
  refine lv_aload_n hx hb dX7_readBond_0 rfl (lv_at hl 1 rfl) ?_
  refine va_get (D := (dC, dI)) (ci := 3) (v := .int ((σ a0).1 4)) (C := RX4) (T := TX4) (N := 12) hx hb hts hinX4 hown hK hP a0 (at_3 ha0) rfl 4 (by decide) (hts (.fieldLink RX7 124 "BondCalendars$Desk" "bondCount" "I") (by decide +kernel)) (fun _ h9 => h9) rfl dX7_readBond_1 ?_
  refine lv_istore_n (lv' := [(2, .int ((σ a0).1 4)), (0, .ref (ad 1)), (1, .ref (ad a0))]) hx hb dX7_readBond_4 rfl hl (by decide) rfl (fun ls hl => ?_)
  refine lv_iload_n hx hb dX7_readBond_5 rfl (lv_at hl 0 rfl) ?_
  refine lv_if_lt (tgt := 18) hx hb dX7_readBond_6 (by decide) (fun c_1 => ?_) (fun c_1 => ?_)
  · refine lv_aload_n hx hb dX7_readBond_18 rfl (lv_at hl 1 rfl) ?_
    refine lv_bipush (v := 6) hx hb dX7_readBond_19 (by decide) ?_
    refine lv_aload_n hx hb dX7_readBond_21 rfl (lv_at hl 1 rfl) ?_
    refine va_get (D := (dC, dI)) (ci := 6) (v := .ref (ad 2)) (C := RX7) (T := TX7) (N := 5) hx hb hts hinX7 hown hK hP 1 (at_6 rfl) rfl 0 (by decide) (hts (.fieldLink RX7 12 "BondCalendars$Reader" "tape" "LBondCalendars$Tape;") (by decide +kernel)) (fun _ h9 => h9) rfl dX7_readBond_22 ?_
    have bd_2 := rd_9_3 (c := 2) hI rfl
    refine va_get (D := (dC, dI)) (ci := 9) (v := .int ((σ 2).1 3)) (C := RX10) (T := TX10) (N := 7) hx hb hts hinX10 hown hK hP 2 (at_9 rfl) rfl 3 (by decide) (hts (.fieldLink RX7 52 "BondCalendars$Tape" "start" "I") (by decide +kernel)) (fun _ h9 => h9) rfl dX7_readBond_25 ?_
    have hF := gFree hD hS hA
    refine va_calliD hd0 (va_runV_D (As := [.int 6, .int ((σ 2).1 3)]) (rest := []) ⟨hx, hb, hml, hown, hts⟩ (n_X7_fail l dC dI ad cA adK adV s.heap.size σ hI 6 ((σ 2).1 3)) (cwV 2 hts gX7_readBond_X7_fail rfl rfl rfl (by decide +kernel) ⟨Nat.le_of_ble_eq_true rfl, Nat.le_of_ble_eq_true rfl⟩) ⟨gBlind, va_recv hK hP (ci := 6) (q0 := 1) rfl (at_6 rfl), gStart (As := [.ref (ad 1), .int 6, .int ((σ 2).1 3)]) hP hD hK0 hT hS hF (s.drawn)⟩ rfl rfl hl.1 rfl (lv_room (Nat.le_of_ble_eq_true rfl)) dX7_readBond_28 ⟨Nat.le_of_ble_eq_true rfl, Nat.le_of_ble_eq_true rfl⟩) hS (fun q _ h => hF q h) hF (fun r_3 σ1 t H locs ht hvm hw hB hz1 hk1 hS d_4 hd0 => ?_)
    have hts := dr_words hts0 (d_4)
    have hK := gKd hK0 (d_4)
    have hown : (s.setDrawn (d_4)).vm.findClass RX7 = some m.cls := hown0
    obtain ⟨hP, hD⟩ := gBack hF ht hB
    obtain ⟨hIσ1, fcσ1, hp_5⟩ := hw
    refine W.endD hd0 ?_
    exact W.zret (v := r_3) hx hb hr (by rcases hp_5 with h9 | h9 <;> rw [h9] <;> decide +kernel) (fun t ht hW => ⟨⟨r_3, σ1, rfl, ⟨hIσ1, (gFr.tr (gFr.rfl (L := [0, 3, 6, 9, 27]) (σ := σ)) fcσ1 (by decide)), hp_5⟩, ⟨by rw [ht]; exact hP, hD⟩⟩, hS.F ht⟩) hS.2.2 dX7_readBond_31
  · refine lv_iload_n hx hb dX7_readBond_9 rfl (lv_at hl 0 rfl) ?_
    refine lv_aload_n hx hb dX7_readBond_10 rfl (lv_at hl 2 rfl) ?_
    refine va_get (D := (dC, dI)) (ci := 3) (v := .ref (ad (a0 + 3))) (C := RX4) (T := TX4) (N := 12) hx hb hts hinX4 hown hK hP a0 (at_3 ha0) rfl 3 (by decide) (hts (.fieldLink RX7 127 "BondCalendars$Desk" "bonds" "[LBondCalendars$Bond;") (by decide +kernel)) (fun _ h9 => h9) rfl dX7_readBond_11 ?_
    refine va_alen (v := 4) hx hb hK hP ((a0 + 3)) ((a0 + 3)) (at_26 (kk_3_3 ha0)) (ty_26 (kk_3_3 ha0)) rfl dX7_readBond_14 ?_
    refine lv_icmp_lt (tgt := 32) hx hb dX7_readBond_15 (by decide) (fun c_6 => ?_) (fun c_6 => ?_)
    · refine lv_aload_n hx hb dX7_readBond_32 rfl (lv_at hl 1 rfl) ?_
      refine va_get (D := (dC, dI)) (ci := 6) (v := .ref (ad 2)) (C := RX7) (T := TX7) (N := 5) hx hb hts hinX7 hown hK hP 1 (at_6 rfl) rfl 0 (by decide) (hts (.fieldLink RX7 12 "BondCalendars$Reader" "tape" "LBondCalendars$Tape;") (by decide +kernel)) (fun _ h9 => h9) rfl dX7_readBond_33 ?_
      have hF := gFree hD hS hA
      refine va_callvD hd0 (va_runV_D (As := []) (rest := []) ⟨hx, hb, hml, hown, hts⟩ (n_X10_advance l dC dI ad cA adK adV s.heap.size σ hI ) (cwV 0 hts gX7_readBond_X10_advance rfl rfl rfl (by decide +kernel) ⟨Nat.le_of_ble_eq_true rfl, Nat.le_of_ble_eq_true rfl⟩) ⟨gBlind, va_recv hK hP (ci := 9) (q0 := 2) rfl (at_9 rfl), gStart (As := [.ref (ad 2)]) hP hD hK0 hT hS hF (s.drawn)⟩ rfl rfl hl.1 rfl (lv_room (Nat.le_of_ble_eq_true rfl)) dX7_readBond_36 ⟨Nat.le_of_ble_eq_true rfl, Nat.le_of_ble_eq_true rfl⟩) hS (fun q _ h => hF q h) hF (fun σ2 t H locs ht hvm hw hB hz1 hk1 hS d_8 hd0 => ?_)
      have hts := dr_words hts0 (d_8)
      have hK := gKd hK0 (d_8)
      have hown : (s.setDrawn (d_8)).vm.findClass RX7 = some m.cls := hown0
      obtain ⟨hP, hD⟩ := gBack hF ht hB
      obtain ⟨hIσ2, fcσ2, hp_9⟩ := hw
      refine lv_aload_n hx hb dX7_readBond_39 rfl (lv_at hl 2 rfl) ?_
      refine va_get (D := (dC, dI)) (ci := 3) (v := .ref (ad (a0 + 3))) (C := RX4) (T := TX4) (N := 12) hx hb hts hinX4 hown hK hP a0 (at_3 ha0) rfl 3 (by decide) (hts (.fieldLink RX7 127 "BondCalendars$Desk" "bonds" "[LBondCalendars$Bond;") (by decide +kernel)) (fun _ h9 => h9) rfl dX7_readBond_40 ?_
      refine lv_iload_n hx hb dX7_readBond_43 rfl (lv_at hl 0 rfl) ?_
      have hi_10 : vp_in ((σ a0).1 4) 4 := (gin (N := 4) (by decide) (Int32.not_lt.mp c_1) c_6)
      refine va_aldq hx hb hK hP ((a0 + 3)) ((a0 + 3)) (at_26 (kk_3_3 ha0)) (ty_26 (kk_3_3 ha0)) hi_10 dX7_readBond_44 ?_
      refine (fun h => (va_rd_26 (ad := ad) (c := (a0 + 3)) hi_10) ▸ h) ?_
      obtain ⟨c_11, hc_12, ecc_11⟩ : ∃ z, kX z = 0 ∧ (a0 + 3) + 1 + 7 * ((σ a0).1 4).toNatClampNeg = z := ⟨_, kr_26 (kk_3_3 ha0) (Nat.not_le.mp fun q => hi_10 (Or.inr q)), rfl⟩
      rw [ecc_11]
      refine lv_astore_n (lv' := [(3, .ref (ad c_11)), (2, .int ((σ a0).1 4)), (0, .ref (ad 1)), (1, .ref (ad a0))]) hx hb dX7_readBond_45 rfl hl (by decide) rfl (fun ls hl => ?_)
      refine lv_aload_n hx hb dX7_readBond_46 rfl (lv_at hl 2 rfl) ?_
      refine lv_aload_n hx hb dX7_readBond_47 rfl (lv_at hl 0 rfl) ?_
      have hF := gFree hD hS hA
      refine va_calliD hd0 (va_runV_D (As := [.ref (ad c_11)]) (rest := []) ⟨hx, hb, hml, hown, hts⟩ (n_X7_readRate l dC dI ad cA adK adV H.size σ2 hIσ2 c_11 hc_12) (cwV 1 hts gX7_readBond_X7_readRate rfl rfl rfl (by decide +kernel) ⟨Nat.le_of_ble_eq_true rfl, Nat.le_of_ble_eq_true rfl⟩) ⟨gBlind, va_recv hK hP (ci := 6) (q0 := 1) rfl (at_6 rfl), gStart (As := [.ref (ad 1), .ref (ad c_11)]) hP hD hK0 hT hS hF (d_8)⟩ rfl rfl hl.1 rfl (lv_room (Nat.le_of_ble_eq_true rfl)) dX7_readBond_48 ⟨Nat.le_of_ble_eq_true rfl, Nat.le_of_ble_eq_true rfl⟩) hS (fun q _ h => hF q h) hF (fun r_13 σ3 t H locs ht hvm hw hB hz1 hk1 hS d_14 hd0 => ?_)
      have hts := dr_words hts0 (d_14)
      have hK := gKd hK0 (d_14)
      have hown : (s.setDrawn (d_14)).vm.findClass RX7 = some m.cls := hown0
      obtain ⟨hP, hD⟩ := gBack hF ht hB
      obtain ⟨hIσ3, fcσ3, hp_15⟩ := hw
      refine lv_if_eq (tgt := 86) hx hb dX7_readBond_51 (by decide) (fun c_16 => ?_) (fun c_16 => ?_)
      · refine lv_iconst (v := 0) hx hb dX7_readBond_86 (by decide) ?_
        refine W.endD hd0 ?_
        exact W.zret (v := 0) hx hb hr (by decide) (fun t ht hW => ⟨⟨0, σ3, rfl, ⟨hIσ3, (gFr.tr (gFr.tr (gFr.rfl (L := [0, 3, 6, 9, 27]) (σ := σ)) fcσ2 (by decide)) fcσ3 (by decide)), Or.inl rfl⟩, ⟨by rw [ht]; exact hP, hD⟩⟩, hS.F ht⟩) hS.2.2 dX7_readBond_87
      · refine lv_aload_n hx hb dX7_readBond_54 rfl (lv_at hl 2 rfl) ?_
        refine lv_aload_n hx hb dX7_readBond_55 rfl (lv_at hl 0 rfl) ?_
        have hF := gFree hD hS hA
        refine va_calliD hd0 (va_runV_D (As := [.ref (ad c_11)]) (rest := []) ⟨hx, hb, hml, hown, hts⟩ (n_X7_readMature l dC dI ad cA adK adV H.size σ3 hIσ3 c_11 hc_12) (cwV 1 hts gX7_readBond_X7_readMature rfl rfl rfl (by decide +kernel) ⟨Nat.le_of_ble_eq_true rfl, Nat.le_of_ble_eq_true rfl⟩) ⟨gBlind, va_recv hK hP (ci := 6) (q0 := 1) rfl (at_6 rfl), gStart (As := [.ref (ad 1), .ref (ad c_11)]) hP hD hK0 hT hS hF (d_14)⟩ rfl rfl hl.1 rfl (lv_room (Nat.le_of_ble_eq_true rfl)) dX7_readBond_56 ⟨Nat.le_of_ble_eq_true rfl, Nat.le_of_ble_eq_true rfl⟩) hS (fun q _ h => hF q h) hF (fun r_17 σ4 t H locs ht hvm hw hB hz1 hk1 hS d_18 hd0 => ?_)
        have hts := dr_words hts0 (d_18)
        have hK := gKd hK0 (d_18)
        have hown : (s.setDrawn (d_18)).vm.findClass RX7 = some m.cls := hown0
        obtain ⟨hP, hD⟩ := gBack hF ht hB
        obtain ⟨hIσ4, fcσ4, hp_19⟩ := hw
        refine lv_if_eq (tgt := 86) hx hb dX7_readBond_59 (by decide) (fun c_20 => ?_) (fun c_20 => ?_)
        · refine lv_iconst (v := 0) hx hb dX7_readBond_86 (by decide) ?_
          refine W.endD hd0 ?_
          exact W.zret (v := 0) hx hb hr (by decide) (fun t ht hW => ⟨⟨0, σ4, rfl, ⟨hIσ4, (gFr.tr (gFr.tr (gFr.tr (gFr.rfl (L := [0, 3, 6, 9, 27]) (σ := σ)) fcσ2 (by decide)) fcσ3 (by decide)) fcσ4 (by decide)), Or.inl rfl⟩, ⟨by rw [ht]; exact hP, hD⟩⟩, hS.F ht⟩) hS.2.2 dX7_readBond_87
        · refine lv_aload_n hx hb dX7_readBond_62 rfl (lv_at hl 2 rfl) ?_
          refine lv_aload_n hx hb dX7_readBond_63 rfl (lv_at hl 0 rfl) ?_
          have hF := gFree hD hS hA
          refine va_calliD hd0 (va_runV_D (As := [.ref (ad c_11)]) (rest := []) ⟨hx, hb, hml, hown, hts⟩ (n_X7_readIssue l dC dI ad cA adK adV H.size σ4 hIσ4 c_11 hc_12) (cwV 1 hts gX7_readBond_X7_readIssue rfl rfl rfl (by decide +kernel) ⟨Nat.le_of_ble_eq_true rfl, Nat.le_of_ble_eq_true rfl⟩) ⟨gBlind, va_recv hK hP (ci := 6) (q0 := 1) rfl (at_6 rfl), gStart (As := [.ref (ad 1), .ref (ad c_11)]) hP hD hK0 hT hS hF (d_18)⟩ rfl rfl hl.1 rfl (lv_room (Nat.le_of_ble_eq_true rfl)) dX7_readBond_64 ⟨Nat.le_of_ble_eq_true rfl, Nat.le_of_ble_eq_true rfl⟩) hS (fun q _ h => hF q h) hF (fun r_21 σ5 t H locs ht hvm hw hB hz1 hk1 hS d_22 hd0 => ?_)
          have hts := dr_words hts0 (d_22)
          have hK := gKd hK0 (d_22)
          have hown : (s.setDrawn (d_22)).vm.findClass RX7 = some m.cls := hown0
          obtain ⟨hP, hD⟩ := gBack hF ht hB
          obtain ⟨hIσ5, fcσ5, hp_23⟩ := hw
          refine lv_if_eq (tgt := 86) hx hb dX7_readBond_67 (by decide) (fun c_24 => ?_) (fun c_24 => ?_)
          · refine lv_iconst (v := 0) hx hb dX7_readBond_86 (by decide) ?_
            refine W.endD hd0 ?_
            exact W.zret (v := 0) hx hb hr (by decide) (fun t ht hW => ⟨⟨0, σ5, rfl, ⟨hIσ5, (gFr.tr (gFr.tr (gFr.tr (gFr.tr (gFr.rfl (L := [0, 3, 6, 9, 27]) (σ := σ)) fcσ2 (by decide)) fcσ3 (by decide)) fcσ4 (by decide)) fcσ5 (by decide)), Or.inl rfl⟩, ⟨by rw [ht]; exact hP, hD⟩⟩, hS.F ht⟩) hS.2.2 dX7_readBond_87
          · refine lv_aload_n hx hb dX7_readBond_70 rfl (lv_at hl 2 rfl) ?_
            refine lv_aload_n hx hb dX7_readBond_71 rfl (lv_at hl 0 rfl) ?_
            have hF := gFree hD hS hA
            refine va_calliD hd0 (va_runV_D (As := [.ref (ad c_11)]) (rest := []) ⟨hx, hb, hml, hown, hts⟩ (n_X7_readFirst l dC dI ad cA adK adV H.size σ5 hIσ5 c_11 hc_12) (cwV 1 hts gX7_readBond_X7_readFirst rfl rfl rfl (by decide +kernel) ⟨Nat.le_of_ble_eq_true rfl, Nat.le_of_ble_eq_true rfl⟩) ⟨gBlind, va_recv hK hP (ci := 6) (q0 := 1) rfl (at_6 rfl), gStart (As := [.ref (ad 1), .ref (ad c_11)]) hP hD hK0 hT hS hF (d_22)⟩ rfl rfl hl.1 rfl (lv_room (Nat.le_of_ble_eq_true rfl)) dX7_readBond_72 ⟨Nat.le_of_ble_eq_true rfl, Nat.le_of_ble_eq_true rfl⟩) hS (fun q _ h => hF q h) hF (fun r_25 σ6 t H locs ht hvm hw hB hz1 hk1 hS d_26 hd0 => ?_)
            have hts := dr_words hts0 (d_26)
            have hK := gKd hK0 (d_26)
            have hown : (s.setDrawn (d_26)).vm.findClass RX7 = some m.cls := hown0
            obtain ⟨hP, hD⟩ := gBack hF ht hB
            obtain ⟨hIσ6, fcσ6, hp_27⟩ := hw
            refine lv_if_eq (tgt := 86) hx hb dX7_readBond_75 (by decide) (fun c_28 => ?_) (fun c_28 => ?_)
            · refine lv_iconst (v := 0) hx hb dX7_readBond_86 (by decide) ?_
              refine W.endD hd0 ?_
              exact W.zret (v := 0) hx hb hr (by decide) (fun t ht hW => ⟨⟨0, σ6, rfl, ⟨hIσ6, (gFr.tr (gFr.tr (gFr.tr (gFr.tr (gFr.tr (gFr.rfl (L := [0, 3, 6, 9, 27]) (σ := σ)) fcσ2 (by decide)) fcσ3 (by decide)) fcσ4 (by decide)) fcσ5 (by decide)) fcσ6 (by decide)), Or.inl rfl⟩, ⟨by rw [ht]; exact hP, hD⟩⟩, hS.F ht⟩) hS.2.2 dX7_readBond_87
            · refine lv_aload_n hx hb dX7_readBond_78 rfl (lv_at hl 2 rfl) ?_
              refine lv_aload_n hx hb dX7_readBond_79 rfl (lv_at hl 0 rfl) ?_
              have hF := gFree hD hS hA
              refine va_calliD hd0 (va_runV_D (As := [.ref (ad c_11)]) (rest := []) ⟨hx, hb, hml, hown, hts⟩ (n_X7_readEx l dC dI ad cA adK adV H.size σ6 hIσ6 c_11 hc_12) (cwV 1 hts gX7_readBond_X7_readEx rfl rfl rfl (by decide +kernel) ⟨Nat.le_of_ble_eq_true rfl, Nat.le_of_ble_eq_true rfl⟩) ⟨gBlind, va_recv hK hP (ci := 6) (q0 := 1) rfl (at_6 rfl), gStart (As := [.ref (ad 1), .ref (ad c_11)]) hP hD hK0 hT hS hF (d_26)⟩ rfl rfl hl.1 rfl (lv_room (Nat.le_of_ble_eq_true rfl)) dX7_readBond_80 ⟨Nat.le_of_ble_eq_true rfl, Nat.le_of_ble_eq_true rfl⟩) hS (fun q _ h => hF q h) hF (fun r_29 σ7 t H locs ht hvm hw hB hz1 hk1 hS d_30 hd0 => ?_)
              have hts := dr_words hts0 (d_30)
              have hK := gKd hK0 (d_30)
              have hown : (s.setDrawn (d_30)).vm.findClass RX7 = some m.cls := hown0
              obtain ⟨hP, hD⟩ := gBack hF ht hB
              obtain ⟨hIσ7, fcσ7, hp_31⟩ := hw
              refine lv_if_ne (tgt := 88) hx hb dX7_readBond_83 (by decide) (fun c_32 => ?_) (fun c_32 => ?_)
              · refine lv_aload_n hx hb dX7_readBond_88 rfl (lv_at hl 3 rfl) ?_
                refine lv_dup hx hb dX7_readBond_89 rfl ?_
                refine va_get (D := (dC, dI)) (ci := 3) (v := .int ((σ a0).1 4)) (C := RX4) (T := TX4) (N := 12) hx hb hts hinX4 hown hK hP a0 (at_3 ha0) rfl 4 (by decide) (hts (.fieldLink RX7 124 "BondCalendars$Desk" "bondCount" "I") (by decide +kernel)) (fun _ h9 => h9) (congrArg (fun z => some (Value.int z)) (show (σ7 a0).1 4 = ((σ a0).1 4) from by rw [fcσ7 a0 (by rw [ha0]; decide), fcσ6 a0 (by rw [ha0]; decide), fcσ5 a0 (by rw [ha0]; decide), fcσ4 a0 (by rw [ha0]; decide), fcσ3 a0 (by rw [ha0]; decide), fcσ2 a0 (by rw [ha0]; decide)])) dX7_readBond_90 ?_
                refine lv_iconst (v := 1) hx hb dX7_readBond_93 (by decide) ?_
                refine lv_iadd hx hb dX7_readBond_94 ?_
                refine lv_topi (fun x_33 ex_33 => ?_)
                refine va_put (D := (dC, dI)) (ci := 3) (v := .int x_33) (C := RX4) (T := TX4) (N := 12) hx hb hts hinX4 tyX4 tyX4_ok nmX4 hown hK hP hD hS a0 (at_3 ha0) rfl 4 (by decide) (hts (.fieldLink RX7 124 "BondCalendars$Desk" "bondCount" "I") (by decide +kernel)) (fun _ h9 => h9) rfl (ty := .int) (by decide +kernel) rfl rfl (Nat.le_of_ble_eq_true rfl) dX7_readBond_95 (fun H locs hP hD hS => ?_)
                obtain ⟨σ8, eσ8, hP, hD⟩ := gPut (se_3_4 ha0) hP hD
                have hIσ8 : InvX σ8 := by rw [eσ8]; exact inv_I hIσ7 (ok_3_4 ha0 _)
                have frσ8 : gFr [0, 3, 6, 9, 27] σ σ8 := by rw [eσ8]; exact gFr.pI (gFr.tr (gFr.tr (gFr.tr (gFr.tr (gFr.tr (gFr.tr (gFr.rfl (L := [0, 3, 6, 9, 27]) (σ := σ)) fcσ2 (by decide)) fcσ3 (by decide)) fcσ4 (by decide)) fcσ5 (by decide)) fcσ6 (by decide)) fcσ7 (by decide)) ha0 (by decide)
                refine lv_iconst (v := 1) hx hb dX7_readBond_98 (by decide) ?_
                refine W.endD hd0 ?_
                exact W.zret (v := 1) hx hb hr (by decide) (fun t ht hW => ⟨⟨1, σ8, rfl, ⟨hIσ8, frσ8, Or.inr rfl⟩, ⟨by rw [ht]; exact hP, hD⟩⟩, hS.F ht⟩) hS.2.2 dX7_readBond_99
              · refine lv_iconst (v := 0) hx hb dX7_readBond_86 (by decide) ?_
                refine W.endD hd0 ?_
                exact W.zret (v := 0) hx hb hr (by decide) (fun t ht hW => ⟨⟨0, σ7, rfl, ⟨hIσ7, (gFr.tr (gFr.tr (gFr.tr (gFr.tr (gFr.tr (gFr.tr (gFr.rfl (L := [0, 3, 6, 9, 27]) (σ := σ)) fcσ2 (by decide)) fcσ3 (by decide)) fcσ4 (by decide)) fcσ5 (by decide)) fcσ6 (by decide)) fcσ7 (by decide)), Or.inl rfl⟩, ⟨by rw [ht]; exact hP, hD⟩⟩, hS.F ht⟩) hS.2.2 dX7_readBond_87
    · refine lv_aload_n hx hb dX7_readBond_18 rfl (lv_at hl 1 rfl) ?_
      refine lv_bipush (v := 6) hx hb dX7_readBond_19 (by decide) ?_
      refine lv_aload_n hx hb dX7_readBond_21 rfl (lv_at hl 1 rfl) ?_
      refine va_get (D := (dC, dI)) (ci := 6) (v := .ref (ad 2)) (C := RX7) (T := TX7) (N := 5) hx hb hts hinX7 hown hK hP 1 (at_6 rfl) rfl 0 (by decide) (hts (.fieldLink RX7 12 "BondCalendars$Reader" "tape" "LBondCalendars$Tape;") (by decide +kernel)) (fun _ h9 => h9) rfl dX7_readBond_22 ?_
      have bd_34 := rd_9_3 (c := 2) hI rfl
      refine va_get (D := (dC, dI)) (ci := 9) (v := .int ((σ 2).1 3)) (C := RX10) (T := TX10) (N := 7) hx hb hts hinX10 hown hK hP 2 (at_9 rfl) rfl 3 (by decide) (hts (.fieldLink RX7 52 "BondCalendars$Tape" "start" "I") (by decide +kernel)) (fun _ h9 => h9) rfl dX7_readBond_25 ?_
      have hF := gFree hD hS hA
      refine va_calliD hd0 (va_runV_D (As := [.int 6, .int ((σ 2).1 3)]) (rest := []) ⟨hx, hb, hml, hown, hts⟩ (n_X7_fail l dC dI ad cA adK adV s.heap.size σ hI 6 ((σ 2).1 3)) (cwV 2 hts gX7_readBond_X7_fail rfl rfl rfl (by decide +kernel) ⟨Nat.le_of_ble_eq_true rfl, Nat.le_of_ble_eq_true rfl⟩) ⟨gBlind, va_recv hK hP (ci := 6) (q0 := 1) rfl (at_6 rfl), gStart (As := [.ref (ad 1), .int 6, .int ((σ 2).1 3)]) hP hD hK0 hT hS hF (s.drawn)⟩ rfl rfl hl.1 rfl (lv_room (Nat.le_of_ble_eq_true rfl)) dX7_readBond_28 ⟨Nat.le_of_ble_eq_true rfl, Nat.le_of_ble_eq_true rfl⟩) hS (fun q _ h => hF q h) hF (fun r_35 σ9 t H locs ht hvm hw hB hz1 hk1 hS d_36 hd0 => ?_)
      have hts := dr_words hts0 (d_36)
      have hK := gKd hK0 (d_36)
      have hown : (s.setDrawn (d_36)).vm.findClass RX7 = some m.cls := hown0
      obtain ⟨hP, hD⟩ := gBack hF ht hB
      obtain ⟨hIσ9, fcσ9, hp_37⟩ := hw
      refine W.endD hd0 ?_
      exact W.zret (v := r_35) hx hb hr (by rcases hp_37 with h9 | h9 <;> rw [h9] <;> decide +kernel) (fun t ht hW => ⟨⟨r_35, σ9, rfl, ⟨hIσ9, (gFr.tr (gFr.rfl (L := [0, 3, 6, 9, 27]) (σ := σ)) fcσ9 (by decide)), hp_37⟩, ⟨by rw [ht]; exact hP, hD⟩⟩, hS.F ht⟩) hS.2.2 dX7_readBond_31
set_option maxHeartbeats 8000000 in
set_option maxRecDepth 100000 in
theorem n_X7_readQuote (l : Launch) (dC : Nat → ClassId) (dI : Nat → Nat → Nat) (ad : Nat → Nat) (cA : Nat → ClassId) (adK adV : Nat → Nat) (sz : Nat) (σ : gs) (hI : InvX σ) (a0 : Nat) (ha0 : kX a0 = 3) : MetD lw_cs l yX7_readQuote wsX7_readQuote ({ frames := 3, cells := 0, slots := 0, locals := 70 }) (va_Pc [.ref (ad 1), .ref (ad a0)] (gPre adK adV (dC, dI) (wX ad cA σ) (tX cA) sz)) (va_Qi (fun (r : Int32) (τ : gs) => InvX τ ∧ gFr [3, 6, 9, 30] σ τ ∧ (r = 0 ∨ r = 1)) (fun τ t => gPost (dC, dI) (va_A (wX ad cA σ) sz) (wX ad cA τ) t) (va_A (wX ad cA σ) sz)) 0 0 (va_A (wX ad cA σ) sz) := by
  refine MetD.ofW (cc := cX7_readQuote) (maxL := 5) (ret := (some .boolean)) (by decide) rfl ?_
  intro p e s m args below meth c s₁ B hml hv hd0
  obtain ⟨rfl, hsz, hP, hK, hD0, hT⟩ := hv
  have hx := B.exec
  have hb := B.bytes
  have hr := B.returns
  have hts0 := atoms_spec (ws := wsX7_readQuote) B.pre
  have hK0 := hK
  have hown0 : s.vm.findClass RX7 = some m.cls := findClass_of_methodNamed B.named
  have hlocks := B.notSynchronized
  have hinX4 : ∀ w ∈ u_ws RX4 TX4 12, w ∈ wsX7_readQuote := (fun _ h9 => List.mem_cons_of_mem _ (List.mem_append_left _ (List.mem_append_left _ (List.mem_append_left _ (List.mem_append_right _ h9)))))
  have hinX7 : ∀ w ∈ u_ws RX7 TX7 5, w ∈ wsX7_readQuote := (fun _ h9 => List.mem_cons_of_mem _ (List.mem_append_left _ (List.mem_append_left _ (List.mem_append_right _ h9))))
  have hinX10 : ∀ w ∈ u_ws RX10 TX10 7, w ∈ wsX7_readQuote := (fun _ h9 => List.mem_cons_of_mem _ (List.mem_append_left _ (List.mem_append_right _ h9)))
  subst hsz
  have hD := hD0.self (sz := s.heap.size)
  generalize hAe : va_A (wX ad cA σ) s.heap.size = A at hD hT ⊢
  have hA : ∀ q : Nat, s.heap.size ≤ q → A q := fun q h => by rw [← hAe]; exact Or.inr h
  have hS : va_S A s.heap s.heap [] := va_S.rf
  have hl := lv_entry ([.ref (ad 1), .ref (ad a0)]) (n := 5) (Nat.le_of_ble_eq_true rfl)
  rw [lg_entry_eq]
  generalize (lg_sl ([.ref (ad 1), .ref (ad a0)]) ++ List.replicate (5 - (lg_sl ([.ref (ad 1), .ref (ad a0)])).length) Slot.unset).toArray = ls at hl ⊢
  have hl : lv_has ls 5 [(0, .ref (ad 1)), (1, .ref (ad a0))] := hl
  have hts := dr_words hts0 (s.drawn)
  have hK := gKd hK0 (s.drawn)
  have hown : (s.setDrawn (s.drawn)).vm.findClass RX7 = some m.cls := hown0
  refine lv_aload_n hx hb dX7_readQuote_0 rfl (lv_at hl 1 rfl) ?_
  refine va_get (D := (dC, dI)) (ci := 3) (v := .int ((σ a0).1 9)) (C := RX4) (T := TX4) (N := 12) hx hb hts hinX4 hown hK hP a0 (at_3 ha0) rfl 9 (by decide) (hts (.fieldLink RX7 232 "BondCalendars$Desk" "quoteCount" "I") (by decide +kernel)) (fun _ h9 => h9) rfl dX7_readQuote_1 ?_
  refine lv_istore_n (lv' := [(2, .int ((σ a0).1 9)), (0, .ref (ad 1)), (1, .ref (ad a0))]) hx hb dX7_readQuote_4 rfl hl (by decide) rfl (fun ls hl => ?_)
  refine lv_iload_n hx hb dX7_readQuote_5 rfl (lv_at hl 0 rfl) ?_
  refine lv_if_lt (tgt := 15) hx hb dX7_readQuote_6 (by decide) (fun c_1 => ?_) (fun c_1 => ?_)
  · refine lv_aload_n hx hb dX7_readQuote_15 rfl (lv_at hl 1 rfl) ?_
    refine lv_bipush (v := 6) hx hb dX7_readQuote_16 (by decide) ?_
    refine lv_aload_n hx hb dX7_readQuote_18 rfl (lv_at hl 1 rfl) ?_
    refine va_get (D := (dC, dI)) (ci := 6) (v := .ref (ad 2)) (C := RX7) (T := TX7) (N := 5) hx hb hts hinX7 hown hK hP 1 (at_6 rfl) rfl 0 (by decide) (hts (.fieldLink RX7 12 "BondCalendars$Reader" "tape" "LBondCalendars$Tape;") (by decide +kernel)) (fun _ h9 => h9) rfl dX7_readQuote_19 ?_
    have bd_2 := rd_9_3 (c := 2) hI rfl
    refine va_get (D := (dC, dI)) (ci := 9) (v := .int ((σ 2).1 3)) (C := RX10) (T := TX10) (N := 7) hx hb hts hinX10 hown hK hP 2 (at_9 rfl) rfl 3 (by decide) (hts (.fieldLink RX7 52 "BondCalendars$Tape" "start" "I") (by decide +kernel)) (fun _ h9 => h9) rfl dX7_readQuote_22 ?_
    have hF := gFree hD hS hA
    refine va_calliD hd0 (va_runV_D (As := [.int 6, .int ((σ 2).1 3)]) (rest := []) ⟨hx, hb, hml, hown, hts⟩ (n_X7_fail l dC dI ad cA adK adV s.heap.size σ hI 6 ((σ 2).1 3)) (cwV 2 hts gX7_readQuote_X7_fail rfl rfl rfl (by decide +kernel) ⟨Nat.le_of_ble_eq_true rfl, Nat.le_of_ble_eq_true rfl⟩) ⟨gBlind, va_recv hK hP (ci := 6) (q0 := 1) rfl (at_6 rfl), gStart (As := [.ref (ad 1), .int 6, .int ((σ 2).1 3)]) hP hD hK0 hT hS hF (s.drawn)⟩ rfl rfl hl.1 rfl (lv_room (Nat.le_of_ble_eq_true rfl)) dX7_readQuote_25 ⟨Nat.le_of_ble_eq_true rfl, Nat.le_of_ble_eq_true rfl⟩) hS (fun q _ h => hF q h) hF (fun r_3 σ1 t H locs ht hvm hw hB hz1 hk1 hS d_4 hd0 => ?_)
    have hts := dr_words hts0 (d_4)
    have hK := gKd hK0 (d_4)
    have hown : (s.setDrawn (d_4)).vm.findClass RX7 = some m.cls := hown0
    obtain ⟨hP, hD⟩ := gBack hF ht hB
    obtain ⟨hIσ1, fcσ1, hp_5⟩ := hw
    refine W.endD hd0 ?_
    exact W.zret (v := r_3) hx hb hr (by rcases hp_5 with h9 | h9 <;> rw [h9] <;> decide +kernel) (fun t ht hW => ⟨⟨r_3, σ1, rfl, ⟨hIσ1, (gFr.tr (gFr.rfl (L := [3, 6, 9, 30]) (σ := σ)) fcσ1 (by decide)), hp_5⟩, ⟨by rw [ht]; exact hP, hD⟩⟩, hS.F ht⟩) hS.2.2 dX7_readQuote_28
  · refine lv_iload_n hx hb dX7_readQuote_9 rfl (lv_at hl 0 rfl) ?_
    refine lv_bipush (v := 6) hx hb dX7_readQuote_10 (by decide) ?_
    refine lv_icmp_lt (tgt := 29) hx hb dX7_readQuote_12 (by decide) (fun c_6 => ?_) (fun c_6 => ?_)
    · refine lv_aload_n hx hb dX7_readQuote_29 rfl (lv_at hl 1 rfl) ?_
      refine va_get (D := (dC, dI)) (ci := 6) (v := .ref (ad 2)) (C := RX7) (T := TX7) (N := 5) hx hb hts hinX7 hown hK hP 1 (at_6 rfl) rfl 0 (by decide) (hts (.fieldLink RX7 12 "BondCalendars$Reader" "tape" "LBondCalendars$Tape;") (by decide +kernel)) (fun _ h9 => h9) rfl dX7_readQuote_30 ?_
      have hF := gFree hD hS hA
      refine va_callvD hd0 (va_runV_D (As := []) (rest := []) ⟨hx, hb, hml, hown, hts⟩ (n_X10_advance l dC dI ad cA adK adV s.heap.size σ hI ) (cwV 0 hts gX7_readQuote_X10_advance rfl rfl rfl (by decide +kernel) ⟨Nat.le_of_ble_eq_true rfl, Nat.le_of_ble_eq_true rfl⟩) ⟨gBlind, va_recv hK hP (ci := 9) (q0 := 2) rfl (at_9 rfl), gStart (As := [.ref (ad 2)]) hP hD hK0 hT hS hF (s.drawn)⟩ rfl rfl hl.1 rfl (lv_room (Nat.le_of_ble_eq_true rfl)) dX7_readQuote_33 ⟨Nat.le_of_ble_eq_true rfl, Nat.le_of_ble_eq_true rfl⟩) hS (fun q _ h => hF q h) hF (fun σ2 t H locs ht hvm hw hB hz1 hk1 hS d_8 hd0 => ?_)
      have hts := dr_words hts0 (d_8)
      have hK := gKd hK0 (d_8)
      have hown : (s.setDrawn (d_8)).vm.findClass RX7 = some m.cls := hown0
      obtain ⟨hP, hD⟩ := gBack hF ht hB
      obtain ⟨hIσ2, fcσ2, hp_9⟩ := hw
      refine lv_aload_n hx hb dX7_readQuote_36 rfl (lv_at hl 1 rfl) ?_
      refine lv_iconst (v := 0) hx hb dX7_readQuote_37 (by decide) ?_
      refine lv_aload_n hx hb dX7_readQuote_38 rfl (lv_at hl 2 rfl) ?_
      refine va_get (D := (dC, dI)) (ci := 3) (v := .int ((σ a0).1 4)) (C := RX4) (T := TX4) (N := 12) hx hb hts hinX4 hown hK hP a0 (at_3 ha0) rfl 4 (by decide) (hts (.fieldLink RX7 124 "BondCalendars$Desk" "bondCount" "I") (by decide +kernel)) (fun _ h9 => h9) (congrArg (fun z => some (Value.int z)) (show (σ2 a0).1 4 = ((σ a0).1 4) from by rw [fcσ2 a0 (by rw [ha0]; decide)])) dX7_readQuote_39 ?_
      refine lv_iconst (v := 1) hx hb dX7_readQuote_42 (by decide) ?_
      refine lv_isub hx hb dX7_readQuote_43 ?_
      refine lv_topi (fun x_10 ex_10 => ?_)
      have hF := gFree hD hS hA
      refine va_calliD hd0 (va_runV_D (As := [.int 0, .int x_10]) (rest := []) ⟨hx, hb, hml, hown, hts⟩ (n_X7_takeWhole l dC dI ad cA adK adV H.size σ2 hIσ2 0 x_10) (cwV 2 hts gX7_readQuote_X7_takeWhole rfl rfl rfl (by decide +kernel) ⟨Nat.le_of_ble_eq_true rfl, Nat.le_of_ble_eq_true rfl⟩) ⟨gBlind, va_recv hK hP (ci := 6) (q0 := 1) rfl (at_6 rfl), gStart (As := [.ref (ad 1), .int 0, .int x_10]) hP hD hK0 hT hS hF (d_8)⟩ rfl rfl hl.1 rfl (lv_room (Nat.le_of_ble_eq_true rfl)) dX7_readQuote_44 ⟨Nat.le_of_ble_eq_true rfl, Nat.le_of_ble_eq_true rfl⟩) hS (fun q _ h => hF q h) hF (fun r_11 σ3 t H locs ht hvm hw hB hz1 hk1 hS d_12 hd0 => ?_)
      have hts := dr_words hts0 (d_12)
      have hK := gKd hK0 (d_12)
      have hown : (s.setDrawn (d_12)).vm.findClass RX7 = some m.cls := hown0
      obtain ⟨hP, hD⟩ := gBack hF ht hB
      obtain ⟨hIσ3, fcσ3, hp_13⟩ := hw
      refine lv_istore_n (lv' := [(3, .int r_11), (2, .int ((σ a0).1 9)), (0, .ref (ad 1)), (1, .ref (ad a0))]) hx hb dX7_readQuote_47 rfl hl (by decide) rfl (fun ls hl => ?_)
      refine lv_iload_n hx hb dX7_readQuote_48 rfl (lv_at hl 0 rfl) ?_
      refine lv_if_lt (tgt := 61) hx hb dX7_readQuote_49 (by decide) (fun c_14 => ?_) (fun c_14 => ?_)
      · refine lv_iconst (v := 0) hx hb dX7_readQuote_61 (by decide) ?_
        refine W.endD hd0 ?_
        exact W.zret (v := 0) hx hb hr (by decide) (fun t ht hW => ⟨⟨0, σ3, rfl, ⟨hIσ3, (gFr.tr (gFr.tr (gFr.rfl (L := [3, 6, 9, 30]) (σ := σ)) fcσ2 (by decide)) fcσ3 (by decide)), Or.inl rfl⟩, ⟨by rw [ht]; exact hP, hD⟩⟩, hS.F ht⟩) hS.2.2 dX7_readQuote_62
      · refine lv_iload_n hx hb dX7_readQuote_52 rfl (lv_at hl 0 rfl) ?_
        refine lv_aload_n hx hb dX7_readQuote_53 rfl (lv_at hl 3 rfl) ?_
        refine va_get (D := (dC, dI)) (ci := 3) (v := .ref (ad (a0 + 3))) (C := RX4) (T := TX4) (N := 12) hx hb hts hinX4 hown hK hP a0 (at_3 ha0) rfl 3 (by decide) (hts (.fieldLink RX7 127 "BondCalendars$Desk" "bonds" "[LBondCalendars$Bond;") (by decide +kernel)) (fun _ h9 => h9) rfl dX7_readQuote_54 ?_
        refine va_alen (v := 4) hx hb hK hP ((a0 + 3)) ((a0 + 3)) (at_26 (kk_3_3 ha0)) (ty_26 (kk_3_3 ha0)) rfl dX7_readQuote_57 ?_
        refine lv_icmp_lt (tgt := 63) hx hb dX7_readQuote_58 (by decide) (fun c_15 => ?_) (fun c_15 => ?_)
        · refine lv_aload_n hx hb dX7_readQuote_63 rfl (lv_at hl 2 rfl) ?_
          have hF := gFree hD hS hA
          refine va_calliD hd0 (va_runV_D (As := []) (rest := []) ⟨hx, hb, hml, hown, hts⟩ (n_X7_takeDate l dC dI ad cA adK adV H.size σ3 hIσ3 ) (cwV 0 hts gX7_readQuote_X7_takeDate rfl rfl rfl (by decide +kernel) ⟨Nat.le_of_ble_eq_true rfl, Nat.le_of_ble_eq_true rfl⟩) ⟨gBlind, va_recv hK hP (ci := 6) (q0 := 1) rfl (at_6 rfl), gStart (As := [.ref (ad 1)]) hP hD hK0 hT hS hF (d_12)⟩ rfl rfl hl.1 rfl (lv_room (Nat.le_of_ble_eq_true rfl)) dX7_readQuote_64 ⟨Nat.le_of_ble_eq_true rfl, Nat.le_of_ble_eq_true rfl⟩) hS (fun q _ h => hF q h) hF (fun r_16 σ4 t H locs ht hvm hw hB hz1 hk1 hS d_17 hd0 => ?_)
          have hts := dr_words hts0 (d_17)
          have hK := gKd hK0 (d_17)
          have hown : (s.setDrawn (d_17)).vm.findClass RX7 = some m.cls := hown0
          obtain ⟨hP, hD⟩ := gBack hF ht hB
          obtain ⟨hIσ4, fcσ4, hp_18⟩ := hw
          refine lv_istore (lv' := [(4, .int r_16), (3, .int r_11), (2, .int ((σ a0).1 9)), (0, .ref (ad 1)), (1, .ref (ad a0))]) hx hb dX7_readQuote_67 hl (by decide) rfl (fun ls hl => ?_)
          refine lv_iload hx hb dX7_readQuote_69 (lv_at hl 0 rfl) ?_
          refine lv_iconst (v := (-1)) hx hb dX7_readQuote_71 (by decide) ?_
          refine lv_icmp_ne (tgt := 77) hx hb dX7_readQuote_72 (by decide) (fun c_19 => ?_) (fun c_19 => ?_)
          · refine lv_aload_n hx hb dX7_readQuote_77 rfl (lv_at hl 4 rfl) ?_
            refine va_get (D := (dC, dI)) (ci := 3) (v := .ref (ad (a0 + 3))) (C := RX4) (T := TX4) (N := 12) hx hb hts hinX4 hown hK hP a0 (at_3 ha0) rfl 3 (by decide) (hts (.fieldLink RX7 127 "BondCalendars$Desk" "bonds" "[LBondCalendars$Bond;") (by decide +kernel)) (fun _ h9 => h9) rfl dX7_readQuote_78 ?_
            refine lv_iload_n hx hb dX7_readQuote_81 rfl (lv_at hl 1 rfl) ?_
            have hi_20 : vp_in r_11 4 := (gin (N := 4) (by decide) (Int32.not_lt.mp c_14) c_15)
            refine va_aldq hx hb hK hP ((a0 + 3)) ((a0 + 3)) (at_26 (kk_3_3 ha0)) (ty_26 (kk_3_3 ha0)) hi_20 dX7_readQuote_82 ?_
            refine (fun h => (va_rd_26 (ad := ad) (c := (a0 + 3)) hi_20) ▸ h) ?_
            obtain ⟨c_21, hc_22, ecc_21⟩ : ∃ z, kX z = 0 ∧ (a0 + 3) + 1 + 7 * r_11.toNatClampNeg = z := ⟨_, kr_26 (kk_3_3 ha0) (Nat.not_le.mp fun q => hi_20 (Or.inr q)), rfl⟩
            rw [ecc_21]
            refine lv_iload hx hb dX7_readQuote_83 (lv_at hl 0 rfl) ?_
            have hF := gFree hD hS hA
            refine va_calliD hd0 (va_runV_D (As := [.int r_16]) (rest := []) ⟨hx, hb, hml, hown, hts⟩ (n_X0_isSettle l dC dI ad cA adK adV H.size σ4 hIσ4 c_21 hc_22 r_16) (cwV 1 hts gX7_readQuote_X0_isSettle rfl rfl rfl (by decide +kernel) ⟨Nat.le_of_ble_eq_true rfl, Nat.le_of_ble_eq_true rfl⟩) ⟨gBlind, va_recv hK hP (ci := 0) (q0 := c_21) rfl (at_0 hc_22), gStart (As := [.ref (ad c_21), .int r_16]) hP hD hK0 hT hS hF (d_17)⟩ rfl rfl hl.1 rfl (lv_room (Nat.le_of_ble_eq_true rfl)) dX7_readQuote_85 ⟨Nat.le_of_ble_eq_true rfl, Nat.le_of_ble_eq_true rfl⟩) hS (fun q _ h => hF q h) hF (fun r_23 σ5 t H locs ht hvm hw hB hz1 hk1 hS d_24 hd0 => ?_)
            have hts := dr_words hts0 (d_24)
            have hK := gKd hK0 (d_24)
            have hown : (s.setDrawn (d_24)).vm.findClass RX7 = some m.cls := hown0
            obtain ⟨hP, hD⟩ := gBack hF ht hB
            obtain ⟨hIσ5, hro, hp_25⟩ := hw
            subst hro
            refine lv_if_ne (tgt := 101) hx hb dX7_readQuote_88 (by decide) (fun c_26 => ?_) (fun c_26 => ?_)
            · refine lv_aload_n hx hb dX7_readQuote_101 rfl (lv_at hl 4 rfl) ?_
              refine va_get (D := (dC, dI)) (ci := 3) (v := .ref (ad (a0 + 57))) (C := RX4) (T := TX4) (N := 12) hx hb hts hinX4 hown hK hP a0 (at_3 ha0) rfl 6 (by decide) (hts (.fieldLink RX7 238 "BondCalendars$Desk" "quotedBonds" "[I") (by decide +kernel)) (fun _ h9 => h9) rfl dX7_readQuote_102 ?_
              refine lv_iload_n hx hb dX7_readQuote_105 rfl (lv_at hl 2 rfl) ?_
              refine lv_iload_n hx hb dX7_readQuote_106 rfl (lv_at hl 1 rfl) ?_
              refine va_iast hx hb hK hP hD hS ((a0 + 57)) ((a0 + 57)) (at_30 (kk_3_57 ha0)) (ty_30 (kk_3_57 ha0)) (gin (N := 6) (by decide) (Int32.not_lt.mp c_1) c_6) dX7_readQuote_107 (fun H locs hP hD hS => ?_)
              obtain ⟨σ6, eσ6, hP, hD⟩ := gPut (se_30 (kk_3_57 ha0)) hP hD
              have hIσ6 : InvX σ6 := by rw [eσ6]; exact inv_I hIσ4 (ok_30 (kk_3_57 ha0) _ _)
              have frσ6 : gFr [3, 6, 9, 30] σ σ6 := by rw [eσ6]; exact gFr.pI (gFr.tr (gFr.tr (gFr.tr (gFr.rfl (L := [3, 6, 9, 30]) (σ := σ)) fcσ2 (by decide)) fcσ3 (by decide)) fcσ4 (by decide)) (kk_3_57 ha0) (by decide)
              refine lv_aload_n hx hb dX7_readQuote_108 rfl (lv_at hl 4 rfl) ?_
              refine va_get (D := (dC, dI)) (ci := 3) (v := .ref (ad (a0 + 58))) (C := RX4) (T := TX4) (N := 12) hx hb hts hinX4 hown hK hP a0 (at_3 ha0) rfl 7 (by decide) (hts (.fieldLink RX7 241 "BondCalendars$Desk" "quotedDays" "[I") (by decide +kernel)) (fun _ h9 => h9) rfl dX7_readQuote_109 ?_
              refine lv_iload_n hx hb dX7_readQuote_112 rfl (lv_at hl 2 rfl) ?_
              refine lv_iload hx hb dX7_readQuote_113 (lv_at hl 0 rfl) ?_
              refine va_iast hx hb hK hP hD hS ((a0 + 58)) ((a0 + 58)) (at_30 (kk_3_58 ha0)) (ty_30 (kk_3_58 ha0)) (gin (N := 6) (by decide) (Int32.not_lt.mp c_1) c_6) dX7_readQuote_115 (fun H locs hP hD hS => ?_)
              obtain ⟨σ7, eσ7, hP, hD⟩ := gPut (se_30 (kk_3_58 ha0)) hP hD
              have hIσ7 : InvX σ7 := by rw [eσ7]; exact inv_I hIσ6 (ok_30 (kk_3_58 ha0) _ _)
              have frσ7 : gFr [3, 6, 9, 30] σ σ7 := by rw [eσ7]; exact gFr.pI frσ6 (kk_3_58 ha0) (by decide)
              refine lv_aload_n hx hb dX7_readQuote_116 rfl (lv_at hl 4 rfl) ?_
              refine va_get (D := (dC, dI)) (ci := 3) (v := .ref (ad (a0 + 59))) (C := RX4) (T := TX4) (N := 12) hx hb hts hinX4 hown hK hP a0 (at_3 ha0) rfl 8 (by decide) (hts (.fieldLink RX7 244 "BondCalendars$Desk" "quotedPrices" "[I") (by decide +kernel)) (fun _ h9 => h9) rfl dX7_readQuote_117 ?_
              refine lv_iload_n hx hb dX7_readQuote_120 rfl (lv_at hl 2 rfl) ?_
              refine lv_aload_n hx hb dX7_readQuote_121 rfl (lv_at hl 3 rfl) ?_
              refine lv_iconst (v := 1) hx hb dX7_readQuote_122 (by decide) ?_
              refine lv_ldc (v := 99999) hx hb hown (hts (.constant RX7 247 (99999)) (by decide +kernel)) dX7_readQuote_123 ?_
              have hF := gFree hD hS hA
              refine va_calliD hd0 (va_runV_D (As := [.int 1, .int 99999]) (rest := [.int ((σ a0).1 9), .ref (ad (a0 + 59))]) ⟨hx, hb, hml, hown, hts⟩ (n_X7_takeWhole l dC dI ad cA adK adV H.size σ7 hIσ7 1 99999) (cwV 2 hts gX7_readQuote_X7_takeWhole rfl rfl rfl (by decide +kernel) ⟨Nat.le_of_ble_eq_true rfl, Nat.le_of_ble_eq_true rfl⟩) ⟨gBlind, va_recv hK hP (ci := 6) (q0 := 1) rfl (at_6 rfl), gStart (As := [.ref (ad 1), .int 1, .int 99999]) hP hD hK0 hT hS hF (d_24)⟩ rfl rfl hl.1 rfl (lv_room (Nat.le_of_ble_eq_true rfl)) dX7_readQuote_125 ⟨Nat.le_of_ble_eq_true rfl, Nat.le_of_ble_eq_true rfl⟩) hS (fun q _ h => hF q h) hF (fun r_27 σ8 t H locs ht hvm hw hB hz1 hk1 hS d_28 hd0 => ?_)
              have hts := dr_words hts0 (d_28)
              have hK := gKd hK0 (d_28)
              have hown : (s.setDrawn (d_28)).vm.findClass RX7 = some m.cls := hown0
              obtain ⟨hP, hD⟩ := gBack hF ht hB
              obtain ⟨hIσ8, fcσ8, hp_29⟩ := hw
              refine va_iast hx hb hK hP hD hS ((a0 + 59)) ((a0 + 59)) (at_30 (kk_3_59 ha0)) (ty_30 (kk_3_59 ha0)) (gin (N := 6) (by decide) (Int32.not_lt.mp c_1) c_6) dX7_readQuote_128 (fun H locs hP hD hS => ?_)
              obtain ⟨σ9, eσ9, hP, hD⟩ := gPut (se_30 (kk_3_59 ha0)) hP hD
              have hIσ9 : InvX σ9 := by rw [eσ9]; exact inv_I hIσ8 (ok_30 (kk_3_59 ha0) _ _)
              have frσ9 : gFr [3, 6, 9, 30] σ σ9 := by rw [eσ9]; exact gFr.pI (gFr.tr frσ7 fcσ8 (by decide)) (kk_3_59 ha0) (by decide)
              refine lv_aload_n hx hb dX7_readQuote_129 rfl (lv_at hl 4 rfl) ?_
              refine lv_dup hx hb dX7_readQuote_130 rfl ?_
              refine va_get (D := (dC, dI)) (ci := 3) (v := .int ((σ a0).1 9)) (C := RX4) (T := TX4) (N := 12) hx hb hts hinX4 hown hK hP a0 (at_3 ha0) rfl 9 (by decide) (hts (.fieldLink RX7 232 "BondCalendars$Desk" "quoteCount" "I") (by decide +kernel)) (fun _ h9 => h9) (congrArg (fun z => some (Value.int z)) (show (σ9 a0).1 9 = ((σ a0).1 9) from by rw [eσ9, gI_ne _ _ _ (kne ha0 (kk_3_59 ha0) (by decide)), fcσ8 a0 (by rw [ha0]; decide), eσ7, gI_ne _ _ _ (kne ha0 (kk_3_58 ha0) (by decide)), eσ6, gI_ne _ _ _ (kne ha0 (kk_3_57 ha0) (by decide)), fcσ4 a0 (by rw [ha0]; decide), fcσ3 a0 (by rw [ha0]; decide), fcσ2 a0 (by rw [ha0]; decide)])) dX7_readQuote_131 ?_
              refine lv_iconst (v := 1) hx hb dX7_readQuote_134 (by decide) ?_
              refine lv_iadd hx hb dX7_readQuote_135 ?_
              refine lv_topi (fun x_30 ex_30 => ?_)
              refine va_put (D := (dC, dI)) (ci := 3) (v := .int x_30) (C := RX4) (T := TX4) (N := 12) hx hb hts hinX4 tyX4 tyX4_ok nmX4 hown hK hP hD hS a0 (at_3 ha0) rfl 9 (by decide) (hts (.fieldLink RX7 232 "BondCalendars$Desk" "quoteCount" "I") (by decide +kernel)) (fun _ h9 => h9) rfl (ty := .int) (by decide +kernel) rfl rfl (Nat.le_of_ble_eq_true rfl) dX7_readQuote_136 (fun H locs hP hD hS => ?_)
              obtain ⟨σ10, eσ10, hP, hD⟩ := gPut (se_3_9 ha0) hP hD
              have hIσ10 : InvX σ10 := by rw [eσ10]; exact inv_I hIσ9 (ok_3_9 ha0 _)
              have frσ10 : gFr [3, 6, 9, 30] σ σ10 := by rw [eσ10]; exact gFr.pI frσ9 ha0 (by decide)
              refine lv_aload_n hx hb dX7_readQuote_139 rfl (lv_at hl 4 rfl) ?_
              refine va_get (D := (dC, dI)) (ci := 3) (v := .ref (ad (a0 + 59))) (C := RX4) (T := TX4) (N := 12) hx hb hts hinX4 hown hK hP a0 (at_3 ha0) rfl 8 (by decide) (hts (.fieldLink RX7 244 "BondCalendars$Desk" "quotedPrices" "[I") (by decide +kernel)) (fun _ h9 => h9) rfl dX7_readQuote_140 ?_
              refine lv_iload_n hx hb dX7_readQuote_143 rfl (lv_at hl 2 rfl) ?_
              refine va_iald hx hb hK hP ((a0 + 59)) ((a0 + 59)) (at_30 (kk_3_59 ha0)) (ty_30 (kk_3_59 ha0)) (gin (N := 6) (by decide) (Int32.not_lt.mp c_1) c_6) dX7_readQuote_144 ?_
              refine lv_topi (fun x_31 _ => ?_)
              refine lv_iconst (v := (-1)) hx hb dX7_readQuote_145 (by decide) ?_
              refine lv_icmp_eq (tgt := 153) hx hb dX7_readQuote_146 (by decide) (fun c_32 => ?_) (fun c_32 => ?_)
              · refine lv_iconst (v := 0) hx hb dX7_readQuote_153 (by decide) ?_
                refine W.endD hd0 ?_
                exact W.zret (v := 0) hx hb hr (by decide) (fun t ht hW => ⟨⟨0, σ10, rfl, ⟨hIσ10, frσ10, Or.inl rfl⟩, ⟨by rw [ht]; exact hP, hD⟩⟩, hS.F ht⟩) hS.2.2 dX7_readQuote_154
              · refine lv_iconst (v := 1) hx hb dX7_readQuote_149 (by decide) ?_
                refine lv_goto (tgt := 154) hx hb dX7_readQuote_150 (by decide) ?_
                refine W.endD hd0 ?_
                exact W.zret (v := 1) hx hb hr (by decide) (fun t ht hW => ⟨⟨1, σ10, rfl, ⟨hIσ10, frσ10, Or.inr rfl⟩, ⟨by rw [ht]; exact hP, hD⟩⟩, hS.F ht⟩) hS.2.2 dX7_readQuote_154
            · refine lv_aload_n hx hb dX7_readQuote_91 rfl (lv_at hl 3 rfl) ?_
              refine lv_iconst (v := 4) hx hb dX7_readQuote_92 (by decide) ?_
              refine lv_aload_n hx hb dX7_readQuote_93 rfl (lv_at hl 3 rfl) ?_
              refine va_get (D := (dC, dI)) (ci := 6) (v := .int ((σ4 1).1 4)) (C := RX7) (T := TX7) (N := 5) hx hb hts hinX7 hown hK hP 1 (at_6 rfl) rfl 4 (by decide) (hts (.fieldLink RX7 29 "BondCalendars$Reader" "wholeAt" "I") (by decide +kernel)) (fun _ h9 => h9) rfl dX7_readQuote_94 ?_
              have hF := gFree hD hS hA
              refine va_calliD hd0 (va_runV_D (As := [.int 4, .int ((σ4 1).1 4)]) (rest := []) ⟨hx, hb, hml, hown, hts⟩ (n_X7_fail l dC dI ad cA adK adV H.size σ4 hIσ4 4 ((σ4 1).1 4)) (cwV 2 hts gX7_readQuote_X7_fail rfl rfl rfl (by decide +kernel) ⟨Nat.le_of_ble_eq_true rfl, Nat.le_of_ble_eq_true rfl⟩) ⟨gBlind, va_recv hK hP (ci := 6) (q0 := 1) rfl (at_6 rfl), gStart (As := [.ref (ad 1), .int 4, .int ((σ4 1).1 4)]) hP hD hK0 hT hS hF (d_24)⟩ rfl rfl hl.1 rfl (lv_room (Nat.le_of_ble_eq_true rfl)) dX7_readQuote_97 ⟨Nat.le_of_ble_eq_true rfl, Nat.le_of_ble_eq_true rfl⟩) hS (fun q _ h => hF q h) hF (fun r_33 σ11 t H locs ht hvm hw hB hz1 hk1 hS d_34 hd0 => ?_)
              have hts := dr_words hts0 (d_34)
              have hK := gKd hK0 (d_34)
              have hown : (s.setDrawn (d_34)).vm.findClass RX7 = some m.cls := hown0
              obtain ⟨hP, hD⟩ := gBack hF ht hB
              obtain ⟨hIσ11, fcσ11, hp_35⟩ := hw
              refine W.endD hd0 ?_
              exact W.zret (v := r_33) hx hb hr (by rcases hp_35 with h9 | h9 <;> rw [h9] <;> decide +kernel) (fun t ht hW => ⟨⟨r_33, σ11, rfl, ⟨hIσ11, (gFr.tr (gFr.tr (gFr.tr (gFr.tr (gFr.rfl (L := [3, 6, 9, 30]) (σ := σ)) fcσ2 (by decide)) fcσ3 (by decide)) fcσ4 (by decide)) fcσ11 (by decide)), hp_35⟩, ⟨by rw [ht]; exact hP, hD⟩⟩, hS.F ht⟩) hS.2.2 dX7_readQuote_100
          · refine lv_iconst (v := 0) hx hb dX7_readQuote_75 (by decide) ?_
            refine W.endD hd0 ?_
            exact W.zret (v := 0) hx hb hr (by decide) (fun t ht hW => ⟨⟨0, σ4, rfl, ⟨hIσ4, (gFr.tr (gFr.tr (gFr.tr (gFr.rfl (L := [3, 6, 9, 30]) (σ := σ)) fcσ2 (by decide)) fcσ3 (by decide)) fcσ4 (by decide)), Or.inl rfl⟩, ⟨by rw [ht]; exact hP, hD⟩⟩, hS.F ht⟩) hS.2.2 dX7_readQuote_76
        · refine lv_iconst (v := 0) hx hb dX7_readQuote_61 (by decide) ?_
          refine W.endD hd0 ?_
          exact W.zret (v := 0) hx hb hr (by decide) (fun t ht hW => ⟨⟨0, σ3, rfl, ⟨hIσ3, (gFr.tr (gFr.tr (gFr.rfl (L := [3, 6, 9, 30]) (σ := σ)) fcσ2 (by decide)) fcσ3 (by decide)), Or.inl rfl⟩, ⟨by rw [ht]; exact hP, hD⟩⟩, hS.F ht⟩) hS.2.2 dX7_readQuote_62
    · refine lv_aload_n hx hb dX7_readQuote_15 rfl (lv_at hl 1 rfl) ?_
      refine lv_bipush (v := 6) hx hb dX7_readQuote_16 (by decide) ?_
      refine lv_aload_n hx hb dX7_readQuote_18 rfl (lv_at hl 1 rfl) ?_
      refine va_get (D := (dC, dI)) (ci := 6) (v := .ref (ad 2)) (C := RX7) (T := TX7) (N := 5) hx hb hts hinX7 hown hK hP 1 (at_6 rfl) rfl 0 (by decide) (hts (.fieldLink RX7 12 "BondCalendars$Reader" "tape" "LBondCalendars$Tape;") (by decide +kernel)) (fun _ h9 => h9) rfl dX7_readQuote_19 ?_
      have bd_36 := rd_9_3 (c := 2) hI rfl
      refine va_get (D := (dC, dI)) (ci := 9) (v := .int ((σ 2).1 3)) (C := RX10) (T := TX10) (N := 7) hx hb hts hinX10 hown hK hP 2 (at_9 rfl) rfl 3 (by decide) (hts (.fieldLink RX7 52 "BondCalendars$Tape" "start" "I") (by decide +kernel)) (fun _ h9 => h9) rfl dX7_readQuote_22 ?_
      have hF := gFree hD hS hA
      refine va_calliD hd0 (va_runV_D (As := [.int 6, .int ((σ 2).1 3)]) (rest := []) ⟨hx, hb, hml, hown, hts⟩ (n_X7_fail l dC dI ad cA adK adV s.heap.size σ hI 6 ((σ 2).1 3)) (cwV 2 hts gX7_readQuote_X7_fail rfl rfl rfl (by decide +kernel) ⟨Nat.le_of_ble_eq_true rfl, Nat.le_of_ble_eq_true rfl⟩) ⟨gBlind, va_recv hK hP (ci := 6) (q0 := 1) rfl (at_6 rfl), gStart (As := [.ref (ad 1), .int 6, .int ((σ 2).1 3)]) hP hD hK0 hT hS hF (s.drawn)⟩ rfl rfl hl.1 rfl (lv_room (Nat.le_of_ble_eq_true rfl)) dX7_readQuote_25 ⟨Nat.le_of_ble_eq_true rfl, Nat.le_of_ble_eq_true rfl⟩) hS (fun q _ h => hF q h) hF (fun r_37 σ12 t H locs ht hvm hw hB hz1 hk1 hS d_38 hd0 => ?_)
      have hts := dr_words hts0 (d_38)
      have hK := gKd hK0 (d_38)
      have hown : (s.setDrawn (d_38)).vm.findClass RX7 = some m.cls := hown0
      obtain ⟨hP, hD⟩ := gBack hF ht hB
      obtain ⟨hIσ12, fcσ12, hp_39⟩ := hw
      refine W.endD hd0 ?_
      exact W.zret (v := r_37) hx hb hr (by rcases hp_39 with h9 | h9 <;> rw [h9] <;> decide +kernel) (fun t ht hW => ⟨⟨r_37, σ12, rfl, ⟨hIσ12, (gFr.tr (gFr.rfl (L := [3, 6, 9, 30]) (σ := σ)) fcσ12 (by decide)), hp_39⟩, ⟨by rw [ht]; exact hP, hD⟩⟩, hS.F ht⟩) hS.2.2 dX7_readQuote_28
set_option maxHeartbeats 8000000 in
set_option maxRecDepth 100000 in
theorem n_X7_readLine (l : Launch) (dC : Nat → ClassId) (dI : Nat → Nat → Nat) (ad : Nat → Nat) (cA : Nat → ClassId) (adK adV : Nat → Nat) (sz : Nat) (σ : gs) (hI : InvX σ) (a0 : Nat) (ha0 : kX a0 = 3) : MetD lw_cs l yX7_readLine wsX7_readLine ({ frames := 8, cells := 0, slots := 0, locals := 175 }) (va_Pc [.ref (ad 1), .ref (ad a0)] (gPre adK adV (dC, dI) (wX ad cA σ) (tX cA) sz)) (va_Qi (fun (r : Int32) (τ : gs) => InvX τ ∧ gFr [0, 3, 4, 6, 9, 25, 27, 30] σ τ ∧ (r = 0 ∨ r = 1)) (fun τ t => gPost (dC, dI) (va_A (wX ad cA σ) sz) (wX ad cA τ) t) (va_A (wX ad cA σ) sz)) 0 0 (va_A (wX ad cA σ) sz) := by
  refine MetD.ofW (cc := cX7_readLine) (maxL := 4) (ret := (some .boolean)) (by decide) rfl ?_
  intro p e s m args below meth c s₁ B hml hv hd0
  obtain ⟨rfl, hsz, hP, hK, hD0, hT⟩ := hv
  have hx := B.exec
  have hb := B.bytes
  have hr := B.returns
  have hts0 := atoms_spec (ws := wsX7_readLine) B.pre
  have hK0 := hK
  have hown0 : s.vm.findClass RX7 = some m.cls := findClass_of_methodNamed B.named
  have hlocks := B.notSynchronized
  have hinX7 : ∀ w ∈ u_ws RX7 TX7 5, w ∈ wsX7_readLine := (fun _ h9 => List.mem_cons_of_mem _ (List.mem_append_left _ (List.mem_append_left _ (List.mem_append_left _ (List.mem_append_left _ (List.mem_append_right _ h9))))))
  have hinX10 : ∀ w ∈ u_ws RX10 TX10 7, w ∈ wsX7_readLine := (fun _ h9 => List.mem_cons_of_mem _ (List.mem_append_left _ (List.mem_append_left _ (List.mem_append_left _ (List.mem_append_right _ h9)))))
  subst hsz
  have hD := hD0.self (sz := s.heap.size)
  generalize hAe : va_A (wX ad cA σ) s.heap.size = A at hD hT ⊢
  have hA : ∀ q : Nat, s.heap.size ≤ q → A q := fun q h => by rw [← hAe]; exact Or.inr h
  have hS : va_S A s.heap s.heap [] := va_S.rf
  have hl := lv_entry ([.ref (ad 1), .ref (ad a0)]) (n := 4) (Nat.le_of_ble_eq_true rfl)
  rw [lg_entry_eq]
  generalize (lg_sl ([.ref (ad 1), .ref (ad a0)]) ++ List.replicate (4 - (lg_sl ([.ref (ad 1), .ref (ad a0)])).length) Slot.unset).toArray = ls at hl ⊢
  have hl : lv_has ls 4 [(0, .ref (ad 1)), (1, .ref (ad a0))] := hl
  have hts := dr_words hts0 (s.drawn)
  have hK := gKd hK0 (s.drawn)
  have hown : (s.setDrawn (s.drawn)).vm.findClass RX7 = some m.cls := hown0
  refine lv_aload_n hx hb dX7_readLine_0 rfl (lv_at hl 0 rfl) ?_
  refine va_get (D := (dC, dI)) (ci := 6) (v := .ref (ad 2)) (C := RX7) (T := TX7) (N := 5) hx hb hts hinX7 hown hK hP 1 (at_6 rfl) rfl 0 (by decide) (hts (.fieldLink RX7 12 "BondCalendars$Reader" "tape" "LBondCalendars$Tape;") (by decide +kernel)) (fun _ h9 => h9) rfl dX7_readLine_1 ?_
  refine va_ldcS (tx := "desk") (q := (adK 18)) hx hb hown (vk_R.same rfl hT.2.1.2.2.2.2.2.2.2.2.2.2.2.2.2.2.2.2.2.2.1) dX7_readLine_4 ?_
  have hF := gFree hD hS hA
  refine va_calliD hd0 (va_runV_D (As := [.ref (adK 18)]) (rest := []) ⟨hx, hb, hml, hown, hts⟩ (n_X10_isWord l dC dI ad cA adK adV s.heap.size σ hI 18 (by decide)) (cwV 1 hts gX7_readLine_X10_isWord rfl rfl rfl (by decide +kernel) ⟨Nat.le_of_ble_eq_true rfl, Nat.le_of_ble_eq_true rfl⟩) ⟨gBlind, va_recv hK hP (ci := 9) (q0 := 2) rfl (at_9 rfl), gStart (As := [.ref (ad 2), .ref (adK 18)]) hP hD hK0 hT hS hF (s.drawn)⟩ rfl rfl hl.1 rfl (lv_room (Nat.le_of_ble_eq_true rfl)) dX7_readLine_6 ⟨Nat.le_of_ble_eq_true rfl, Nat.le_of_ble_eq_true rfl⟩) hS (fun q _ h => hF q h) hF (fun r_1 σ1 t H locs ht hvm hw hB hz1 hk1 hS d_2 hd0 => ?_)
  have hts := dr_words hts0 (d_2)
  have hK := gKd hK0 (d_2)
  have hown : (s.setDrawn (d_2)).vm.findClass RX7 = some m.cls := hown0
  obtain ⟨hP, hD⟩ := gBack hF ht hB
  obtain ⟨hIσ1, hro, hp_3⟩ := hw
  subst hro
  refine lv_if_eq (tgt := 40) hx hb dX7_readLine_9 (by decide) (fun c_4 => ?_) (fun c_4 => ?_)
  · refine lv_aload_n hx hb dX7_readLine_40 rfl (lv_at hl 0 rfl) ?_
    refine va_get (D := (dC, dI)) (ci := 6) (v := .ref (ad 2)) (C := RX7) (T := TX7) (N := 5) hx hb hts hinX7 hown hK hP 1 (at_6 rfl) rfl 0 (by decide) (hts (.fieldLink RX7 12 "BondCalendars$Reader" "tape" "LBondCalendars$Tape;") (by decide +kernel)) (fun _ h9 => h9) rfl dX7_readLine_41 ?_
    refine va_ldcS (tx := "holiday") (q := (adK 19)) hx hb hown (vk_R.same rfl hT.2.1.2.2.2.2.2.2.2.2.2.2.2.2.2.2.2.2.2.2.2.1) dX7_readLine_44 ?_
    have hF := gFree hD hS hA
    refine va_calliD hd0 (va_runV_D (As := [.ref (adK 19)]) (rest := []) ⟨hx, hb, hml, hown, hts⟩ (n_X10_isWord l dC dI ad cA adK adV H.size σ hI 19 (by decide)) (cwV 1 hts gX7_readLine_X10_isWord rfl rfl rfl (by decide +kernel) ⟨Nat.le_of_ble_eq_true rfl, Nat.le_of_ble_eq_true rfl⟩) ⟨gBlind, va_recv hK hP (ci := 9) (q0 := 2) rfl (at_9 rfl), gStart (As := [.ref (ad 2), .ref (adK 19)]) hP hD hK0 hT hS hF (d_2)⟩ rfl rfl hl.1 rfl (lv_room (Nat.le_of_ble_eq_true rfl)) dX7_readLine_46 ⟨Nat.le_of_ble_eq_true rfl, Nat.le_of_ble_eq_true rfl⟩) hS (fun q _ h => hF q h) hF (fun r_5 σ2 t H locs ht hvm hw hB hz1 hk1 hS d_6 hd0 => ?_)
    have hts := dr_words hts0 (d_6)
    have hK := gKd hK0 (d_6)
    have hown : (s.setDrawn (d_6)).vm.findClass RX7 = some m.cls := hown0
    obtain ⟨hP, hD⟩ := gBack hF ht hB
    obtain ⟨hIσ2, hro, hp_7⟩ := hw
    subst hro
    refine lv_istore_n (lv' := [(2, .int r_5), (0, .ref (ad 1)), (1, .ref (ad a0))]) hx hb dX7_readLine_49 rfl hl (by decide) rfl (fun ls hl => ?_)
    refine lv_aload_n hx hb dX7_readLine_50 rfl (lv_at hl 1 rfl) ?_
    refine va_get (D := (dC, dI)) (ci := 6) (v := .ref (ad 2)) (C := RX7) (T := TX7) (N := 5) hx hb hts hinX7 hown hK hP 1 (at_6 rfl) rfl 0 (by decide) (hts (.fieldLink RX7 12 "BondCalendars$Reader" "tape" "LBondCalendars$Tape;") (by decide +kernel)) (fun _ h9 => h9) rfl dX7_readLine_51 ?_
    refine va_ldcS (tx := "bond") (q := (adK 20)) hx hb hown (vk_R.same rfl hT.2.1.2.2.2.2.2.2.2.2.2.2.2.2.2.2.2.2.2.2.2.2.1) dX7_readLine_54 ?_
    have hF := gFree hD hS hA
    refine va_calliD hd0 (va_runV_D (As := [.ref (adK 20)]) (rest := []) ⟨hx, hb, hml, hown, hts⟩ (n_X10_isWord l dC dI ad cA adK adV H.size σ hI 20 (by decide)) (cwV 1 hts gX7_readLine_X10_isWord rfl rfl rfl (by decide +kernel) ⟨Nat.le_of_ble_eq_true rfl, Nat.le_of_ble_eq_true rfl⟩) ⟨gBlind, va_recv hK hP (ci := 9) (q0 := 2) rfl (at_9 rfl), gStart (As := [.ref (ad 2), .ref (adK 20)]) hP hD hK0 hT hS hF (d_6)⟩ rfl rfl hl.1 rfl (lv_room (Nat.le_of_ble_eq_true rfl)) dX7_readLine_56 ⟨Nat.le_of_ble_eq_true rfl, Nat.le_of_ble_eq_true rfl⟩) hS (fun q _ h => hF q h) hF (fun r_8 σ3 t H locs ht hvm hw hB hz1 hk1 hS d_9 hd0 => ?_)
    have hts := dr_words hts0 (d_9)
    have hK := gKd hK0 (d_9)
    have hown : (s.setDrawn (d_9)).vm.findClass RX7 = some m.cls := hown0
    obtain ⟨hP, hD⟩ := gBack hF ht hB
    obtain ⟨hIσ3, hro, hp_10⟩ := hw
    subst hro
    refine lv_istore_n (lv' := [(3, .int r_8), (2, .int r_5), (0, .ref (ad 1)), (1, .ref (ad a0))]) hx hb dX7_readLine_59 rfl hl (by decide) rfl (fun ls hl => ?_)
    refine lv_iload_n hx hb dX7_readLine_60 rfl (lv_at hl 1 rfl) ?_
    refine lv_if_ne (tgt := 93) hx hb dX7_readLine_61 (by decide) (fun c_11 => ?_) (fun c_11 => ?_)
    · refine lv_aload_n hx hb dX7_readLine_93 rfl (lv_at hl 2 rfl) ?_
      refine va_get (D := (dC, dI)) (ci := 6) (v := .int ((σ 1).1 3)) (C := RX7) (T := TX7) (N := 5) hx hb hts hinX7 hown hK hP 1 (at_6 rfl) rfl 3 (by decide) (hts (.fieldLink RX7 25 "BondCalendars$Reader" "deskTold" "Z") (by decide +kernel)) (fun _ h9 => h9) rfl dX7_readLine_94 ?_
      refine lv_if_ne (tgt := 114) hx hb dX7_readLine_97 (by decide) (fun c_12 => ?_) (fun c_12 => ?_)
      · refine lv_iload_n hx hb dX7_readLine_114 rfl (lv_at hl 1 rfl) ?_
        refine lv_if_eq (tgt := 124) hx hb dX7_readLine_115 (by decide) (fun c_13 => ?_) (fun c_13 => ?_)
        · refine lv_iload_n hx hb dX7_readLine_124 rfl (lv_at hl 0 rfl) ?_
          refine lv_if_eq (tgt := 136) hx hb dX7_readLine_125 (by decide) (fun c_14 => ?_) (fun c_14 => ?_)
          · refine lv_aload_n hx hb dX7_readLine_136 rfl (lv_at hl 2 rfl) ?_
            refine lv_aload_n hx hb dX7_readLine_137 rfl (lv_at hl 3 rfl) ?_
            have hF := gFree hD hS hA
            refine va_calliD hd0 (va_runV_D (As := [.ref (ad a0)]) (rest := []) ⟨hx, hb, hml, hown, hts⟩ (n_X7_readQuote l dC dI ad cA adK adV H.size σ hI a0 ha0) (cwV 1 hts gX7_readLine_X7_readQuote rfl rfl rfl (by decide +kernel) ⟨Nat.le_of_ble_eq_true rfl, Nat.le_of_ble_eq_true rfl⟩) ⟨gBlind, va_recv hK hP (ci := 6) (q0 := 1) rfl (at_6 rfl), gStart (As := [.ref (ad 1), .ref (ad a0)]) hP hD hK0 hT hS hF (d_9)⟩ rfl rfl hl.1 rfl (lv_room (Nat.le_of_ble_eq_true rfl)) dX7_readLine_138 ⟨Nat.le_of_ble_eq_true rfl, Nat.le_of_ble_eq_true rfl⟩) hS (fun q _ h => hF q h) hF (fun r_15 σ4 t H locs ht hvm hw hB hz1 hk1 hS d_16 hd0 => ?_)
            have hts := dr_words hts0 (d_16)
            have hK := gKd hK0 (d_16)
            have hown : (s.setDrawn (d_16)).vm.findClass RX7 = some m.cls := hown0
            obtain ⟨hP, hD⟩ := gBack hF ht hB
            obtain ⟨hIσ4, fcσ4, hp_17⟩ := hw
            refine W.endD hd0 ?_
            exact W.zret (v := r_15) hx hb hr (by rcases hp_17 with h9 | h9 <;> rw [h9] <;> decide +kernel) (fun t ht hW => ⟨⟨r_15, σ4, rfl, ⟨hIσ4, (gFr.tr (gFr.rfl (L := [0, 3, 4, 6, 9, 25, 27, 30]) (σ := σ)) fcσ4 (by decide)), hp_17⟩, ⟨by rw [ht]; exact hP, hD⟩⟩, hS.F ht⟩) hS.2.2 dX7_readLine_141
          · refine lv_aload_n hx hb dX7_readLine_128 rfl (lv_at hl 2 rfl) ?_
            refine lv_aload_n hx hb dX7_readLine_129 rfl (lv_at hl 3 rfl) ?_
            have hF := gFree hD hS hA
            refine va_calliD hd0 (va_runV_D (As := [.ref (ad a0)]) (rest := []) ⟨hx, hb, hml, hown, hts⟩ (n_X7_readBond l dC dI ad cA adK adV H.size σ hI a0 ha0) (cwV 1 hts gX7_readLine_X7_readBond rfl rfl rfl (by decide +kernel) ⟨Nat.le_of_ble_eq_true rfl, Nat.le_of_ble_eq_true rfl⟩) ⟨gBlind, va_recv hK hP (ci := 6) (q0 := 1) rfl (at_6 rfl), gStart (As := [.ref (ad 1), .ref (ad a0)]) hP hD hK0 hT hS hF (d_9)⟩ rfl rfl hl.1 rfl (lv_room (Nat.le_of_ble_eq_true rfl)) dX7_readLine_130 ⟨Nat.le_of_ble_eq_true rfl, Nat.le_of_ble_eq_true rfl⟩) hS (fun q _ h => hF q h) hF (fun r_18 σ5 t H locs ht hvm hw hB hz1 hk1 hS d_19 hd0 => ?_)
            have hts := dr_words hts0 (d_19)
            have hK := gKd hK0 (d_19)
            have hown : (s.setDrawn (d_19)).vm.findClass RX7 = some m.cls := hown0
            obtain ⟨hP, hD⟩ := gBack hF ht hB
            obtain ⟨hIσ5, fcσ5, hp_20⟩ := hw
            refine lv_goto (tgt := 141) hx hb dX7_readLine_133 (by decide) ?_
            refine W.endD hd0 ?_
            exact W.zret (v := r_18) hx hb hr (by rcases hp_20 with h9 | h9 <;> rw [h9] <;> decide +kernel) (fun t ht hW => ⟨⟨r_18, σ5, rfl, ⟨hIσ5, (gFr.tr (gFr.rfl (L := [0, 3, 4, 6, 9, 25, 27, 30]) (σ := σ)) fcσ5 (by decide)), hp_20⟩, ⟨by rw [ht]; exact hP, hD⟩⟩, hS.F ht⟩) hS.2.2 dX7_readLine_141
        · refine lv_aload_n hx hb dX7_readLine_118 rfl (lv_at hl 2 rfl) ?_
          refine lv_aload_n hx hb dX7_readLine_119 rfl (lv_at hl 3 rfl) ?_
          have hF := gFree hD hS hA
          refine va_calliD hd0 (va_runV_D (As := [.ref (ad a0)]) (rest := []) ⟨hx, hb, hml, hown, hts⟩ (n_X7_readHoliday l dC dI ad cA adK adV H.size σ hI a0 ha0) (cwV 1 hts gX7_readLine_X7_readHoliday rfl rfl rfl (by decide +kernel) ⟨Nat.le_of_ble_eq_true rfl, Nat.le_of_ble_eq_true rfl⟩) ⟨gBlind, va_recv hK hP (ci := 6) (q0 := 1) rfl (at_6 rfl), gStart (As := [.ref (ad 1), .ref (ad a0)]) hP hD hK0 hT hS hF (d_9)⟩ rfl rfl hl.1 rfl (lv_room (Nat.le_of_ble_eq_true rfl)) dX7_readLine_120 ⟨Nat.le_of_ble_eq_true rfl, Nat.le_of_ble_eq_true rfl⟩) hS (fun q _ h => hF q h) hF (fun r_21 σ6 t H locs ht hvm hw hB hz1 hk1 hS d_22 hd0 => ?_)
          have hts := dr_words hts0 (d_22)
          have hK := gKd hK0 (d_22)
          have hown : (s.setDrawn (d_22)).vm.findClass RX7 = some m.cls := hown0
          obtain ⟨hP, hD⟩ := gBack hF ht hB
          obtain ⟨hIσ6, fcσ6, hp_23⟩ := hw
          refine W.endD hd0 ?_
          exact W.zret (v := r_21) hx hb hr (by rcases hp_23 with h9 | h9 <;> rw [h9] <;> decide +kernel) (fun t ht hW => ⟨⟨r_21, σ6, rfl, ⟨hIσ6, (gFr.tr (gFr.rfl (L := [0, 3, 4, 6, 9, 25, 27, 30]) (σ := σ)) fcσ6 (by decide)), hp_23⟩, ⟨by rw [ht]; exact hP, hD⟩⟩, hS.F ht⟩) hS.2.2 dX7_readLine_123
      · refine lv_aload_n hx hb dX7_readLine_100 rfl (lv_at hl 2 rfl) ?_
        refine lv_bipush (v := 7) hx hb dX7_readLine_101 (by decide) ?_
        refine lv_aload_n hx hb dX7_readLine_103 rfl (lv_at hl 2 rfl) ?_
        refine va_get (D := (dC, dI)) (ci := 6) (v := .ref (ad 2)) (C := RX7) (T := TX7) (N := 5) hx hb hts hinX7 hown hK hP 1 (at_6 rfl) rfl 0 (by decide) (hts (.fieldLink RX7 12 "BondCalendars$Reader" "tape" "LBondCalendars$Tape;") (by decide +kernel)) (fun _ h9 => h9) rfl dX7_readLine_104 ?_
        have bd_24 := rd_9_3 (c := 2) hI rfl
        refine va_get (D := (dC, dI)) (ci := 9) (v := .int ((σ 2).1 3)) (C := RX10) (T := TX10) (N := 7) hx hb hts hinX10 hown hK hP 2 (at_9 rfl) rfl 3 (by decide) (hts (.fieldLink RX7 52 "BondCalendars$Tape" "start" "I") (by decide +kernel)) (fun _ h9 => h9) rfl dX7_readLine_107 ?_
        have hF := gFree hD hS hA
        refine va_calliD hd0 (va_runV_D (As := [.int 7, .int ((σ 2).1 3)]) (rest := []) ⟨hx, hb, hml, hown, hts⟩ (n_X7_fail l dC dI ad cA adK adV H.size σ hI 7 ((σ 2).1 3)) (cwV 2 hts gX7_readLine_X7_fail rfl rfl rfl (by decide +kernel) ⟨Nat.le_of_ble_eq_true rfl, Nat.le_of_ble_eq_true rfl⟩) ⟨gBlind, va_recv hK hP (ci := 6) (q0 := 1) rfl (at_6 rfl), gStart (As := [.ref (ad 1), .int 7, .int ((σ 2).1 3)]) hP hD hK0 hT hS hF (d_9)⟩ rfl rfl hl.1 rfl (lv_room (Nat.le_of_ble_eq_true rfl)) dX7_readLine_110 ⟨Nat.le_of_ble_eq_true rfl, Nat.le_of_ble_eq_true rfl⟩) hS (fun q _ h => hF q h) hF (fun r_25 σ7 t H locs ht hvm hw hB hz1 hk1 hS d_26 hd0 => ?_)
        have hts := dr_words hts0 (d_26)
        have hK := gKd hK0 (d_26)
        have hown : (s.setDrawn (d_26)).vm.findClass RX7 = some m.cls := hown0
        obtain ⟨hP, hD⟩ := gBack hF ht hB
        obtain ⟨hIσ7, fcσ7, hp_27⟩ := hw
        refine W.endD hd0 ?_
        exact W.zret (v := r_25) hx hb hr (by rcases hp_27 with h9 | h9 <;> rw [h9] <;> decide +kernel) (fun t ht hW => ⟨⟨r_25, σ7, rfl, ⟨hIσ7, (gFr.tr (gFr.rfl (L := [0, 3, 4, 6, 9, 25, 27, 30]) (σ := σ)) fcσ7 (by decide)), hp_27⟩, ⟨by rw [ht]; exact hP, hD⟩⟩, hS.F ht⟩) hS.2.2 dX7_readLine_113
    · refine lv_iload_n hx hb dX7_readLine_64 rfl (lv_at hl 0 rfl) ?_
      refine lv_if_ne (tgt := 93) hx hb dX7_readLine_65 (by decide) (fun c_28 => ?_) (fun c_28 => ?_)
      · refine lv_aload_n hx hb dX7_readLine_93 rfl (lv_at hl 2 rfl) ?_
        refine va_get (D := (dC, dI)) (ci := 6) (v := .int ((σ 1).1 3)) (C := RX7) (T := TX7) (N := 5) hx hb hts hinX7 hown hK hP 1 (at_6 rfl) rfl 3 (by decide) (hts (.fieldLink RX7 25 "BondCalendars$Reader" "deskTold" "Z") (by decide +kernel)) (fun _ h9 => h9) rfl dX7_readLine_94 ?_
        refine lv_if_ne (tgt := 114) hx hb dX7_readLine_97 (by decide) (fun c_29 => ?_) (fun c_29 => ?_)
        · refine lv_iload_n hx hb dX7_readLine_114 rfl (lv_at hl 1 rfl) ?_
          refine lv_if_eq (tgt := 124) hx hb dX7_readLine_115 (by decide) (fun c_30 => ?_) (fun c_30 => ?_)
          · refine lv_iload_n hx hb dX7_readLine_124 rfl (lv_at hl 0 rfl) ?_
            refine lv_if_eq (tgt := 136) hx hb dX7_readLine_125 (by decide) (fun c_31 => ?_) (fun c_31 => ?_)
            · refine lv_aload_n hx hb dX7_readLine_136 rfl (lv_at hl 2 rfl) ?_
              refine lv_aload_n hx hb dX7_readLine_137 rfl (lv_at hl 3 rfl) ?_
              have hF := gFree hD hS hA
              refine va_calliD hd0 (va_runV_D (As := [.ref (ad a0)]) (rest := []) ⟨hx, hb, hml, hown, hts⟩ (n_X7_readQuote l dC dI ad cA adK adV H.size σ hI a0 ha0) (cwV 1 hts gX7_readLine_X7_readQuote rfl rfl rfl (by decide +kernel) ⟨Nat.le_of_ble_eq_true rfl, Nat.le_of_ble_eq_true rfl⟩) ⟨gBlind, va_recv hK hP (ci := 6) (q0 := 1) rfl (at_6 rfl), gStart (As := [.ref (ad 1), .ref (ad a0)]) hP hD hK0 hT hS hF (d_9)⟩ rfl rfl hl.1 rfl (lv_room (Nat.le_of_ble_eq_true rfl)) dX7_readLine_138 ⟨Nat.le_of_ble_eq_true rfl, Nat.le_of_ble_eq_true rfl⟩) hS (fun q _ h => hF q h) hF (fun r_32 σ8 t H locs ht hvm hw hB hz1 hk1 hS d_33 hd0 => ?_)
              have hts := dr_words hts0 (d_33)
              have hK := gKd hK0 (d_33)
              have hown : (s.setDrawn (d_33)).vm.findClass RX7 = some m.cls := hown0
              obtain ⟨hP, hD⟩ := gBack hF ht hB
              obtain ⟨hIσ8, fcσ8, hp_34⟩ := hw
              refine W.endD hd0 ?_
              exact W.zret (v := r_32) hx hb hr (by rcases hp_34 with h9 | h9 <;> rw [h9] <;> decide +kernel) (fun t ht hW => ⟨⟨r_32, σ8, rfl, ⟨hIσ8, (gFr.tr (gFr.rfl (L := [0, 3, 4, 6, 9, 25, 27, 30]) (σ := σ)) fcσ8 (by decide)), hp_34⟩, ⟨by rw [ht]; exact hP, hD⟩⟩, hS.F ht⟩) hS.2.2 dX7_readLine_141
            · refine lv_aload_n hx hb dX7_readLine_128 rfl (lv_at hl 2 rfl) ?_
              refine lv_aload_n hx hb dX7_readLine_129 rfl (lv_at hl 3 rfl) ?_
              have hF := gFree hD hS hA
              refine va_calliD hd0 (va_runV_D (As := [.ref (ad a0)]) (rest := []) ⟨hx, hb, hml, hown, hts⟩ (n_X7_readBond l dC dI ad cA adK adV H.size σ hI a0 ha0) (cwV 1 hts gX7_readLine_X7_readBond rfl rfl rfl (by decide +kernel) ⟨Nat.le_of_ble_eq_true rfl, Nat.le_of_ble_eq_true rfl⟩) ⟨gBlind, va_recv hK hP (ci := 6) (q0 := 1) rfl (at_6 rfl), gStart (As := [.ref (ad 1), .ref (ad a0)]) hP hD hK0 hT hS hF (d_9)⟩ rfl rfl hl.1 rfl (lv_room (Nat.le_of_ble_eq_true rfl)) dX7_readLine_130 ⟨Nat.le_of_ble_eq_true rfl, Nat.le_of_ble_eq_true rfl⟩) hS (fun q _ h => hF q h) hF (fun r_35 σ9 t H locs ht hvm hw hB hz1 hk1 hS d_36 hd0 => ?_)
              have hts := dr_words hts0 (d_36)
              have hK := gKd hK0 (d_36)
              have hown : (s.setDrawn (d_36)).vm.findClass RX7 = some m.cls := hown0
              obtain ⟨hP, hD⟩ := gBack hF ht hB
              obtain ⟨hIσ9, fcσ9, hp_37⟩ := hw
              refine lv_goto (tgt := 141) hx hb dX7_readLine_133 (by decide) ?_
              refine W.endD hd0 ?_
              exact W.zret (v := r_35) hx hb hr (by rcases hp_37 with h9 | h9 <;> rw [h9] <;> decide +kernel) (fun t ht hW => ⟨⟨r_35, σ9, rfl, ⟨hIσ9, (gFr.tr (gFr.rfl (L := [0, 3, 4, 6, 9, 25, 27, 30]) (σ := σ)) fcσ9 (by decide)), hp_37⟩, ⟨by rw [ht]; exact hP, hD⟩⟩, hS.F ht⟩) hS.2.2 dX7_readLine_141
          · refine lv_aload_n hx hb dX7_readLine_118 rfl (lv_at hl 2 rfl) ?_
            refine lv_aload_n hx hb dX7_readLine_119 rfl (lv_at hl 3 rfl) ?_
            have hF := gFree hD hS hA
            refine va_calliD hd0 (va_runV_D (As := [.ref (ad a0)]) (rest := []) ⟨hx, hb, hml, hown, hts⟩ (n_X7_readHoliday l dC dI ad cA adK adV H.size σ hI a0 ha0) (cwV 1 hts gX7_readLine_X7_readHoliday rfl rfl rfl (by decide +kernel) ⟨Nat.le_of_ble_eq_true rfl, Nat.le_of_ble_eq_true rfl⟩) ⟨gBlind, va_recv hK hP (ci := 6) (q0 := 1) rfl (at_6 rfl), gStart (As := [.ref (ad 1), .ref (ad a0)]) hP hD hK0 hT hS hF (d_9)⟩ rfl rfl hl.1 rfl (lv_room (Nat.le_of_ble_eq_true rfl)) dX7_readLine_120 ⟨Nat.le_of_ble_eq_true rfl, Nat.le_of_ble_eq_true rfl⟩) hS (fun q _ h => hF q h) hF (fun r_38 σ10 t H locs ht hvm hw hB hz1 hk1 hS d_39 hd0 => ?_)
            have hts := dr_words hts0 (d_39)
            have hK := gKd hK0 (d_39)
            have hown : (s.setDrawn (d_39)).vm.findClass RX7 = some m.cls := hown0
            obtain ⟨hP, hD⟩ := gBack hF ht hB
            obtain ⟨hIσ10, fcσ10, hp_40⟩ := hw
            refine W.endD hd0 ?_
            exact W.zret (v := r_38) hx hb hr (by rcases hp_40 with h9 | h9 <;> rw [h9] <;> decide +kernel) (fun t ht hW => ⟨⟨r_38, σ10, rfl, ⟨hIσ10, (gFr.tr (gFr.rfl (L := [0, 3, 4, 6, 9, 25, 27, 30]) (σ := σ)) fcσ10 (by decide)), hp_40⟩, ⟨by rw [ht]; exact hP, hD⟩⟩, hS.F ht⟩) hS.2.2 dX7_readLine_123
        · refine lv_aload_n hx hb dX7_readLine_100 rfl (lv_at hl 2 rfl) ?_
          refine lv_bipush (v := 7) hx hb dX7_readLine_101 (by decide) ?_
          refine lv_aload_n hx hb dX7_readLine_103 rfl (lv_at hl 2 rfl) ?_
          refine va_get (D := (dC, dI)) (ci := 6) (v := .ref (ad 2)) (C := RX7) (T := TX7) (N := 5) hx hb hts hinX7 hown hK hP 1 (at_6 rfl) rfl 0 (by decide) (hts (.fieldLink RX7 12 "BondCalendars$Reader" "tape" "LBondCalendars$Tape;") (by decide +kernel)) (fun _ h9 => h9) rfl dX7_readLine_104 ?_
          have bd_41 := rd_9_3 (c := 2) hI rfl
          refine va_get (D := (dC, dI)) (ci := 9) (v := .int ((σ 2).1 3)) (C := RX10) (T := TX10) (N := 7) hx hb hts hinX10 hown hK hP 2 (at_9 rfl) rfl 3 (by decide) (hts (.fieldLink RX7 52 "BondCalendars$Tape" "start" "I") (by decide +kernel)) (fun _ h9 => h9) rfl dX7_readLine_107 ?_
          have hF := gFree hD hS hA
          refine va_calliD hd0 (va_runV_D (As := [.int 7, .int ((σ 2).1 3)]) (rest := []) ⟨hx, hb, hml, hown, hts⟩ (n_X7_fail l dC dI ad cA adK adV H.size σ hI 7 ((σ 2).1 3)) (cwV 2 hts gX7_readLine_X7_fail rfl rfl rfl (by decide +kernel) ⟨Nat.le_of_ble_eq_true rfl, Nat.le_of_ble_eq_true rfl⟩) ⟨gBlind, va_recv hK hP (ci := 6) (q0 := 1) rfl (at_6 rfl), gStart (As := [.ref (ad 1), .int 7, .int ((σ 2).1 3)]) hP hD hK0 hT hS hF (d_9)⟩ rfl rfl hl.1 rfl (lv_room (Nat.le_of_ble_eq_true rfl)) dX7_readLine_110 ⟨Nat.le_of_ble_eq_true rfl, Nat.le_of_ble_eq_true rfl⟩) hS (fun q _ h => hF q h) hF (fun r_42 σ11 t H locs ht hvm hw hB hz1 hk1 hS d_43 hd0 => ?_)
          have hts := dr_words hts0 (d_43)
          have hK := gKd hK0 (d_43)
          have hown : (s.setDrawn (d_43)).vm.findClass RX7 = some m.cls := hown0
          obtain ⟨hP, hD⟩ := gBack hF ht hB
          obtain ⟨hIσ11, fcσ11, hp_44⟩ := hw
          refine W.endD hd0 ?_
          exact W.zret (v := r_42) hx hb hr (by rcases hp_44 with h9 | h9 <;> rw [h9] <;> decide +kernel) (fun t ht hW => ⟨⟨r_42, σ11, rfl, ⟨hIσ11, (gFr.tr (gFr.rfl (L := [0, 3, 4, 6, 9, 25, 27, 30]) (σ := σ)) fcσ11 (by decide)), hp_44⟩, ⟨by rw [ht]; exact hP, hD⟩⟩, hS.F ht⟩) hS.2.2 dX7_readLine_113
      · refine lv_aload_n hx hb dX7_readLine_68 rfl (lv_at hl 2 rfl) ?_
        refine va_get (D := (dC, dI)) (ci := 6) (v := .ref (ad 2)) (C := RX7) (T := TX7) (N := 5) hx hb hts hinX7 hown hK hP 1 (at_6 rfl) rfl 0 (by decide) (hts (.fieldLink RX7 12 "BondCalendars$Reader" "tape" "LBondCalendars$Tape;") (by decide +kernel)) (fun _ h9 => h9) rfl dX7_readLine_69 ?_
        refine va_ldcS (tx := "quote") (q := (adK 21)) hx hb hown (vk_R.same rfl hT.2.1.2.2.2.2.2.2.2.2.2.2.2.2.2.2.2.2.2.2.2.2.2.1) dX7_readLine_72 ?_
        have hF := gFree hD hS hA
        refine va_calliD hd0 (va_runV_D (As := [.ref (adK 21)]) (rest := []) ⟨hx, hb, hml, hown, hts⟩ (n_X10_isWord l dC dI ad cA adK adV H.size σ hI 21 (by decide)) (cwV 1 hts gX7_readLine_X10_isWord rfl rfl rfl (by decide +kernel) ⟨Nat.le_of_ble_eq_true rfl, Nat.le_of_ble_eq_true rfl⟩) ⟨gBlind, va_recv hK hP (ci := 9) (q0 := 2) rfl (at_9 rfl), gStart (As := [.ref (ad 2), .ref (adK 21)]) hP hD hK0 hT hS hF (d_9)⟩ rfl rfl hl.1 rfl (lv_room (Nat.le_of_ble_eq_true rfl)) dX7_readLine_74 ⟨Nat.le_of_ble_eq_true rfl, Nat.le_of_ble_eq_true rfl⟩) hS (fun q _ h => hF q h) hF (fun r_45 σ12 t H locs ht hvm hw hB hz1 hk1 hS d_46 hd0 => ?_)
        have hts := dr_words hts0 (d_46)
        have hK := gKd hK0 (d_46)
        have hown : (s.setDrawn (d_46)).vm.findClass RX7 = some m.cls := hown0
        obtain ⟨hP, hD⟩ := gBack hF ht hB
        obtain ⟨hIσ12, hro, hp_47⟩ := hw
        subst hro
        refine lv_if_ne (tgt := 93) hx hb dX7_readLine_77 (by decide) (fun c_48 => ?_) (fun c_48 => ?_)
        · refine lv_aload_n hx hb dX7_readLine_93 rfl (lv_at hl 2 rfl) ?_
          refine va_get (D := (dC, dI)) (ci := 6) (v := .int ((σ 1).1 3)) (C := RX7) (T := TX7) (N := 5) hx hb hts hinX7 hown hK hP 1 (at_6 rfl) rfl 3 (by decide) (hts (.fieldLink RX7 25 "BondCalendars$Reader" "deskTold" "Z") (by decide +kernel)) (fun _ h9 => h9) rfl dX7_readLine_94 ?_
          refine lv_if_ne (tgt := 114) hx hb dX7_readLine_97 (by decide) (fun c_49 => ?_) (fun c_49 => ?_)
          · refine lv_iload_n hx hb dX7_readLine_114 rfl (lv_at hl 1 rfl) ?_
            refine lv_if_eq (tgt := 124) hx hb dX7_readLine_115 (by decide) (fun c_50 => ?_) (fun c_50 => ?_)
            · refine lv_iload_n hx hb dX7_readLine_124 rfl (lv_at hl 0 rfl) ?_
              refine lv_if_eq (tgt := 136) hx hb dX7_readLine_125 (by decide) (fun c_51 => ?_) (fun c_51 => ?_)
              · refine lv_aload_n hx hb dX7_readLine_136 rfl (lv_at hl 2 rfl) ?_
                refine lv_aload_n hx hb dX7_readLine_137 rfl (lv_at hl 3 rfl) ?_
                have hF := gFree hD hS hA
                refine va_calliD hd0 (va_runV_D (As := [.ref (ad a0)]) (rest := []) ⟨hx, hb, hml, hown, hts⟩ (n_X7_readQuote l dC dI ad cA adK adV H.size σ hI a0 ha0) (cwV 1 hts gX7_readLine_X7_readQuote rfl rfl rfl (by decide +kernel) ⟨Nat.le_of_ble_eq_true rfl, Nat.le_of_ble_eq_true rfl⟩) ⟨gBlind, va_recv hK hP (ci := 6) (q0 := 1) rfl (at_6 rfl), gStart (As := [.ref (ad 1), .ref (ad a0)]) hP hD hK0 hT hS hF (d_46)⟩ rfl rfl hl.1 rfl (lv_room (Nat.le_of_ble_eq_true rfl)) dX7_readLine_138 ⟨Nat.le_of_ble_eq_true rfl, Nat.le_of_ble_eq_true rfl⟩) hS (fun q _ h => hF q h) hF (fun r_52 σ13 t H locs ht hvm hw hB hz1 hk1 hS d_53 hd0 => ?_)
                have hts := dr_words hts0 (d_53)
                have hK := gKd hK0 (d_53)
                have hown : (s.setDrawn (d_53)).vm.findClass RX7 = some m.cls := hown0
                obtain ⟨hP, hD⟩ := gBack hF ht hB
                obtain ⟨hIσ13, fcσ13, hp_54⟩ := hw
                refine W.endD hd0 ?_
                exact W.zret (v := r_52) hx hb hr (by rcases hp_54 with h9 | h9 <;> rw [h9] <;> decide +kernel) (fun t ht hW => ⟨⟨r_52, σ13, rfl, ⟨hIσ13, (gFr.tr (gFr.rfl (L := [0, 3, 4, 6, 9, 25, 27, 30]) (σ := σ)) fcσ13 (by decide)), hp_54⟩, ⟨by rw [ht]; exact hP, hD⟩⟩, hS.F ht⟩) hS.2.2 dX7_readLine_141
              · refine lv_aload_n hx hb dX7_readLine_128 rfl (lv_at hl 2 rfl) ?_
                refine lv_aload_n hx hb dX7_readLine_129 rfl (lv_at hl 3 rfl) ?_
                have hF := gFree hD hS hA
                refine va_calliD hd0 (va_runV_D (As := [.ref (ad a0)]) (rest := []) ⟨hx, hb, hml, hown, hts⟩ (n_X7_readBond l dC dI ad cA adK adV H.size σ hI a0 ha0) (cwV 1 hts gX7_readLine_X7_readBond rfl rfl rfl (by decide +kernel) ⟨Nat.le_of_ble_eq_true rfl, Nat.le_of_ble_eq_true rfl⟩) ⟨gBlind, va_recv hK hP (ci := 6) (q0 := 1) rfl (at_6 rfl), gStart (As := [.ref (ad 1), .ref (ad a0)]) hP hD hK0 hT hS hF (d_46)⟩ rfl rfl hl.1 rfl (lv_room (Nat.le_of_ble_eq_true rfl)) dX7_readLine_130 ⟨Nat.le_of_ble_eq_true rfl, Nat.le_of_ble_eq_true rfl⟩) hS (fun q _ h => hF q h) hF (fun r_55 σ14 t H locs ht hvm hw hB hz1 hk1 hS d_56 hd0 => ?_)
                have hts := dr_words hts0 (d_56)
                have hK := gKd hK0 (d_56)
                have hown : (s.setDrawn (d_56)).vm.findClass RX7 = some m.cls := hown0
                obtain ⟨hP, hD⟩ := gBack hF ht hB
                obtain ⟨hIσ14, fcσ14, hp_57⟩ := hw
                refine lv_goto (tgt := 141) hx hb dX7_readLine_133 (by decide) ?_
                refine W.endD hd0 ?_
                exact W.zret (v := r_55) hx hb hr (by rcases hp_57 with h9 | h9 <;> rw [h9] <;> decide +kernel) (fun t ht hW => ⟨⟨r_55, σ14, rfl, ⟨hIσ14, (gFr.tr (gFr.rfl (L := [0, 3, 4, 6, 9, 25, 27, 30]) (σ := σ)) fcσ14 (by decide)), hp_57⟩, ⟨by rw [ht]; exact hP, hD⟩⟩, hS.F ht⟩) hS.2.2 dX7_readLine_141
            · refine lv_aload_n hx hb dX7_readLine_118 rfl (lv_at hl 2 rfl) ?_
              refine lv_aload_n hx hb dX7_readLine_119 rfl (lv_at hl 3 rfl) ?_
              have hF := gFree hD hS hA
              refine va_calliD hd0 (va_runV_D (As := [.ref (ad a0)]) (rest := []) ⟨hx, hb, hml, hown, hts⟩ (n_X7_readHoliday l dC dI ad cA adK adV H.size σ hI a0 ha0) (cwV 1 hts gX7_readLine_X7_readHoliday rfl rfl rfl (by decide +kernel) ⟨Nat.le_of_ble_eq_true rfl, Nat.le_of_ble_eq_true rfl⟩) ⟨gBlind, va_recv hK hP (ci := 6) (q0 := 1) rfl (at_6 rfl), gStart (As := [.ref (ad 1), .ref (ad a0)]) hP hD hK0 hT hS hF (d_46)⟩ rfl rfl hl.1 rfl (lv_room (Nat.le_of_ble_eq_true rfl)) dX7_readLine_120 ⟨Nat.le_of_ble_eq_true rfl, Nat.le_of_ble_eq_true rfl⟩) hS (fun q _ h => hF q h) hF (fun r_58 σ15 t H locs ht hvm hw hB hz1 hk1 hS d_59 hd0 => ?_)
              have hts := dr_words hts0 (d_59)
              have hK := gKd hK0 (d_59)
              have hown : (s.setDrawn (d_59)).vm.findClass RX7 = some m.cls := hown0
              obtain ⟨hP, hD⟩ := gBack hF ht hB
              obtain ⟨hIσ15, fcσ15, hp_60⟩ := hw
              refine W.endD hd0 ?_
              exact W.zret (v := r_58) hx hb hr (by rcases hp_60 with h9 | h9 <;> rw [h9] <;> decide +kernel) (fun t ht hW => ⟨⟨r_58, σ15, rfl, ⟨hIσ15, (gFr.tr (gFr.rfl (L := [0, 3, 4, 6, 9, 25, 27, 30]) (σ := σ)) fcσ15 (by decide)), hp_60⟩, ⟨by rw [ht]; exact hP, hD⟩⟩, hS.F ht⟩) hS.2.2 dX7_readLine_123
          · refine lv_aload_n hx hb dX7_readLine_100 rfl (lv_at hl 2 rfl) ?_
            refine lv_bipush (v := 7) hx hb dX7_readLine_101 (by decide) ?_
            refine lv_aload_n hx hb dX7_readLine_103 rfl (lv_at hl 2 rfl) ?_
            refine va_get (D := (dC, dI)) (ci := 6) (v := .ref (ad 2)) (C := RX7) (T := TX7) (N := 5) hx hb hts hinX7 hown hK hP 1 (at_6 rfl) rfl 0 (by decide) (hts (.fieldLink RX7 12 "BondCalendars$Reader" "tape" "LBondCalendars$Tape;") (by decide +kernel)) (fun _ h9 => h9) rfl dX7_readLine_104 ?_
            have bd_61 := rd_9_3 (c := 2) hI rfl
            refine va_get (D := (dC, dI)) (ci := 9) (v := .int ((σ 2).1 3)) (C := RX10) (T := TX10) (N := 7) hx hb hts hinX10 hown hK hP 2 (at_9 rfl) rfl 3 (by decide) (hts (.fieldLink RX7 52 "BondCalendars$Tape" "start" "I") (by decide +kernel)) (fun _ h9 => h9) rfl dX7_readLine_107 ?_
            have hF := gFree hD hS hA
            refine va_calliD hd0 (va_runV_D (As := [.int 7, .int ((σ 2).1 3)]) (rest := []) ⟨hx, hb, hml, hown, hts⟩ (n_X7_fail l dC dI ad cA adK adV H.size σ hI 7 ((σ 2).1 3)) (cwV 2 hts gX7_readLine_X7_fail rfl rfl rfl (by decide +kernel) ⟨Nat.le_of_ble_eq_true rfl, Nat.le_of_ble_eq_true rfl⟩) ⟨gBlind, va_recv hK hP (ci := 6) (q0 := 1) rfl (at_6 rfl), gStart (As := [.ref (ad 1), .int 7, .int ((σ 2).1 3)]) hP hD hK0 hT hS hF (d_46)⟩ rfl rfl hl.1 rfl (lv_room (Nat.le_of_ble_eq_true rfl)) dX7_readLine_110 ⟨Nat.le_of_ble_eq_true rfl, Nat.le_of_ble_eq_true rfl⟩) hS (fun q _ h => hF q h) hF (fun r_62 σ16 t H locs ht hvm hw hB hz1 hk1 hS d_63 hd0 => ?_)
            have hts := dr_words hts0 (d_63)
            have hK := gKd hK0 (d_63)
            have hown : (s.setDrawn (d_63)).vm.findClass RX7 = some m.cls := hown0
            obtain ⟨hP, hD⟩ := gBack hF ht hB
            obtain ⟨hIσ16, fcσ16, hp_64⟩ := hw
            refine W.endD hd0 ?_
            exact W.zret (v := r_62) hx hb hr (by rcases hp_64 with h9 | h9 <;> rw [h9] <;> decide +kernel) (fun t ht hW => ⟨⟨r_62, σ16, rfl, ⟨hIσ16, (gFr.tr (gFr.rfl (L := [0, 3, 4, 6, 9, 25, 27, 30]) (σ := σ)) fcσ16 (by decide)), hp_64⟩, ⟨by rw [ht]; exact hP, hD⟩⟩, hS.F ht⟩) hS.2.2 dX7_readLine_113
        · refine lv_aload_n hx hb dX7_readLine_80 rfl (lv_at hl 2 rfl) ?_
          refine lv_iconst (v := 1) hx hb dX7_readLine_81 (by decide) ?_
          refine lv_aload_n hx hb dX7_readLine_82 rfl (lv_at hl 2 rfl) ?_
          refine va_get (D := (dC, dI)) (ci := 6) (v := .ref (ad 2)) (C := RX7) (T := TX7) (N := 5) hx hb hts hinX7 hown hK hP 1 (at_6 rfl) rfl 0 (by decide) (hts (.fieldLink RX7 12 "BondCalendars$Reader" "tape" "LBondCalendars$Tape;") (by decide +kernel)) (fun _ h9 => h9) rfl dX7_readLine_83 ?_
          have bd_65 := rd_9_3 (c := 2) hI rfl
          refine va_get (D := (dC, dI)) (ci := 9) (v := .int ((σ 2).1 3)) (C := RX10) (T := TX10) (N := 7) hx hb hts hinX10 hown hK hP 2 (at_9 rfl) rfl 3 (by decide) (hts (.fieldLink RX7 52 "BondCalendars$Tape" "start" "I") (by decide +kernel)) (fun _ h9 => h9) rfl dX7_readLine_86 ?_
          have hF := gFree hD hS hA
          refine va_calliD hd0 (va_runV_D (As := [.int 1, .int ((σ 2).1 3)]) (rest := []) ⟨hx, hb, hml, hown, hts⟩ (n_X7_fail l dC dI ad cA adK adV H.size σ hI 1 ((σ 2).1 3)) (cwV 2 hts gX7_readLine_X7_fail rfl rfl rfl (by decide +kernel) ⟨Nat.le_of_ble_eq_true rfl, Nat.le_of_ble_eq_true rfl⟩) ⟨gBlind, va_recv hK hP (ci := 6) (q0 := 1) rfl (at_6 rfl), gStart (As := [.ref (ad 1), .int 1, .int ((σ 2).1 3)]) hP hD hK0 hT hS hF (d_46)⟩ rfl rfl hl.1 rfl (lv_room (Nat.le_of_ble_eq_true rfl)) dX7_readLine_89 ⟨Nat.le_of_ble_eq_true rfl, Nat.le_of_ble_eq_true rfl⟩) hS (fun q _ h => hF q h) hF (fun r_66 σ17 t H locs ht hvm hw hB hz1 hk1 hS d_67 hd0 => ?_)
          have hts := dr_words hts0 (d_67)
          have hK := gKd hK0 (d_67)
          have hown : (s.setDrawn (d_67)).vm.findClass RX7 = some m.cls := hown0
          obtain ⟨hP, hD⟩ := gBack hF ht hB
          obtain ⟨hIσ17, fcσ17, hp_68⟩ := hw
          refine W.endD hd0 ?_
          exact W.zret (v := r_66) hx hb hr (by rcases hp_68 with h9 | h9 <;> rw [h9] <;> decide +kernel) (fun t ht hW => ⟨⟨r_66, σ17, rfl, ⟨hIσ17, (gFr.tr (gFr.rfl (L := [0, 3, 4, 6, 9, 25, 27, 30]) (σ := σ)) fcσ17 (by decide)), hp_68⟩, ⟨by rw [ht]; exact hP, hD⟩⟩, hS.F ht⟩) hS.2.2 dX7_readLine_92
  · refine lv_aload_n hx hb dX7_readLine_12 rfl (lv_at hl 0 rfl) ?_
    refine va_get (D := (dC, dI)) (ci := 6) (v := .int ((σ 1).1 3)) (C := RX7) (T := TX7) (N := 5) hx hb hts hinX7 hown hK hP 1 (at_6 rfl) rfl 3 (by decide) (hts (.fieldLink RX7 25 "BondCalendars$Reader" "deskTold" "Z") (by decide +kernel)) (fun _ h9 => h9) rfl dX7_readLine_13 ?_
    refine lv_if_eq (tgt := 34) hx hb dX7_readLine_16 (by decide) (fun c_69 => ?_) (fun c_69 => ?_)
    · refine lv_aload_n hx hb dX7_readLine_34 rfl (lv_at hl 0 rfl) ?_
      refine lv_aload_n hx hb dX7_readLine_35 rfl (lv_at hl 1 rfl) ?_
      have hF := gFree hD hS hA
      refine va_calliD hd0 (va_runV_D (As := [.ref (ad a0)]) (rest := []) ⟨hx, hb, hml, hown, hts⟩ (n_X7_readDesk l dC dI ad cA adK adV H.size σ hI a0 ha0) (cwV 1 hts gX7_readLine_X7_readDesk rfl rfl rfl (by decide +kernel) ⟨Nat.le_of_ble_eq_true rfl, Nat.le_of_ble_eq_true rfl⟩) ⟨gBlind, va_recv hK hP (ci := 6) (q0 := 1) rfl (at_6 rfl), gStart (As := [.ref (ad 1), .ref (ad a0)]) hP hD hK0 hT hS hF (d_2)⟩ rfl rfl hl.1 rfl (lv_room (Nat.le_of_ble_eq_true rfl)) dX7_readLine_36 ⟨Nat.le_of_ble_eq_true rfl, Nat.le_of_ble_eq_true rfl⟩) hS (fun q _ h => hF q h) hF (fun r_70 σ18 t H locs ht hvm hw hB hz1 hk1 hS d_71 hd0 => ?_)
      have hts := dr_words hts0 (d_71)
      have hK := gKd hK0 (d_71)
      have hown : (s.setDrawn (d_71)).vm.findClass RX7 = some m.cls := hown0
      obtain ⟨hP, hD⟩ := gBack hF ht hB
      obtain ⟨hIσ18, fcσ18, hp_72⟩ := hw
      refine W.endD hd0 ?_
      exact W.zret (v := r_70) hx hb hr (by rcases hp_72 with h9 | h9 <;> rw [h9] <;> decide +kernel) (fun t ht hW => ⟨⟨r_70, σ18, rfl, ⟨hIσ18, (gFr.tr (gFr.rfl (L := [0, 3, 4, 6, 9, 25, 27, 30]) (σ := σ)) fcσ18 (by decide)), hp_72⟩, ⟨by rw [ht]; exact hP, hD⟩⟩, hS.F ht⟩) hS.2.2 dX7_readLine_39
    · refine lv_aload_n hx hb dX7_readLine_19 rfl (lv_at hl 0 rfl) ?_
      refine lv_iconst (v := 3) hx hb dX7_readLine_20 (by decide) ?_
      refine lv_aload_n hx hb dX7_readLine_21 rfl (lv_at hl 0 rfl) ?_
      refine va_get (D := (dC, dI)) (ci := 6) (v := .ref (ad 2)) (C := RX7) (T := TX7) (N := 5) hx hb hts hinX7 hown hK hP 1 (at_6 rfl) rfl 0 (by decide) (hts (.fieldLink RX7 12 "BondCalendars$Reader" "tape" "LBondCalendars$Tape;") (by decide +kernel)) (fun _ h9 => h9) rfl dX7_readLine_22 ?_
      have bd_73 := rd_9_3 (c := 2) hI rfl
      refine va_get (D := (dC, dI)) (ci := 9) (v := .int ((σ 2).1 3)) (C := RX10) (T := TX10) (N := 7) hx hb hts hinX10 hown hK hP 2 (at_9 rfl) rfl 3 (by decide) (hts (.fieldLink RX7 52 "BondCalendars$Tape" "start" "I") (by decide +kernel)) (fun _ h9 => h9) rfl dX7_readLine_25 ?_
      have hF := gFree hD hS hA
      refine va_calliD hd0 (va_runV_D (As := [.int 3, .int ((σ 2).1 3)]) (rest := []) ⟨hx, hb, hml, hown, hts⟩ (n_X7_fail l dC dI ad cA adK adV H.size σ hI 3 ((σ 2).1 3)) (cwV 2 hts gX7_readLine_X7_fail rfl rfl rfl (by decide +kernel) ⟨Nat.le_of_ble_eq_true rfl, Nat.le_of_ble_eq_true rfl⟩) ⟨gBlind, va_recv hK hP (ci := 6) (q0 := 1) rfl (at_6 rfl), gStart (As := [.ref (ad 1), .int 3, .int ((σ 2).1 3)]) hP hD hK0 hT hS hF (d_2)⟩ rfl rfl hl.1 rfl (lv_room (Nat.le_of_ble_eq_true rfl)) dX7_readLine_28 ⟨Nat.le_of_ble_eq_true rfl, Nat.le_of_ble_eq_true rfl⟩) hS (fun q _ h => hF q h) hF (fun r_74 σ19 t H locs ht hvm hw hB hz1 hk1 hS d_75 hd0 => ?_)
      have hts := dr_words hts0 (d_75)
      have hK := gKd hK0 (d_75)
      have hown : (s.setDrawn (d_75)).vm.findClass RX7 = some m.cls := hown0
      obtain ⟨hP, hD⟩ := gBack hF ht hB
      obtain ⟨hIσ19, fcσ19, hp_76⟩ := hw
      refine lv_goto (tgt := 39) hx hb dX7_readLine_31 (by decide) ?_
      refine W.endD hd0 ?_
      exact W.zret (v := r_74) hx hb hr (by rcases hp_76 with h9 | h9 <;> rw [h9] <;> decide +kernel) (fun t ht hW => ⟨⟨r_74, σ19, rfl, ⟨hIσ19, (gFr.tr (gFr.rfl (L := [0, 3, 4, 6, 9, 25, 27, 30]) (σ := σ)) fcσ19 (by decide)), hp_76⟩, ⟨by rw [ht]; exact hP, hD⟩⟩, hS.F ht⟩) hS.2.2 dX7_readLine_39
set_option maxHeartbeats 8000000 in
set_option maxRecDepth 100000 in
theorem n_X7_read (l : Launch) (dC : Nat → ClassId) (dI : Nat → Nat → Nat) (ad : Nat → Nat) (cA : Nat → ClassId) (adK adV : Nat → Nat) (sz : Nat) (σ : gs) (hI : InvX σ) (p0 : Int32) (a1 : Nat) (ha1 : kX a1 = 3) : MetD lw_cs l yX7_read wsX7_read ({ frames := 9, cells := 0, slots := 0, locals := 198 }) (va_Pc [.ref (ad 1), .int p0, .ref (ad a1)] (gPre adK adV (dC, dI) (wX ad cA σ) (tX cA) sz)) (va_Qv (fun (τ : gs) => InvX τ ∧ gFr [0, 3, 4, 6, 9, 25, 27, 30] σ τ ∧ (True)) (fun τ t => gPost (dC, dI) (va_A (wX ad cA σ) sz) (wX ad cA τ) t) (va_A (wX ad cA σ) sz)) 0 0 (va_A (wX ad cA σ) sz) := by
  refine MetD.ofW (cc := cX7_read) (maxL := 5) (ret := none) (by decide) rfl ?_
  intro p e s m args below meth c s₁ B hml hv hd0
  obtain ⟨rfl, hsz, hP, hK, hD0, hT⟩ := hv
  have hx := B.exec
  have hb := B.bytes
  have hr := B.returns
  have hts0 := atoms_spec (ws := wsX7_read) B.pre
  have hK0 := hK
  have hown0 : s.vm.findClass RX7 = some m.cls := findClass_of_methodNamed B.named
  have hlocks := B.notSynchronized
  have hinX7 : ∀ w ∈ u_ws RX7 TX7 5, w ∈ wsX7_read := (fun _ h9 => List.mem_cons_of_mem _ (List.mem_append_left _ (List.mem_append_left _ (List.mem_append_left _ (List.mem_append_left _ (List.mem_append_right _ h9))))))
  subst hsz
  have hD := hD0.self (sz := s.heap.size)
  generalize hAe : va_A (wX ad cA σ) s.heap.size = A at hD hT ⊢
  have hA : ∀ q : Nat, s.heap.size ≤ q → A q := fun q h => by rw [← hAe]; exact Or.inr h
  have hS : va_S A s.heap s.heap [] := va_S.rf
  have hl := lv_entry ([.ref (ad 1), .int p0, .ref (ad a1)]) (n := 5) (Nat.le_of_ble_eq_true rfl)
  rw [lg_entry_eq]
  generalize (lg_sl ([.ref (ad 1), .int p0, .ref (ad a1)]) ++ List.replicate (5 - (lg_sl ([.ref (ad 1), .int p0, .ref (ad a1)])).length) Slot.unset).toArray = ls at hl ⊢
  have hl : lv_has ls 5 [(0, .ref (ad 1)), (1, .int p0), (2, .ref (ad a1))] := hl
  have hts := dr_words hts0 (s.drawn)
  have hK := gKd hK0 (s.drawn)
  have hown : (s.setDrawn (s.drawn)).vm.findClass RX7 = some m.cls := hown0
  refine lv_aload_n hx hb dX7_read_0 rfl (lv_at hl 0 rfl) ?_
  refine lv_iconst (v := 0) hx hb dX7_read_1 (by decide) ?_
  refine va_put (D := (dC, dI)) (ci := 6) (v := .int 0) (C := RX7) (T := TX7) (N := 5) hx hb hts hinX7 tyX7 tyX7_ok nmX7 hown hK hP hD hS 1 (at_6 rfl) rfl 1 (by decide) (hts (.fieldLink RX7 18 "BondCalendars$Reader" "faultNumber" "I") (by decide +kernel)) (fun _ h9 => h9) rfl (ty := .int) (by decide +kernel) rfl rfl (Nat.le_of_ble_eq_true rfl) dX7_read_2 (fun H locs hP hD hS => ?_)
  obtain ⟨σ1, eσ1, hP, hD⟩ := gPut (se_6_1 rfl) hP hD
  have hIσ1 : InvX σ1 := by rw [eσ1]; exact inv_I hI (ok_6_1 rfl _)
  have frσ1 : gFr [0, 3, 4, 6, 9, 25, 27, 30] σ σ1 := by rw [eσ1]; exact gFr.pI (gFr.rfl (L := [0, 3, 4, 6, 9, 25, 27, 30]) (σ := σ)) rfl (by decide)
  refine lv_aload_n hx hb dX7_read_5 rfl (lv_at hl 0 rfl) ?_
  refine lv_iconst (v := (-1)) hx hb dX7_read_6 (by decide) ?_
  refine va_put (D := (dC, dI)) (ci := 6) (v := .int (-1)) (C := RX7) (T := TX7) (N := 5) hx hb hts hinX7 tyX7 tyX7_ok nmX7 hown hK hP hD hS 1 (at_6 rfl) rfl 2 (by decide) (hts (.fieldLink RX7 22 "BondCalendars$Reader" "faultPlace" "I") (by decide +kernel)) (fun _ h9 => h9) rfl (ty := .int) (by decide +kernel) rfl rfl (Nat.le_of_ble_eq_true rfl) dX7_read_7 (fun H locs hP hD hS => ?_)
  obtain ⟨σ2, eσ2, hP, hD⟩ := gPut (se_6_2 rfl) hP hD
  have hIσ2 : InvX σ2 := by rw [eσ2]; exact inv_I hIσ1 (ok_6_2 rfl _)
  have frσ2 : gFr [0, 3, 4, 6, 9, 25, 27, 30] σ σ2 := by rw [eσ2]; exact gFr.pI frσ1 rfl (by decide)
  refine lv_aload_n hx hb dX7_read_10 rfl (lv_at hl 0 rfl) ?_
  refine lv_iconst (v := 0) hx hb dX7_read_11 (by decide) ?_
  refine va_put (D := (dC, dI)) (ci := 6) (v := .int 0) (C := RX7) (T := TX7) (N := 5) hx hb hts hinX7 tyX7 tyX7_ok nmX7 hown hK hP hD hS 1 (at_6 rfl) rfl 3 (by decide) (hts (.fieldLink RX7 25 "BondCalendars$Reader" "deskTold" "Z") (by decide +kernel)) (fun _ h9 => h9) rfl (ty := .boolean) (by decide +kernel) (by decide +kernel) (by decide +kernel) (Nat.le_of_ble_eq_true rfl) dX7_read_12 (fun H locs hP hD hS => ?_)
  obtain ⟨σ3, eσ3, hP, hD⟩ := gPut (se_6_3 rfl) hP hD
  have hIσ3 : InvX σ3 := by rw [eσ3]; exact inv_I hIσ2 (ok_6_3 rfl _)
  have frσ3 : gFr [0, 3, 4, 6, 9, 25, 27, 30] σ σ3 := by rw [eσ3]; exact gFr.pI frσ2 rfl (by decide)
  refine lv_aload_n hx hb dX7_read_15 rfl (lv_at hl 2 rfl) ?_
  have hF := gFree hD hS hA
  refine va_callvD hd0 (va_runV_D (As := []) (rest := []) ⟨hx, hb, hml, hown, hts⟩ (n_X4_clear l dC dI ad cA adK adV H.size σ3 hIσ3 a1 ha1) (cwV 0 hts gX7_read_X4_clear rfl rfl rfl (by decide +kernel) ⟨Nat.le_of_ble_eq_true rfl, Nat.le_of_ble_eq_true rfl⟩) ⟨gBlind, va_recv hK hP (ci := 3) (q0 := a1) rfl (at_3 ha1), gStart (As := [.ref (ad a1)]) hP hD hK0 hT hS hF (s.drawn)⟩ rfl rfl hl.1 rfl (lv_room (Nat.le_of_ble_eq_true rfl)) dX7_read_16 ⟨Nat.le_of_ble_eq_true rfl, Nat.le_of_ble_eq_true rfl⟩) hS (fun q _ h => hF q h) hF (fun σ4 t H locs ht hvm hw hB hz1 hk1 hS d_2 hd0 => ?_)
  have hts := dr_words hts0 (d_2)
  have hK := gKd hK0 (d_2)
  have hown : (s.setDrawn (d_2)).vm.findClass RX7 = some m.cls := hown0
  obtain ⟨hP, hD⟩ := gBack hF ht hB
  obtain ⟨hIσ4, fcσ4, hp_3⟩ := hw
  refine lv_aload_n hx hb dX7_read_19 rfl (lv_at hl 0 rfl) ?_
  refine va_get (D := (dC, dI)) (ci := 6) (v := .ref (ad 2)) (C := RX7) (T := TX7) (N := 5) hx hb hts hinX7 hown hK hP 1 (at_6 rfl) rfl 0 (by decide) (hts (.fieldLink RX7 12 "BondCalendars$Reader" "tape" "LBondCalendars$Tape;") (by decide +kernel)) (fun _ h9 => h9) rfl dX7_read_20 ?_
  refine lv_iload_n hx hb dX7_read_23 rfl (lv_at hl 1 rfl) ?_
  have hF := gFree hD hS hA
  refine va_callvD hd0 (va_runV_D (As := [.int p0]) (rest := []) ⟨hx, hb, hml, hown, hts⟩ (n_X10_rewind l dC dI ad cA adK adV H.size σ4 hIσ4 p0) (cwV 1 hts gX7_read_X10_rewind rfl rfl rfl (by decide +kernel) ⟨Nat.le_of_ble_eq_true rfl, Nat.le_of_ble_eq_true rfl⟩) ⟨gBlind, va_recv hK hP (ci := 9) (q0 := 2) rfl (at_9 rfl), gStart (As := [.ref (ad 2), .int p0]) hP hD hK0 hT hS hF (d_2)⟩ rfl rfl hl.1 rfl (lv_room (Nat.le_of_ble_eq_true rfl)) dX7_read_24 ⟨Nat.le_of_ble_eq_true rfl, Nat.le_of_ble_eq_true rfl⟩) hS (fun q _ h => hF q h) hF (fun σ5 t H locs ht hvm hw hB hz1 hk1 hS d_5 hd0 => ?_)
  have hts := dr_words hts0 (d_5)
  have hK := gKd hK0 (d_5)
  have hown : (s.setDrawn (d_5)).vm.findClass RX7 = some m.cls := hown0
  obtain ⟨hP, hD⟩ := gBack hF ht hB
  obtain ⟨hIσ5, fcσ5, hp_6⟩ := hw
  refine lv_iconst (v := 1) hx hb dX7_read_27 (by decide) ?_
  refine lv_istore_n (lv' := [(3, .int 1), (0, .ref (ad 1)), (1, .int p0), (2, .ref (ad a1))]) hx hb dX7_read_28 rfl hl (by decide) rfl (fun ls hl => ?_)
  refine lv_iconst (v := 0) hx hb dX7_read_29 (by decide) ?_
  refine lv_istore (lv' := [(4, .int 0), (3, .int 1), (0, .ref (ad 1)), (1, .int p0), (2, .ref (ad a1))]) hx hb dX7_read_30 hl (by decide) rfl (fun ls hl => ?_)
  refine (fun (h : ∀ (n : Nat) (i4 : Int32) (go : Int32) (σ32x : gs) (d32 : Drawn) (H : Heap) (locs : List Loc) (ls : Array Slot), ((901 : Int32).toInt - i4.toInt).toNat < n → 0 ≤ i4 → InvX σ32x → gFr [0, 3, 4, 6, 9, 25, 27, 30] σ σ32x → s.drawn.sameBut d32 lw_cs → va_P (dC, dI) vwCl (wX ad cA σ32x) H → va_D A (wX ad cA σ32x) → va_S A s.heap H locs → lv_has ls 5 [(4, .int i4), (3, .int go), (0, .ref (ad 1)), (1, .int p0), (2, .ref (ad a1))] → W p l e _ (s.setDrawn d32) m _ below meth c H locs _ _ _ (F0 m 32 ls [])) => h _ 0 1 σ5 _ _ _ _ (Nat.lt_succ_self _) (by decide) hIσ5 (gFr.tr (gFr.tr frσ3 fcσ4 (by decide)) fcσ5 (by decide)) hd0 hP hD hS (lv_sub hl [0, 1, 2, 3, 4] rfl)) ?_
  intro n32
  induction n32 with
  | zero => intro i4 go σ32x d32 H locs ls hm; exact absurd hm (Nat.not_lt_zero _)
  | succ n32 ih32 =>
    intro i4 go σ32x d32 H locs ls hm32 iv32_0 hIσ32x frσ32x hd0 hP hD hS hl
    have hts := dr_words hts0 (d32)
    have hK := gKd hK0 (d32)
    have hown : (s.setDrawn (d32)).vm.findClass RX7 = some m.cls := hown0
    refine lv_iload hx hb dX7_read_32 (lv_at hl 0 rfl) ?_
    refine lv_sipush (v := 900) hx hb dX7_read_34 (by decide) ?_
    refine lv_icmp_gt (tgt := 71) hx hb dX7_read_37 (by decide) (fun c_7 => ?_) (fun c_7 => ?_)
    · refine W.endD hd0 ?_
      exact W.vret hx hb hr (fun t ht hW => ⟨⟨σ32x, rfl, ⟨hIσ32x, frσ32x, trivial⟩, ⟨by rw [ht]; exact hP, hD⟩⟩, hS.F ht⟩) hS.2.2 dX7_read_71
    · refine lv_iload_n hx hb dX7_read_40 rfl (lv_at hl 1 rfl) ?_
      refine lv_if_eq (tgt := 71) hx hb dX7_read_41 (by decide) (fun c_8 => ?_) (fun c_8 => ?_)
      · refine W.endD hd0 ?_
        exact W.vret hx hb hr (fun t ht hW => ⟨⟨σ32x, rfl, ⟨hIσ32x, frσ32x, trivial⟩, ⟨by rw [ht]; exact hP, hD⟩⟩, hS.F ht⟩) hS.2.2 dX7_read_71
      · refine lv_aload_n hx hb dX7_read_44 rfl (lv_at hl 2 rfl) ?_
        refine lv_aload_n hx hb dX7_read_45 rfl (lv_at hl 4 rfl) ?_
        have hF := gFree hD hS hA
        refine va_calliD hd0 (va_runV_D (As := [.ref (ad a1)]) (rest := []) ⟨hx, hb, hml, hown, hts⟩ (n_X7_readLine l dC dI ad cA adK adV H.size σ32x hIσ32x a1 ha1) (cwV 1 hts gX7_read_X7_readLine rfl rfl rfl (by decide +kernel) ⟨Nat.le_of_ble_eq_true rfl, Nat.le_of_ble_eq_true rfl⟩) ⟨gBlind, va_recv hK hP (ci := 6) (q0 := 1) rfl (at_6 rfl), gStart (As := [.ref (ad 1), .ref (ad a1)]) hP hD hK0 hT hS hF (d32)⟩ rfl rfl hl.1 rfl (lv_room (Nat.le_of_ble_eq_true rfl)) dX7_read_46 ⟨Nat.le_of_ble_eq_true rfl, Nat.le_of_ble_eq_true rfl⟩) hS (fun q _ h => hF q h) hF (fun r_9 σ6 t H locs ht hvm hw hB hz1 hk1 hS d_10 hd0 => ?_)
        have hts := dr_words hts0 (d_10)
        have hK := gKd hK0 (d_10)
        have hown : (s.setDrawn (d_10)).vm.findClass RX7 = some m.cls := hown0
        obtain ⟨hP, hD⟩ := gBack hF ht hB
        obtain ⟨hIσ6, fcσ6, hp_11⟩ := hw
        refine lv_if_eq (tgt := 63) hx hb dX7_read_49 (by decide) (fun c_12 => ?_) (fun c_12 => ?_)
        · refine lv_iconst (v := 0) hx hb dX7_read_63 (by decide) ?_
          refine lv_istore_n (lv' := [(3, .int 0), (4, .int i4), (0, .ref (ad 1)), (1, .int p0), (2, .ref (ad a1))]) hx hb dX7_read_64 rfl hl (by decide) rfl (fun ls hl => ?_)
          obtain ⟨x_13, ex_13⟩ : ∃ zz : Int32, zz = i4 + 1 := ⟨_, rfl⟩
          refine lv_iinc (v := x_13) (lv' := [(4, .int x_13), (3, .int 0), (0, .ref (ad 1)), (1, .int p0), (2, .ref (ad a1))]) hx hb dX7_read_65 hl (k := 1) rfl (by rw [ex_13]; rfl) (by decide) rfl (fun ls hl => ?_)
          refine lv_goto (tgt := 32) hx hb dX7_read_68 (by decide) ?_
          exact ih32 x_13 0 σ6 _ _ _ _ (cnt_m iv32_0 (Int32.lt_of_le_of_lt (Int32.not_lt.mp c_7) (show (900 : Int32) < 901 by decide)) hm32 ex_13) (cnt_0 iv32_0 (Int32.lt_of_le_of_lt (Int32.not_lt.mp c_7) (show (900 : Int32) < 901 by decide)) ex_13) hIσ6 (gFr.tr frσ32x fcσ6 (by decide)) hd0 hP hD hS (lv_sub hl [0, 1, 2, 3, 4] rfl)
        · refine lv_aload_n hx hb dX7_read_52 rfl (lv_at hl 2 rfl) ?_
          have hF := gFree hD hS hA
          refine va_calliD hd0 (va_runV_D (As := []) (rest := []) ⟨hx, hb, hml, hown, hts⟩ (n_X7_followsLine l dC dI ad cA adK adV H.size σ6 hIσ6 ) (cwV 0 hts gX7_read_X7_followsLine rfl rfl rfl (by decide +kernel) ⟨Nat.le_of_ble_eq_true rfl, Nat.le_of_ble_eq_true rfl⟩) ⟨gBlind, va_recv hK hP (ci := 6) (q0 := 1) rfl (at_6 rfl), gStart (As := [.ref (ad 1)]) hP hD hK0 hT hS hF (d_10)⟩ rfl rfl hl.1 rfl (lv_room (Nat.le_of_ble_eq_true rfl)) dX7_read_53 ⟨Nat.le_of_ble_eq_true rfl, Nat.le_of_ble_eq_true rfl⟩) hS (fun q _ h => hF q h) hF (fun r_14 σ7 t H locs ht hvm hw hB hz1 hk1 hS d_15 hd0 => ?_)
          have hts := dr_words hts0 (d_15)
          have hK := gKd hK0 (d_15)
          have hown : (s.setDrawn (d_15)).vm.findClass RX7 = some m.cls := hown0
          obtain ⟨hP, hD⟩ := gBack hF ht hB
          obtain ⟨hIσ7, fcσ7, hp_16⟩ := hw
          refine lv_if_eq (tgt := 63) hx hb dX7_read_56 (by decide) (fun c_17 => ?_) (fun c_17 => ?_)
          · refine lv_iconst (v := 0) hx hb dX7_read_63 (by decide) ?_
            refine lv_istore_n (lv' := [(3, .int 0), (4, .int i4), (0, .ref (ad 1)), (1, .int p0), (2, .ref (ad a1))]) hx hb dX7_read_64 rfl hl (by decide) rfl (fun ls hl => ?_)
            obtain ⟨x_18, ex_18⟩ : ∃ zz : Int32, zz = i4 + 1 := ⟨_, rfl⟩
            refine lv_iinc (v := x_18) (lv' := [(4, .int x_18), (3, .int 0), (0, .ref (ad 1)), (1, .int p0), (2, .ref (ad a1))]) hx hb dX7_read_65 hl (k := 1) rfl (by rw [ex_18]; rfl) (by decide) rfl (fun ls hl => ?_)
            refine lv_goto (tgt := 32) hx hb dX7_read_68 (by decide) ?_
            exact ih32 x_18 0 σ7 _ _ _ _ (cnt_m iv32_0 (Int32.lt_of_le_of_lt (Int32.not_lt.mp c_7) (show (900 : Int32) < 901 by decide)) hm32 ex_18) (cnt_0 iv32_0 (Int32.lt_of_le_of_lt (Int32.not_lt.mp c_7) (show (900 : Int32) < 901 by decide)) ex_18) hIσ7 (gFr.tr (gFr.tr frσ32x fcσ6 (by decide)) fcσ7 (by decide)) hd0 hP hD hS (lv_sub hl [0, 1, 2, 3, 4] rfl)
          · refine lv_iconst (v := 1) hx hb dX7_read_59 (by decide) ?_
            refine lv_goto (tgt := 64) hx hb dX7_read_60 (by decide) ?_
            refine lv_istore_n (lv' := [(3, .int 1), (4, .int i4), (0, .ref (ad 1)), (1, .int p0), (2, .ref (ad a1))]) hx hb dX7_read_64 rfl hl (by decide) rfl (fun ls hl => ?_)
            obtain ⟨x_19, ex_19⟩ : ∃ zz : Int32, zz = i4 + 1 := ⟨_, rfl⟩
            refine lv_iinc (v := x_19) (lv' := [(4, .int x_19), (3, .int 1), (0, .ref (ad 1)), (1, .int p0), (2, .ref (ad a1))]) hx hb dX7_read_65 hl (k := 1) rfl (by rw [ex_19]; rfl) (by decide) rfl (fun ls hl => ?_)
            refine lv_goto (tgt := 32) hx hb dX7_read_68 (by decide) ?_
            exact ih32 x_19 1 σ7 _ _ _ _ (cnt_m iv32_0 (Int32.lt_of_le_of_lt (Int32.not_lt.mp c_7) (show (900 : Int32) < 901 by decide)) hm32 ex_19) (cnt_0 iv32_0 (Int32.lt_of_le_of_lt (Int32.not_lt.mp c_7) (show (900 : Int32) < 901 by decide)) ex_19) hIσ7 (gFr.tr (gFr.tr frσ32x fcσ6 (by decide)) fcσ7 (by decide)) hd0 hP hD hS (lv_sub hl [0, 1, 2, 3, 4] rfl)
