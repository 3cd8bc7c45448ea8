set_option maxHeartbeats 8000000 in
set_option maxRecDepth 100000 in
theorem n_X12_byteAt (l : Launch) (dC : Nat → ClassId) (dI : Nat → Nat → Nat) (ad : Nat → Nat) (cA : Nat → ClassId) (adK adV : Nat → Nat) (sz : Nat) (σ : gs) (hI : InvM σ) (p0 : Int32) (hh0 : 0 ≤ p0) : MetD lw_cs l yX12_byteAt wsX12_byteAt ({ frames := 0, cells := 0, slots := 0, locals := 0 }) (va_Pc [.ref (ad 0), .int p0] (gPre adK adV (dC, dI) (wM ad cA σ) (tM cA) sz)) (va_Qi (fun (r : Int32) (τ : gs) => InvM τ ∧ σ = τ ∧ ((¬ r = -1 → p0 < (σ 0).1 32) ∧ r = mby σ p0)) (fun τ t => gPost (dC, dI) (va_A (wM ad cA σ) sz) (wM ad cA τ) t) (va_A (wM ad cA σ) sz)) 0 0 (va_A (wM ad cA σ) sz) := by
  refine MetD.ofW (cc := cX12_byteAt) (maxL := 2) (ret := (some .int)) (by decide) rfl ?_
  intro p e s m args below meth c s₁ B hml hv hd0
  obtain ⟨rfl, hsz, hP, hK, hD0, hT⟩ := hv
  have hx := B.exec
  have hb := B.bytes
  have hr := B.returns
  have hts0 := atoms_spec (ws := wsX12_byteAt) B.pre
  have hK0 := hK
  have hown0 : s.vm.findClass RX12 = some m.cls := findClass_of_methodNamed B.named
  have hlocks := B.notSynchronized
  have hinX12 : ∀ w ∈ u_ws RX12 TX12 69, w ∈ wsX12_byteAt := (fun _ h9 => List.mem_cons_of_mem _ (List.mem_append_right _ h9))
  subst hsz
  have hD := hD0.self (sz := s.heap.size)
  generalize hAe : va_A (wM ad cA σ) s.heap.size = A at hD hT ⊢
  have hA : ∀ q : Nat, s.heap.size ≤ q → A q := fun q h => by rw [← hAe]; exact Or.inr h
  have hS : va_S A s.heap s.heap [] := va_S.rf
  have hl := lv_entry ([.ref (ad 0), .int p0]) (n := 2) (Nat.le_of_ble_eq_true rfl)
  rw [lg_entry_eq]
  generalize (lg_sl ([.ref (ad 0), .int p0]) ++ List.replicate (2 - (lg_sl ([.ref (ad 0), .int p0])).length) Slot.unset).toArray = ls at hl ⊢
  have hl : lv_has ls 2 [(0, .ref (ad 0)), (1, .int p0)] := hl
  have hts := dr_words hts0 (s.drawn)
  have hK := gKd hK0 (s.drawn)
  have hown : (s.setDrawn (s.drawn)).vm.findClass RX12 = some m.cls := hown0
  refine lv_iload_n hx hb dX12_byteAt_0 rfl (lv_at hl 1 rfl) ?_
  refine lv_aload_n hx hb dX12_byteAt_1 rfl (lv_at hl 0 rfl) ?_
  have bd_1 := mrd_11_32 (c := 0) hI rfl
  refine va_get (D := (dC, dI)) (ci := 11) (v := .int ((σ 0).1 32)) (C := RX12) (T := TX12) (N := 69) hx hb hts hinX12 hown hK hP 0 (mat_11 rfl) rfl 32 (by decide) (hts (.fieldLink RX12 189 "BondCalendarsModel" "size" "I") (by decide +kernel)) (fun _ h9 => h9) rfl dX12_byteAt_2 ?_
  refine lv_icmp_ge (tgt := 21) hx hb dX12_byteAt_5 (by decide) (fun c_2 => ?_) (fun c_2 => ?_)
  · refine lv_iconst (v := (-1)) hx hb dX12_byteAt_21 (by decide) ?_
    refine W.endD hd0 ?_
    exact W.iret (v := (-1)) hx hb hr (fun t ht hW => ⟨⟨(-1), σ, rfl, ⟨hI, rfl, ⟨fun h9 => absurd rfl h9, mby_n c_2⟩⟩, ⟨by rw [ht]; exact hP, hD⟩⟩, hS.F ht⟩) hS.2.2 dX12_byteAt_22
  · refine lv_aload_n hx hb dX12_byteAt_8 rfl (lv_at hl 0 rfl) ?_
    refine va_get (D := (dC, dI)) (ci := 11) (v := .ref (ad 16)) (C := RX12) (T := TX12) (N := 69) hx hb hts hinX12 hown hK hP 0 (mat_11 rfl) rfl 30 (by decide) (hts (.fieldLink RX12 60 "BondCalendarsModel" "tape" "[B") (by decide +kernel)) (fun _ h9 => h9) rfl dX12_byteAt_9 ?_
    refine lv_iload_n hx hb dX12_byteAt_12 rfl (lv_at hl 1 rfl) ?_
    refine va_bald hx hb hK hP 16 16 (mat_56 rfl) (mty_56 rfl) (gin (N := 900) (by decide) hh0 (Int32.lt_of_lt_of_le (Int32.not_le.mp c_2) bd_1.2)) dX12_byteAt_13 ?_
    refine lv_topi (fun x_3 ex_3 => ?_)
    refine lv_sipush (v := 255) hx hb dX12_byteAt_14 (by decide) ?_
    refine lv_iand hx hb dX12_byteAt_17 ?_
    refine lv_topi (fun x_4 ex_4 => ?_)
    refine lv_goto (tgt := 22) hx hb dX12_byteAt_18 (by decide) ?_
    refine W.endD hd0 ?_
    exact W.iret (v := x_4) hx hb hr (fun t ht hW => ⟨⟨x_4, σ, rfl, ⟨hI, rfl, ⟨fun _ => (Int32.not_le.mp c_2), mby_p (Int32.not_le.mp c_2) ex_3 ex_4⟩⟩, ⟨by rw [ht]; exact hP, hD⟩⟩, hS.F ht⟩) hS.2.2 dX12_byteAt_22
set_option maxHeartbeats 8000000 in
set_option maxRecDepth 100000 in
theorem n_X12_nextWord (l : Launch) (dC : Nat → ClassId) (dI : Nat → Nat → Nat) (ad : Nat → Nat) (cA : Nat → ClassId) (adK adV : Nat → Nat) (sz : Nat) (σ : gs) (hI : InvM σ)  : MetD lw_cs l yX12_nextWord wsX12_nextWord ({ frames := 1, cells := 0, slots := 0, locals := 22 }) (va_Pc [.ref (ad 0)] (gPre adK adV (dC, dI) (wM ad cA σ) (tM cA) sz)) (va_Qv (fun (τ : gs) => InvM τ ∧ mFr [] [33, 34] σ τ ∧ ((σ 0).1 33 ≤ (τ 0).1 33 ∧ (τ 0).1 34 ≤ 3)) (fun τ t => gPost (dC, dI) (va_A (wM ad cA σ) sz) (wM ad cA τ) t) (va_A (wM ad cA σ) sz)) 0 0 (va_A (wM ad cA σ) sz) := by
  refine MetD.ofW (cc := cX12_nextWord) (maxL := 1) (ret := none) (by decide) rfl ?_
  intro p e s m args below meth c s₁ B hml hv hd0
  obtain ⟨rfl, hsz, hP, hK, hD0, hT⟩ := hv
  have hx := B.exec
  have hb := B.bytes
  have hr := B.returns
  have hts0 := atoms_spec (ws := wsX12_nextWord) B.pre
  have hK0 := hK
  have hown0 : s.vm.findClass RX12 = some m.cls := findClass_of_methodNamed B.named
  have hlocks := B.notSynchronized
  have hinX12 : ∀ w ∈ u_ws RX12 TX12 69, w ∈ wsX12_nextWord := (fun _ h9 => List.mem_cons_of_mem _ (List.mem_append_right _ h9))
  subst hsz
  have hD := hD0.self (sz := s.heap.size)
  generalize hAe : va_A (wM ad cA σ) s.heap.size = A at hD hT ⊢
  have hA : ∀ q : Nat, s.heap.size ≤ q → A q := fun q h => by rw [← hAe]; exact Or.inr h
  have hS : va_S A s.heap s.heap [] := va_S.rf
  have hl := lv_entry ([.ref (ad 0)]) (n := 1) (Nat.le_of_ble_eq_true rfl)
  rw [lg_entry_eq]
  generalize (lg_sl ([.ref (ad 0)]) ++ List.replicate (1 - (lg_sl ([.ref (ad 0)])).length) Slot.unset).toArray = ls at hl ⊢
  have hl : lv_has ls 1 [(0, .ref (ad 0))] := hl
  have hts := dr_words hts0 (s.drawn)
  have hK := gKd hK0 (s.drawn)
  have hown : (s.setDrawn (s.drawn)).vm.findClass RX12 = some m.cls := hown0
  refine lv_aload_n hx hb dX12_nextWord_0 rfl (lv_at hl 0 rfl) ?_
  refine lv_lconst (v := 0) hx hb dX12_nextWord_1 (by decide) ?_
  refine va_put (D := (dC, dI)) (ci := 11) (v := .long 0) (C := RX12) (T := TX12) (N := 69) hx hb hts hinX12 tyX12 tyX12_ok nmX12 hown hK hP hD hS 0 (mat_11 rfl) rfl 38 (by decide) (hts (.fieldLink RX12 217 "BondCalendarsModel" "word" "J") (by decide +kernel)) (fun _ h9 => h9) rfl (ty := .long) (by decide +kernel) rfl rfl (Nat.le_of_ble_eq_true rfl) dX12_nextWord_2 (fun H locs hP hD hS => ?_)
  obtain ⟨σ1, eσ1, hP, hD⟩ := gPut (mse_11_38 rfl) hP hD
  have hIσ1 : InvM σ1 := by rw [eσ1]; exact minv_L hI
  have frσ1 : mFr [] [33, 34] σ σ1 := by rw [eσ1]; exact mFr.oL (mFr.rfl (L := []) (F := [33, 34]) (σ := σ))
  refine (fun (h : ∀ (n : Nat)  (σ5x : gs) (d5 : Drawn) (H : Heap) (locs : List Loc) (ls : Array Slot), ((900 : Int32).toInt - ((σ5x 0).1 33).toInt).toNat < n → (σ 0).1 33 ≤ (σ5x 0).1 33 → InvM σ5x → mFr [] [33, 34] σ σ5x → s.drawn.sameBut d5 lw_cs → va_P (dC, dI) vwCl (wM ad cA σ5x) H → va_D A (wM ad cA σ5x) → va_S A s.heap H locs → lv_has ls 1 [(0, .ref (ad 0))] → W p l e _ (s.setDrawn d5) m _ below meth c H locs _ _ _ (F0 m 5 ls [])) => h _  σ1 _ _ _ _ (Nat.lt_succ_self _) (le_ch (Eq.refl _) (show ((σ1 0).1 33 : Int32) = ((σ 0).1 33 : Int32) from by rw [eσ1, gL_i]) (Int32.le_refl ((σ 0).1 33))) hIσ1 frσ1 hd0 hP hD hS (lv_sub hl [0] rfl)) ?_
  intro n5
  induction n5 with
  | zero => intro  σ5x d5 H locs ls hm; exact absurd hm (Nat.not_lt_zero _)
  | succ n5 ih5 =>
    intro  σ5x d5 H locs ls hm5 iv5_0 hIσ5x frσ5x hd0 hP hD hS hl
    have hts := dr_words hts0 (d5)
    have hK := gKd hK0 (d5)
    have hown : (s.setDrawn (d5)).vm.findClass RX12 = some m.cls := hown0
    refine lv_aload_n hx hb dX12_nextWord_5 rfl (lv_at hl 0 rfl) ?_
    refine lv_aload_n hx hb dX12_nextWord_6 rfl (lv_at hl 0 rfl) ?_
    have bd_1 := mrd_11_33 (c := 0) hIσ5x rfl
    refine va_get (D := (dC, dI)) (ci := 11) (v := .int ((σ5x 0).1 33)) (C := RX12) (T := TX12) (N := 69) hx hb hts hinX12 hown hK hP 0 (mat_11 rfl) rfl 33 (by decide) (hts (.fieldLink RX12 195 "BondCalendarsModel" "spot" "I") (by decide +kernel)) (fun _ h9 => h9) rfl dX12_nextWord_7 ?_
    have hF := gFree hD hS hA
    refine va_calliD hd0 (va_runV_D (As := [.int ((σ5x 0).1 33)]) (rest := []) ⟨hx, hb, hml, hown, hts⟩ (n_X12_byteAt l dC dI ad cA adK adV H.size σ5x hIσ5x ((σ5x 0).1 33) bd_1.1) (cwV 1 hts gX12_nextWord_X12_byteAt rfl rfl rfl (by decide +kernel) ⟨Nat.le_of_ble_eq_true rfl, Nat.le_of_ble_eq_true rfl⟩) ⟨gBlind, va_recv hK hP (ci := 11) (q0 := 0) rfl (mat_11 rfl), gStart (As := [.ref (ad 0), .int ((σ5x 0).1 33)]) hP hD hK0 hT hS hF (d5)⟩ rfl rfl hl.1 rfl (lv_room (Nat.le_of_ble_eq_true rfl)) dX12_nextWord_10 ⟨Nat.le_of_ble_eq_true rfl, Nat.le_of_ble_eq_true rfl⟩) hS (fun q _ h => hF q h) hF (fun r_2 σ2 t H locs ht hvm hw hB hz1 hk1 hS d_3 hd0 => ?_)
    have hts := dr_words hts0 (d_3)
    have hK := gKd hK0 (d_3)
    have hown : (s.setDrawn (d_3)).vm.findClass RX12 = some m.cls := hown0
    obtain ⟨hP, hD⟩ := gBack hF ht hB
    obtain ⟨hIσ2, hro, hp_4⟩ := hw
    subst hro
    have bd_5 := mrd_11_32 (c := 0) hIσ5x rfl
    refine lv_bipush (v := 97) hx hb dX12_nextWord_13 (by decide) ?_
    refine lv_bipush (v := 122) hx hb dX12_nextWord_15 (by decide) ?_
    have hF := gFree (w := []) (hx_D0 (A := A)) hS hA
    have hKe := hK.sub (tys' := []) [] rfl
    refine va_calli (va_runS (As := [.int r_2, .int 97, .int 122]) (rest := []) ⟨hx, hb, hml, hown, hts⟩ (k_X12_in l dC dI H.size r_2 97 122 ) (va_cwS 3 hts gX12_nextWord_X12_in rfl rfl rfl (by decide +kernel) ⟨Nat.le_of_ble_eq_true rfl, Nat.le_of_ble_eq_true rfl⟩) ⟨fun a U g mk q => by obtain ⟨q0, q1, qP, qK, qD⟩ := q; exact ⟨q0, q1, qP, va_K.moved (u := U) (U := U.calling g mk a) (Vm.Alike.refl U.vm) qK, qD⟩, fun U hU hW => ⟨rfl, by rw [hU], hx_P0, va_K.moved hW.alike hKe, hx_D0⟩⟩ rfl rfl hl.1 rfl (lv_room (Nat.le_of_ble_eq_true rfl)) dX12_nextWord_17 ⟨Nat.le_of_ble_eq_true rfl, Nat.le_of_ble_eq_true rfl⟩) hS (fun q _ h => hF q h) hF (fun r_6 u t H locs ht hvm hw hB hz1 hk1 hS => ?_)
    have hP := gKeep hP hk1
    have in_7 : r_6 = f_X12_in r_2 97 122 := hw
    have bin_7 : r_6 = 0 ∨ r_6 = 1 := by rw [in_7]; exact in01 _ _ _
    refine lv_if_eq (tgt := 71) hx hb dX12_nextWord_20 (by decide) (fun c_8 => ?_) (fun c_8 => ?_)
    · refine lv_aload_n hx hb dX12_nextWord_71 rfl (lv_at hl 0 rfl) ?_
      refine lv_aload_n hx hb dX12_nextWord_72 rfl (lv_at hl 0 rfl) ?_
      refine va_get (D := (dC, dI)) (ci := 11) (v := .int ((σ5x 0).1 33)) (C := RX12) (T := TX12) (N := 69) hx hb hts hinX12 hown hK hP 0 (mat_11 rfl) rfl 33 (by decide) (hts (.fieldLink RX12 195 "BondCalendarsModel" "spot" "I") (by decide +kernel)) (fun _ h9 => h9) rfl dX12_nextWord_73 ?_
      refine lv_aload_n hx hb dX12_nextWord_76 rfl (lv_at hl 0 rfl) ?_
      refine va_get (D := (dC, dI)) (ci := 11) (v := .int ((σ 0).1 35)) (C := RX12) (T := TX12) (N := 69) hx hb hts hinX12 hown hK hP 0 (mat_11 rfl) rfl 35 (by decide) (hts (.fieldLink RX12 201 "BondCalendarsModel" "at" "I") (by decide +kernel)) (fun _ h9 => h9) (congrArg (fun z => some (Value.int z)) (show (σ5x 0).1 35 = ((σ 0).1 35) from by rw [frσ5x.2 35 (by decide)])) dX12_nextWord_77 ?_
      refine lv_isub hx hb dX12_nextWord_80 ?_
      refine lv_topi (fun x_9 ex_9 => ?_)
      refine lv_bipush (v := 7) hx hb dX12_nextWord_81 (by decide) ?_
      refine lv_icmp_le (tgt := 90) hx hb dX12_nextWord_83 (by decide) (fun c_10 => ?_) (fun c_10 => ?_)
      · refine lv_iconst (v := 2) hx hb dX12_nextWord_90 (by decide) ?_
        refine va_put (D := (dC, dI)) (ci := 11) (v := .int 2) (C := RX12) (T := TX12) (N := 69) hx hb hts hinX12 tyX12 tyX12_ok nmX12 hown hK hP hD hS 0 (mat_11 rfl) rfl 34 (by decide) (hts (.fieldLink RX12 204 "BondCalendarsModel" "kind" "I") (by decide +kernel)) (fun _ h9 => h9) rfl (ty := .int) (by decide +kernel) rfl rfl (Nat.le_of_ble_eq_true rfl) dX12_nextWord_91 (fun H locs hP hD hS => ?_)
        obtain ⟨σ3, eσ3, hP, hD⟩ := gPut (mse_11_34 rfl) hP hD
        have hIσ3 : InvM σ3 := by rw [eσ3]; exact minv_I hIσ5x (mok_11_34 rfl _)
        have frσ3 : mFr [] [33, 34] σ σ3 := by rw [eσ3]; exact mFr.oI frσ5x (by decide)
        refine W.endD hd0 ?_
        exact W.vret hx hb hr (fun t ht hW => ⟨⟨σ3, rfl, ⟨hIσ3, frσ3, ⟨(le_ch (Eq.refl _) (show ((σ3 0).1 33 : Int32) = ((σ5x 0).1 33 : Int32) from by rw [eσ3, gI_oth _ _ _ (by decide)]) iv5_0), (le_ch (show ((σ3 0).1 34 : Int32) = (2 : Int32) from by rw [eσ3, gI_self]) (Eq.refl _) (show (2 : Int32) ≤ 3 by decide))⟩⟩, ⟨by rw [ht]; exact hP, hD⟩⟩, hS.F ht⟩) hS.2.2 dX12_nextWord_94
      · refine lv_iconst (v := 0) hx hb dX12_nextWord_86 (by decide) ?_
        refine lv_goto (tgt := 91) hx hb dX12_nextWord_87 (by decide) ?_
        refine va_put (D := (dC, dI)) (ci := 11) (v := .int 0) (C := RX12) (T := TX12) (N := 69) hx hb hts hinX12 tyX12 tyX12_ok nmX12 hown hK hP hD hS 0 (mat_11 rfl) rfl 34 (by decide) (hts (.fieldLink RX12 204 "BondCalendarsModel" "kind" "I") (by decide +kernel)) (fun _ h9 => h9) rfl (ty := .int) (by decide +kernel) rfl rfl (Nat.le_of_ble_eq_true rfl) dX12_nextWord_91 (fun H locs hP hD hS => ?_)
        obtain ⟨σ4, eσ4, hP, hD⟩ := gPut (mse_11_34 rfl) hP hD
        have hIσ4 : InvM σ4 := by rw [eσ4]; exact minv_I hIσ5x (mok_11_34 rfl _)
        have frσ4 : mFr [] [33, 34] σ σ4 := by rw [eσ4]; exact mFr.oI frσ5x (by decide)
        refine W.endD hd0 ?_
        exact W.vret hx hb hr (fun t ht hW => ⟨⟨σ4, rfl, ⟨hIσ4, frσ4, ⟨(le_ch (Eq.refl _) (show ((σ4 0).1 33 : Int32) = ((σ5x 0).1 33 : Int32) from by rw [eσ4, gI_oth _ _ _ (by decide)]) iv5_0), (le_ch (show ((σ4 0).1 34 : Int32) = (0 : Int32) from by rw [eσ4, gI_self]) (Eq.refl _) (show (0 : Int32) ≤ 3 by decide))⟩⟩, ⟨by rw [ht]; exact hP, hD⟩⟩, hS.F ht⟩) hS.2.2 dX12_nextWord_94
    · refine lv_aload_n hx hb dX12_nextWord_23 rfl (lv_at hl 0 rfl) ?_
      refine va_get (D := (dC, dI)) (ci := 11) (v := .int ((σ5x 0).1 33)) (C := RX12) (T := TX12) (N := 69) hx hb hts hinX12 hown hK hP 0 (mat_11 rfl) rfl 33 (by decide) (hts (.fieldLink RX12 195 "BondCalendarsModel" "spot" "I") (by decide +kernel)) (fun _ h9 => h9) rfl dX12_nextWord_24 ?_
      refine lv_aload_n hx hb dX12_nextWord_27 rfl (lv_at hl 0 rfl) ?_
      refine va_get (D := (dC, dI)) (ci := 11) (v := .int ((σ 0).1 35)) (C := RX12) (T := TX12) (N := 69) hx hb hts hinX12 hown hK hP 0 (mat_11 rfl) rfl 35 (by decide) (hts (.fieldLink RX12 201 "BondCalendarsModel" "at" "I") (by decide +kernel)) (fun _ h9 => h9) (congrArg (fun z => some (Value.int z)) (show (σ5x 0).1 35 = ((σ 0).1 35) from by rw [frσ5x.2 35 (by decide)])) dX12_nextWord_28 ?_
      refine lv_isub hx hb dX12_nextWord_31 ?_
      refine lv_topi (fun x_11 ex_11 => ?_)
      refine lv_bipush (v := 7) hx hb dX12_nextWord_32 (by decide) ?_
      refine lv_icmp_ge (tgt := 58) hx hb dX12_nextWord_34 (by decide) (fun c_12 => ?_) (fun c_12 => ?_)
      · refine lv_aload_n hx hb dX12_nextWord_58 rfl (lv_at hl 0 rfl) ?_
        refine lv_dup hx hb dX12_nextWord_59 rfl ?_
        refine va_get (D := (dC, dI)) (ci := 11) (v := .int ((σ5x 0).1 33)) (C := RX12) (T := TX12) (N := 69) hx hb hts hinX12 hown hK hP 0 (mat_11 rfl) rfl 33 (by decide) (hts (.fieldLink RX12 195 "BondCalendarsModel" "spot" "I") (by decide +kernel)) (fun _ h9 => h9) rfl dX12_nextWord_60 ?_
        refine lv_iconst (v := 1) hx hb dX12_nextWord_63 (by decide) ?_
        refine lv_iadd hx hb dX12_nextWord_64 ?_
        refine lv_topi (fun x_13 ex_13 => ?_)
        refine va_put (D := (dC, dI)) (ci := 11) (v := .int x_13) (C := RX12) (T := TX12) (N := 69) hx hb hts hinX12 tyX12 tyX12_ok nmX12 hown hK hP hD hS 0 (mat_11 rfl) rfl 33 (by decide) (hts (.fieldLink RX12 195 "BondCalendarsModel" "spot" "I") (by decide +kernel)) (fun _ h9 => h9) rfl (ty := .int) (by decide +kernel) rfl rfl (Nat.le_of_ble_eq_true rfl) dX12_nextWord_65 (fun H locs hP hD hS => ?_)
        obtain ⟨σ5, eσ5, hP, hD⟩ := gPut (mse_11_33 rfl) hP hD
        have hIσ5 : InvM σ5 := by rw [eσ5]; exact minv_I hIσ5x (mok_11_33 rfl _ ⟨(cnt_0 bd_1.1 (Int32.lt_of_lt_of_le (hp_4.1 (fun e9 => absurd (Int32.le_of_lt (Int32.lt_of_lt_of_le (show (0 : Int32) < 97 by decide) (in_of in_7 c_8).1)) (by rw [e9]; decide))) bd_5.2) ex_13), (cnt_N bd_1.1 (Int32.lt_of_lt_of_le (hp_4.1 (fun e9 => absurd (Int32.le_of_lt (Int32.lt_of_lt_of_le (show (0 : Int32) < 97 by decide) (in_of in_7 c_8).1)) (by rw [e9]; decide))) bd_5.2) ex_13)⟩)
        have frσ5 : mFr [] [33, 34] σ σ5 := by rw [eσ5]; exact mFr.oI frσ5x (by decide)
        refine lv_goto (tgt := 5) hx hb dX12_nextWord_68 (by decide) ?_
        have nx_14 : (σ5 0).1 33 = x_13 := by rw [eσ5, gI_self]
        exact ih5  σ5 _ _ _ _ (by rw [nx_14]; exact cnt_m bd_1.1 (Int32.lt_of_lt_of_le (hp_4.1 (fun e9 => absurd (Int32.le_of_lt (Int32.lt_of_lt_of_le (show (0 : Int32) < 97 by decide) (in_of in_7 c_8).1)) (by rw [e9]; decide))) bd_5.2) hm5 ex_13) (le_ch (Eq.refl _) (show ((σ5 0).1 33 : Int32) = (x_13 : Int32) from by rw [eσ5, gI_self]) (Int32.le_of_lt (Int32.lt_of_le_of_lt iv5_0 (cnt_lt bd_1.1 (Int32.lt_of_lt_of_le (hp_4.1 (fun e9 => absurd (Int32.le_of_lt (Int32.lt_of_lt_of_le (show (0 : Int32) < 97 by decide) (in_of in_7 c_8).1)) (by rw [e9]; decide))) bd_5.2) ex_13)))) hIσ5 frσ5 hd0 hP hD hS (lv_sub hl [0] rfl)
      · refine lv_aload_n hx hb dX12_nextWord_37 rfl (lv_at hl 0 rfl) ?_
        refine lv_aload_n hx hb dX12_nextWord_38 rfl (lv_at hl 0 rfl) ?_
        refine va_get (D := (dC, dI)) (ci := 11) (v := .long ((σ5x 0).2.1 38)) (C := RX12) (T := TX12) (N := 69) hx hb hts hinX12 hown hK hP 0 (mat_11 rfl) rfl 38 (by decide) (hts (.fieldLink RX12 217 "BondCalendarsModel" "word" "J") (by decide +kernel)) (fun _ h9 => h9) rfl dX12_nextWord_39 ?_
        refine lv_bipush (v := 8) hx hb dX12_nextWord_42 (by decide) ?_
        refine lv_lshl hx hb dX12_nextWord_44 rfl ?_
        refine lv_topl (fun x_15 _ => ?_)
        refine lv_aload_n hx hb dX12_nextWord_45 rfl (lv_at hl 0 rfl) ?_
        refine lv_aload_n hx hb dX12_nextWord_46 rfl (lv_at hl 0 rfl) ?_
        refine va_get (D := (dC, dI)) (ci := 11) (v := .int ((σ5x 0).1 33)) (C := RX12) (T := TX12) (N := 69) hx hb hts hinX12 hown hK hP 0 (mat_11 rfl) rfl 33 (by decide) (hts (.fieldLink RX12 195 "BondCalendarsModel" "spot" "I") (by decide +kernel)) (fun _ h9 => h9) rfl dX12_nextWord_47 ?_
        have hF := gFree hD hS hA
        refine va_calliD hd0 (va_runV_D (As := [.int ((σ5x 0).1 33)]) (rest := [.long x_15, .ref (ad 0)]) ⟨hx, hb, hml, hown, hts⟩ (n_X12_byteAt l dC dI ad cA adK adV H.size σ5x hIσ5x ((σ5x 0).1 33) bd_1.1) (cwV 1 hts gX12_nextWord_X12_byteAt rfl rfl rfl (by decide +kernel) ⟨Nat.le_of_ble_eq_true rfl, Nat.le_of_ble_eq_true rfl⟩) ⟨gBlind, va_recv hK hP (ci := 11) (q0 := 0) rfl (mat_11 rfl), gStart (As := [.ref (ad 0), .int ((σ5x 0).1 33)]) hP hD hK0 hT hS hF (d_3)⟩ rfl rfl hl.1 rfl (lv_room (Nat.le_of_ble_eq_true rfl)) dX12_nextWord_50 ⟨Nat.le_of_ble_eq_true rfl, Nat.le_of_ble_eq_true rfl⟩) hS (fun q _ h => hF q h) hF (fun r_16 σ6 t H locs ht hvm hw hB hz1 hk1 hS d_17 hd0 => ?_)
        have hts := dr_words hts0 (d_17)
        have hK := gKd hK0 (d_17)
        have hown : (s.setDrawn (d_17)).vm.findClass RX12 = some m.cls := hown0
        obtain ⟨hP, hD⟩ := gBack hF ht hB
        obtain ⟨hIσ6, hro, hp_18⟩ := hw
        subst hro
        refine lv_i2l hx hb dX12_nextWord_53 rfl ?_
        refine lv_lor hx hb dX12_nextWord_54 ?_
        refine lv_topl (fun x_19 ex_19 => ?_)
        refine va_put (D := (dC, dI)) (ci := 11) (v := .long x_19) (C := RX12) (T := TX12) (N := 69) hx hb hts hinX12 tyX12 tyX12_ok nmX12 hown hK hP hD hS 0 (mat_11 rfl) rfl 38 (by decide) (hts (.fieldLink RX12 217 "BondCalendarsModel" "word" "J") (by decide +kernel)) (fun _ h9 => h9) rfl (ty := .long) (by decide +kernel) rfl rfl (Nat.le_of_ble_eq_true rfl) dX12_nextWord_55 (fun H locs hP hD hS => ?_)
        obtain ⟨σ7, eσ7, hP, hD⟩ := gPut (mse_11_38 rfl) hP hD
        have hIσ7 : InvM σ7 := by rw [eσ7]; exact minv_L hIσ5x
        have frσ7 : mFr [] [33, 34] σ σ7 := by rw [eσ7]; exact mFr.oL frσ5x
        refine lv_aload_n hx hb dX12_nextWord_58 rfl (lv_at hl 0 rfl) ?_
        refine lv_dup hx hb dX12_nextWord_59 rfl ?_
        refine va_get (D := (dC, dI)) (ci := 11) (v := .int ((σ5x 0).1 33)) (C := RX12) (T := TX12) (N := 69) hx hb hts hinX12 hown hK hP 0 (mat_11 rfl) rfl 33 (by decide) (hts (.fieldLink RX12 195 "BondCalendarsModel" "spot" "I") (by decide +kernel)) (fun _ h9 => h9) (congrArg (fun z => some (Value.int z)) (show (σ7 0).1 33 = ((σ5x 0).1 33) from by rw [eσ7, gL_i])) dX12_nextWord_60 ?_
        refine lv_iconst (v := 1) hx hb dX12_nextWord_63 (by decide) ?_
        refine lv_iadd hx hb dX12_nextWord_64 ?_
        refine lv_topi (fun x_20 ex_20 => ?_)
        refine va_put (D := (dC, dI)) (ci := 11) (v := .int x_20) (C := RX12) (T := TX12) (N := 69) hx hb hts hinX12 tyX12 tyX12_ok nmX12 hown hK hP hD hS 0 (mat_11 rfl) rfl 33 (by decide) (hts (.fieldLink RX12 195 "BondCalendarsModel" "spot" "I") (by decide +kernel)) (fun _ h9 => h9) rfl (ty := .int) (by decide +kernel) rfl rfl (Nat.le_of_ble_eq_true rfl) dX12_nextWord_65 (fun H locs hP hD hS => ?_)
        obtain ⟨σ8, eσ8, hP, hD⟩ := gPut (mse_11_33 rfl) hP hD
        have hIσ8 : InvM σ8 := by rw [eσ8]; exact minv_I hIσ7 (mok_11_33 rfl _ ⟨(cnt_0 bd_1.1 (Int32.lt_of_lt_of_le (hp_4.1 (fun e9 => absurd (Int32.le_of_lt (Int32.lt_of_lt_of_le (show (0 : Int32) < 97 by decide) (in_of in_7 c_8).1)) (by rw [e9]; decide))) bd_5.2) ex_20), (cnt_N bd_1.1 (Int32.lt_of_lt_of_le (hp_4.1 (fun e9 => absurd (Int32.le_of_lt (Int32.lt_of_lt_of_le (show (0 : Int32) < 97 by decide) (in_of in_7 c_8).1)) (by rw [e9]; decide))) bd_5.2) ex_20)⟩)
        have frσ8 : mFr [] [33, 34] σ σ8 := by rw [eσ8]; exact mFr.oI frσ7 (by decide)
        refine lv_goto (tgt := 5) hx hb dX12_nextWord_68 (by decide) ?_
        have nx_21 : (σ8 0).1 33 = x_20 := by rw [eσ8, gI_self]
        exact ih5  σ8 _ _ _ _ (by rw [nx_21]; exact cnt_m bd_1.1 (Int32.lt_of_lt_of_le (hp_4.1 (fun e9 => absurd (Int32.le_of_lt (Int32.lt_of_lt_of_le (show (0 : Int32) < 97 by decide) (in_of in_7 c_8).1)) (by rw [e9]; decide))) bd_5.2) hm5 ex_20) (le_ch (Eq.refl _) (show ((σ8 0).1 33 : Int32) = (x_20 : Int32) from by rw [eσ8, gI_self]) (Int32.le_of_lt (Int32.lt_of_le_of_lt iv5_0 (cnt_lt bd_1.1 (Int32.lt_of_lt_of_le (hp_4.1 (fun e9 => absurd (Int32.le_of_lt (Int32.lt_of_lt_of_le (show (0 : Int32) < 97 by decide) (in_of in_7 c_8).1)) (by rw [e9]; decide))) bd_5.2) ex_20)))) hIσ8 frσ8 hd0 hP hD hS (lv_sub hl [0] rfl)
set_option maxHeartbeats 8000000 in
set_option maxRecDepth 100000 in
theorem n_X12_nextWhole (l : Launch) (dC : Nat → ClassId) (dI : Nat → Nat → Nat) (ad : Nat → Nat) (cA : Nat → ClassId) (adK adV : Nat → Nat) (sz : Nat) (σ : gs) (hI : InvM σ) (hh0 : (σ 0).1 33 = (σ 0).1 35) : MetD lw_cs l yX12_nextWhole wsX12_nextWhole ({ frames := 1, cells := 0, slots := 0, locals := 22 }) (va_Pc [.ref (ad 0)] (gPre adK adV (dC, dI) (wM ad cA σ) (tM cA) sz)) (va_Qv (fun (τ : gs) => InvM τ ∧ mFr [] [33, 34, 36] σ τ ∧ ((σ 0).1 33 ≤ (τ 0).1 33 ∧ (τ 0).1 34 ≤ 3)) (fun τ t => gPost (dC, dI) (va_A (wM ad cA σ) sz) (wM ad cA τ) t) (va_A (wM ad cA σ) sz)) 0 0 (va_A (wM ad cA σ) sz) := by
  refine MetD.ofW (cc := cX12_nextWhole) (maxL := 1) (ret := none) (by decide) rfl ?_
  intro p e s m args below meth c s₁ B hml hv hd0
  obtain ⟨rfl, hsz, hP, hK, hD0, hT⟩ := hv
  have hx := B.exec
  have hb := B.bytes
  have hr := B.returns
  have hts0 := atoms_spec (ws := wsX12_nextWhole) B.pre
  have hK0 := hK
  have hown0 : s.vm.findClass RX12 = some m.cls := findClass_of_methodNamed B.named
  have hlocks := B.notSynchronized
  have hinX12 : ∀ w ∈ u_ws RX12 TX12 69, w ∈ wsX12_nextWhole := (fun _ h9 => List.mem_cons_of_mem _ (List.mem_append_right _ h9))
  subst hsz
  have hD := hD0.self (sz := s.heap.size)
  generalize hAe : va_A (wM ad cA σ) s.heap.size = A at hD hT ⊢
  have hA : ∀ q : Nat, s.heap.size ≤ q → A q := fun q h => by rw [← hAe]; exact Or.inr h
  have hS : va_S A s.heap s.heap [] := va_S.rf
  have hl := lv_entry ([.ref (ad 0)]) (n := 1) (Nat.le_of_ble_eq_true rfl)
  rw [lg_entry_eq]
  generalize (lg_sl ([.ref (ad 0)]) ++ List.replicate (1 - (lg_sl ([.ref (ad 0)])).length) Slot.unset).toArray = ls at hl ⊢
  have hl : lv_has ls 1 [(0, .ref (ad 0))] := hl
  have hts := dr_words hts0 (s.drawn)
  have hK := gKd hK0 (s.drawn)
  have hown : (s.setDrawn (s.drawn)).vm.findClass RX12 = some m.cls := hown0
  refine lv_aload_n hx hb dX12_nextWhole_0 rfl (lv_at hl 0 rfl) ?_
  refine lv_iconst (v := 0) hx hb dX12_nextWhole_1 (by decide) ?_
  refine va_put (D := (dC, dI)) (ci := 11) (v := .int 0) (C := RX12) (T := TX12) (N := 69) hx hb hts hinX12 tyX12 tyX12_ok nmX12 hown hK hP hD hS 0 (mat_11 rfl) rfl 36 (by decide) (hts (.fieldLink RX12 220 "BondCalendarsModel" "number" "I") (by decide +kernel)) (fun _ h9 => h9) rfl (ty := .int) (by decide +kernel) rfl rfl (Nat.le_of_ble_eq_true rfl) dX12_nextWhole_2 (fun H locs hP hD hS => ?_)
  obtain ⟨σ1, eσ1, hP, hD⟩ := gPut (mse_11_36 rfl) hP hD
  have hIσ1 : InvM σ1 := by rw [eσ1]; exact minv_I hI (mok_11_36 rfl _ ⟨(show (0 : Int32) ≤ 0 by decide), (show (0 : Int32) ≤ 99999999 by decide)⟩)
  have frσ1 : mFr [] [33, 34, 36] σ σ1 := by rw [eσ1]; exact mFr.oI (mFr.rfl (L := []) (F := [33, 34, 36]) (σ := σ)) (by decide)
  refine (fun (h : ∀ (n : Nat)  (σ5x : gs) (d5 : Drawn) (H : Heap) (locs : List Loc) (ls : Array Slot), ((900 : Int32).toInt - ((σ5x 0).1 33).toInt).toNat < n → dg ((σ5x 0).1 33) ((σ 0).1 35) ((σ5x 0).1 36) → (σ 0).1 33 ≤ (σ5x 0).1 33 → InvM σ5x → mFr [] [33, 34, 36] σ σ5x → s.drawn.sameBut d5 lw_cs → va_P (dC, dI) vwCl (wM ad cA σ5x) H → va_D A (wM ad cA σ5x) → va_S A s.heap H locs → lv_has ls 1 [(0, .ref (ad 0))] → W p l e _ (s.setDrawn d5) m _ below meth c H locs _ _ _ (F0 m 5 ls [])) => h _  σ1 _ _ _ _ (Nat.lt_succ_self _) (dg_ch (show ((σ1 0).1 33 : Int32) = ((σ 0).1 33 : Int32) from by rw [eσ1, gI_oth _ _ _ (by decide)]) (Eq.refl _) (show ((σ1 0).1 36 : Int32) = (0 : Int32) from by rw [eσ1, gI_self]) (dg_0 hh0 (mrd_11_33 hI rfl).1)) (le_ch (Eq.refl _) (show ((σ1 0).1 33 : Int32) = ((σ 0).1 33 : Int32) from by rw [eσ1, gI_oth _ _ _ (by decide)]) (Int32.le_refl ((σ 0).1 33))) hIσ1 frσ1 hd0 hP hD hS (lv_sub hl [0] rfl)) ?_
  intro n5
  induction n5 with
  | zero => intro  σ5x d5 H locs ls hm; exact absurd hm (Nat.not_lt_zero _)
  | succ n5 ih5 =>
    intro  σ5x d5 H locs ls hm5 iv5_0 iv5_1 hIσ5x frσ5x hd0 hP hD hS hl
    have hts := dr_words hts0 (d5)
    have hK := gKd hK0 (d5)
    have hown : (s.setDrawn (d5)).vm.findClass RX12 = some m.cls := hown0
    refine lv_aload_n hx hb dX12_nextWhole_5 rfl (lv_at hl 0 rfl) ?_
    refine lv_aload_n hx hb dX12_nextWhole_6 rfl (lv_at hl 0 rfl) ?_
    have bd_1 := mrd_11_33 (c := 0) hIσ5x rfl
    refine va_get (D := (dC, dI)) (ci := 11) (v := .int ((σ5x 0).1 33)) (C := RX12) (T := TX12) (N := 69) hx hb hts hinX12 hown hK hP 0 (mat_11 rfl) rfl 33 (by decide) (hts (.fieldLink RX12 195 "BondCalendarsModel" "spot" "I") (by decide +kernel)) (fun _ h9 => h9) rfl dX12_nextWhole_7 ?_
    have hF := gFree hD hS hA
    refine va_calliD hd0 (va_runV_D (As := [.int ((σ5x 0).1 33)]) (rest := []) ⟨hx, hb, hml, hown, hts⟩ (n_X12_byteAt l dC dI ad cA adK adV H.size σ5x hIσ5x ((σ5x 0).1 33) bd_1.1) (cwV 1 hts gX12_nextWhole_X12_byteAt rfl rfl rfl (by decide +kernel) ⟨Nat.le_of_ble_eq_true rfl, Nat.le_of_ble_eq_true rfl⟩) ⟨gBlind, va_recv hK hP (ci := 11) (q0 := 0) rfl (mat_11 rfl), gStart (As := [.ref (ad 0), .int ((σ5x 0).1 33)]) hP hD hK0 hT hS hF (d5)⟩ rfl rfl hl.1 rfl (lv_room (Nat.le_of_ble_eq_true rfl)) dX12_nextWhole_10 ⟨Nat.le_of_ble_eq_true rfl, Nat.le_of_ble_eq_true rfl⟩) hS (fun q _ h => hF q h) hF (fun r_2 σ2 t H locs ht hvm hw hB hz1 hk1 hS d_3 hd0 => ?_)
    have hts := dr_words hts0 (d_3)
    have hK := gKd hK0 (d_3)
    have hown : (s.setDrawn (d_3)).vm.findClass RX12 = some m.cls := hown0
    obtain ⟨hP, hD⟩ := gBack hF ht hB
    obtain ⟨hIσ2, hro, hp_4⟩ := hw
    subst hro
    have bd_5 := mrd_11_32 (c := 0) hIσ5x rfl
    refine lv_bipush (v := 48) hx hb dX12_nextWhole_13 (by decide) ?_
    refine lv_bipush (v := 57) hx hb dX12_nextWhole_15 (by decide) ?_
    have hF := gFree (w := []) (hx_D0 (A := A)) hS hA
    have hKe := hK.sub (tys' := []) [] rfl
    refine va_calli (va_runS (As := [.int r_2, .int 48, .int 57]) (rest := []) ⟨hx, hb, hml, hown, hts⟩ (k_X12_in l dC dI H.size r_2 48 57 ) (va_cwS 3 hts gX12_nextWhole_X12_in rfl rfl rfl (by decide +kernel) ⟨Nat.le_of_ble_eq_true rfl, Nat.le_of_ble_eq_true rfl⟩) ⟨fun a U g mk q => by obtain ⟨q0, q1, qP, qK, qD⟩ := q; exact ⟨q0, q1, qP, va_K.moved (u := U) (U := U.calling g mk a) (Vm.Alike.refl U.vm) qK, qD⟩, fun U hU hW => ⟨rfl, by rw [hU], hx_P0, va_K.moved hW.alike hKe, hx_D0⟩⟩ rfl rfl hl.1 rfl (lv_room (Nat.le_of_ble_eq_true rfl)) dX12_nextWhole_17 ⟨Nat.le_of_ble_eq_true rfl, Nat.le_of_ble_eq_true rfl⟩) hS (fun q _ h => hF q h) hF (fun r_6 u t H locs ht hvm hw hB hz1 hk1 hS => ?_)
    have hP := gKeep hP hk1
    have in_7 : r_6 = f_X12_in r_2 48 57 := hw
    have bin_7 : r_6 = 0 ∨ r_6 = 1 := by rw [in_7]; exact in01 _ _ _
    refine lv_if_eq (tgt := 73) hx hb dX12_nextWhole_20 (by decide) (fun c_8 => ?_) (fun c_8 => ?_)
    · refine lv_aload_n hx hb dX12_nextWhole_73 rfl (lv_at hl 0 rfl) ?_
      refine lv_aload_n hx hb dX12_nextWhole_74 rfl (lv_at hl 0 rfl) ?_
      refine va_get (D := (dC, dI)) (ci := 11) (v := .int ((σ5x 0).1 33)) (C := RX12) (T := TX12) (N := 69) hx hb hts hinX12 hown hK hP 0 (mat_11 rfl) rfl 33 (by decide) (hts (.fieldLink RX12 195 "BondCalendarsModel" "spot" "I") (by decide +kernel)) (fun _ h9 => h9) rfl dX12_nextWhole_75 ?_
      refine lv_aload_n hx hb dX12_nextWhole_78 rfl (lv_at hl 0 rfl) ?_
      refine va_get (D := (dC, dI)) (ci := 11) (v := .int ((σ 0).1 35)) (C := RX12) (T := TX12) (N := 69) hx hb hts hinX12 hown hK hP 0 (mat_11 rfl) rfl 35 (by decide) (hts (.fieldLink RX12 201 "BondCalendarsModel" "at" "I") (by decide +kernel)) (fun _ h9 => h9) (congrArg (fun z => some (Value.int z)) (show (σ5x 0).1 35 = ((σ 0).1 35) from by rw [frσ5x.2 35 (by decide)])) dX12_nextWhole_79 ?_
      refine lv_isub hx hb dX12_nextWhole_82 ?_
      refine lv_topi (fun x_9 ex_9 => ?_)
      refine lv_bipush (v := 8) hx hb dX12_nextWhole_83 (by decide) ?_
      refine lv_icmp_le (tgt := 92) hx hb dX12_nextWhole_85 (by decide) (fun c_10 => ?_) (fun c_10 => ?_)
      · refine lv_iconst (v := 3) hx hb dX12_nextWhole_92 (by decide) ?_
        refine va_put (D := (dC, dI)) (ci := 11) (v := .int 3) (C := RX12) (T := TX12) (N := 69) hx hb hts hinX12 tyX12 tyX12_ok nmX12 hown hK hP hD hS 0 (mat_11 rfl) rfl 34 (by decide) (hts (.fieldLink RX12 204 "BondCalendarsModel" "kind" "I") (by decide +kernel)) (fun _ h9 => h9) rfl (ty := .int) (by decide +kernel) rfl rfl (Nat.le_of_ble_eq_true rfl) dX12_nextWhole_93 (fun H locs hP hD hS => ?_)
        obtain ⟨σ3, eσ3, hP, hD⟩ := gPut (mse_11_34 rfl) hP hD
        have hIσ3 : InvM σ3 := by rw [eσ3]; exact minv_I hIσ5x (mok_11_34 rfl _)
        have frσ3 : mFr [] [33, 34, 36] σ σ3 := by rw [eσ3]; exact mFr.oI frσ5x (by decide)
        refine W.endD hd0 ?_
        exact W.vret hx hb hr (fun t ht hW => ⟨⟨σ3, rfl, ⟨hIσ3, frσ3, ⟨(le_ch (Eq.refl _) (show ((σ3 0).1 33 : Int32) = ((σ5x 0).1 33 : Int32) from by rw [eσ3, gI_oth _ _ _ (by decide)]) iv5_1), (le_ch (show ((σ3 0).1 34 : Int32) = (3 : Int32) from by rw [eσ3, gI_self]) (Eq.refl _) (show (3 : Int32) ≤ 3 by decide))⟩⟩, ⟨by rw [ht]; exact hP, hD⟩⟩, hS.F ht⟩) hS.2.2 dX12_nextWhole_96
      · refine lv_iconst (v := 0) hx hb dX12_nextWhole_88 (by decide) ?_
        refine lv_goto (tgt := 93) hx hb dX12_nextWhole_89 (by decide) ?_
        refine va_put (D := (dC, dI)) (ci := 11) (v := .int 0) (C := RX12) (T := TX12) (N := 69) hx hb hts hinX12 tyX12 tyX12_ok nmX12 hown hK hP hD hS 0 (mat_11 rfl) rfl 34 (by decide) (hts (.fieldLink RX12 204 "BondCalendarsModel" "kind" "I") (by decide +kernel)) (fun _ h9 => h9) rfl (ty := .int) (by decide +kernel) rfl rfl (Nat.le_of_ble_eq_true rfl) dX12_nextWhole_93 (fun H locs hP hD hS => ?_)
        obtain ⟨σ4, eσ4, hP, hD⟩ := gPut (mse_11_34 rfl) hP hD
        have hIσ4 : InvM σ4 := by rw [eσ4]; exact minv_I hIσ5x (mok_11_34 rfl _)
        have frσ4 : mFr [] [33, 34, 36] σ σ4 := by rw [eσ4]; exact mFr.oI frσ5x (by decide)
        refine W.endD hd0 ?_
        exact W.vret hx hb hr (fun t ht hW => ⟨⟨σ4, rfl, ⟨hIσ4, frσ4, ⟨(le_ch (Eq.refl _) (show ((σ4 0).1 33 : Int32) = ((σ5x 0).1 33 : Int32) from by rw [eσ4, gI_oth _ _ _ (by decide)]) iv5_1), (le_ch (show ((σ4 0).1 34 : Int32) = (0 : Int32) from by rw [eσ4, gI_self]) (Eq.refl _) (show (0 : Int32) ≤ 3 by decide))⟩⟩, ⟨by rw [ht]; exact hP, hD⟩⟩, hS.F ht⟩) hS.2.2 dX12_nextWhole_96
    · refine lv_aload_n hx hb dX12_nextWhole_23 rfl (lv_at hl 0 rfl) ?_
      refine va_get (D := (dC, dI)) (ci := 11) (v := .int ((σ5x 0).1 33)) (C := RX12) (T := TX12) (N := 69) hx hb hts hinX12 hown hK hP 0 (mat_11 rfl) rfl 33 (by decide) (hts (.fieldLink RX12 195 "BondCalendarsModel" "spot" "I") (by decide +kernel)) (fun _ h9 => h9) rfl dX12_nextWhole_24 ?_
      refine lv_aload_n hx hb dX12_nextWhole_27 rfl (lv_at hl 0 rfl) ?_
      refine va_get (D := (dC, dI)) (ci := 11) (v := .int ((σ 0).1 35)) (C := RX12) (T := TX12) (N := 69) hx hb hts hinX12 hown hK hP 0 (mat_11 rfl) rfl 35 (by decide) (hts (.fieldLink RX12 201 "BondCalendarsModel" "at" "I") (by decide +kernel)) (fun _ h9 => h9) (congrArg (fun z => some (Value.int z)) (show (σ5x 0).1 35 = ((σ 0).1 35) from by rw [frσ5x.2 35 (by decide)])) dX12_nextWhole_28 ?_
      refine lv_isub hx hb dX12_nextWhole_31 ?_
      refine lv_topi (fun x_11 ex_11 => ?_)
      refine lv_bipush (v := 8) hx hb dX12_nextWhole_32 (by decide) ?_
      refine lv_icmp_ge (tgt := 60) hx hb dX12_nextWhole_34 (by decide) (fun c_12 => ?_) (fun c_12 => ?_)
      · refine lv_aload_n hx hb dX12_nextWhole_60 rfl (lv_at hl 0 rfl) ?_
        refine lv_dup hx hb dX12_nextWhole_61 rfl ?_
        refine va_get (D := (dC, dI)) (ci := 11) (v := .int ((σ5x 0).1 33)) (C := RX12) (T := TX12) (N := 69) hx hb hts hinX12 hown hK hP 0 (mat_11 rfl) rfl 33 (by decide) (hts (.fieldLink RX12 195 "BondCalendarsModel" "spot" "I") (by decide +kernel)) (fun _ h9 => h9) rfl dX12_nextWhole_62 ?_
        refine lv_iconst (v := 1) hx hb dX12_nextWhole_65 (by decide) ?_
        refine lv_iadd hx hb dX12_nextWhole_66 ?_
        refine lv_topi (fun x_13 ex_13 => ?_)
        refine va_put (D := (dC, dI)) (ci := 11) (v := .int x_13) (C := RX12) (T := TX12) (N := 69) hx hb hts hinX12 tyX12 tyX12_ok nmX12 hown hK hP hD hS 0 (mat_11 rfl) rfl 33 (by decide) (hts (.fieldLink RX12 195 "BondCalendarsModel" "spot" "I") (by decide +kernel)) (fun _ h9 => h9) rfl (ty := .int) (by decide +kernel) rfl rfl (Nat.le_of_ble_eq_true rfl) dX12_nextWhole_67 (fun H locs hP hD hS => ?_)
        obtain ⟨σ5, eσ5, hP, hD⟩ := gPut (mse_11_33 rfl) hP hD
        have hIσ5 : InvM σ5 := by rw [eσ5]; exact minv_I hIσ5x (mok_11_33 rfl _ ⟨(cnt_0 bd_1.1 (Int32.lt_of_lt_of_le (hp_4.1 (fun e9 => absurd (Int32.le_of_lt (Int32.lt_of_lt_of_le (show (0 : Int32) < 48 by decide) (in_of in_7 c_8).1)) (by rw [e9]; decide))) bd_5.2) ex_13), (cnt_N bd_1.1 (Int32.lt_of_lt_of_le (hp_4.1 (fun e9 => absurd (Int32.le_of_lt (Int32.lt_of_lt_of_le (show (0 : Int32) < 48 by decide) (in_of in_7 c_8).1)) (by rw [e9]; decide))) bd_5.2) ex_13)⟩)
        have frσ5 : mFr [] [33, 34, 36] σ σ5 := by rw [eσ5]; exact mFr.oI frσ5x (by decide)
        refine lv_goto (tgt := 5) hx hb dX12_nextWhole_70 (by decide) ?_
        have nx_14 : (σ5 0).1 33 = x_13 := by rw [eσ5, gI_self]
        exact ih5  σ5 _ _ _ _ (by rw [nx_14]; exact cnt_m bd_1.1 (Int32.lt_of_lt_of_le (hp_4.1 (fun e9 => absurd (Int32.le_of_lt (Int32.lt_of_lt_of_le (show (0 : Int32) < 48 by decide) (in_of in_7 c_8).1)) (by rw [e9]; decide))) bd_5.2) hm5 ex_13) (dg_ch (show ((σ5 0).1 33 : Int32) = (x_13 : Int32) from by rw [eσ5, gI_self]) (Eq.refl _) (show ((σ5 0).1 36 : Int32) = ((σ5x 0).1 36 : Int32) from by rw [eσ5, gI_oth _ _ _ (by decide)]) (dg_k iv5_0 ex_11 c_12 ex_13 (Int32.lt_of_lt_of_le (hp_4.1 (fun e9 => absurd (Int32.le_of_lt (Int32.lt_of_lt_of_le (show (0 : Int32) < 48 by decide) (in_of in_7 c_8).1)) (by rw [e9]; decide))) bd_5.2))) (le_ch (Eq.refl _) (show ((σ5 0).1 33 : Int32) = (x_13 : Int32) from by rw [eσ5, gI_self]) (Int32.le_of_lt (Int32.lt_of_le_of_lt iv5_1 (cnt_lt bd_1.1 (Int32.lt_of_lt_of_le (hp_4.1 (fun e9 => absurd (Int32.le_of_lt (Int32.lt_of_lt_of_le (show (0 : Int32) < 48 by decide) (in_of in_7 c_8).1)) (by rw [e9]; decide))) bd_5.2) ex_13)))) hIσ5 frσ5 hd0 hP hD hS (lv_sub hl [0] rfl)
      · refine lv_aload_n hx hb dX12_nextWhole_37 rfl (lv_at hl 0 rfl) ?_
        refine lv_bipush (v := 10) hx hb dX12_nextWhole_38 (by decide) ?_
        refine lv_aload_n hx hb dX12_nextWhole_40 rfl (lv_at hl 0 rfl) ?_
        have bd_15 := mrd_11_36 (c := 0) hIσ5x rfl
        refine va_get (D := (dC, dI)) (ci := 11) (v := .int ((σ5x 0).1 36)) (C := RX12) (T := TX12) (N := 69) hx hb hts hinX12 hown hK hP 0 (mat_11 rfl) rfl 36 (by decide) (hts (.fieldLink RX12 220 "BondCalendarsModel" "number" "I") (by decide +kernel)) (fun _ h9 => h9) rfl dX12_nextWhole_41 ?_
        refine lv_imul hx hb dX12_nextWhole_44 ?_
        refine lv_topi (fun x_16 ex_16 => ?_)
        refine lv_aload_n hx hb dX12_nextWhole_45 rfl (lv_at hl 0 rfl) ?_
        refine lv_aload_n hx hb dX12_nextWhole_46 rfl (lv_at hl 0 rfl) ?_
        refine va_get (D := (dC, dI)) (ci := 11) (v := .int ((σ5x 0).1 33)) (C := RX12) (T := TX12) (N := 69) hx hb hts hinX12 hown hK hP 0 (mat_11 rfl) rfl 33 (by decide) (hts (.fieldLink RX12 195 "BondCalendarsModel" "spot" "I") (by decide +kernel)) (fun _ h9 => h9) rfl dX12_nextWhole_47 ?_
        have hF := gFree hD hS hA
        refine va_calliD hd0 (va_runV_D (As := [.int ((σ5x 0).1 33)]) (rest := [.int x_16, .ref (ad 0)]) ⟨hx, hb, hml, hown, hts⟩ (n_X12_byteAt l dC dI ad cA adK adV H.size σ5x hIσ5x ((σ5x 0).1 33) bd_1.1) (cwV 1 hts gX12_nextWhole_X12_byteAt rfl rfl rfl (by decide +kernel) ⟨Nat.le_of_ble_eq_true rfl, Nat.le_of_ble_eq_true rfl⟩) ⟨gBlind, va_recv hK hP (ci := 11) (q0 := 0) rfl (mat_11 rfl), gStart (As := [.ref (ad 0), .int ((σ5x 0).1 33)]) hP hD hK0 hT hS hF (d_3)⟩ rfl rfl hl.1 rfl (lv_room (Nat.le_of_ble_eq_true rfl)) dX12_nextWhole_50 ⟨Nat.le_of_ble_eq_true rfl, Nat.le_of_ble_eq_true rfl⟩) hS (fun q _ h => hF q h) hF (fun r_17 σ6 t H locs ht hvm hw hB hz1 hk1 hS d_18 hd0 => ?_)
        have hts := dr_words hts0 (d_18)
        have hK := gKd hK0 (d_18)
        have hown : (s.setDrawn (d_18)).vm.findClass RX12 = some m.cls := hown0
        obtain ⟨hP, hD⟩ := gBack hF ht hB
        obtain ⟨hIσ6, hro, hp_19⟩ := hw
        subst hro
        refine lv_iadd hx hb dX12_nextWhole_53 ?_
        refine lv_topi (fun x_20 ex_20 => ?_)
        refine lv_bipush (v := 48) hx hb dX12_nextWhole_54 (by decide) ?_
        refine lv_isub hx hb dX12_nextWhole_56 ?_
        refine lv_topi (fun x_21 ex_21 => ?_)
        have dn_22 := dg_s iv5_0 ex_11 (Int32.not_le.mp c_12) ex_16 ex_20 ex_21 (Int32.le_trans (in_of in_7 c_8).1 (eq_le (hp_4.2.trans hp_19.2.symm))) (Int32.le_trans (eq_le (hp_19.2.trans hp_4.2.symm)) (in_of in_7 c_8).2)
        refine va_put (D := (dC, dI)) (ci := 11) (v := .int x_21) (C := RX12) (T := TX12) (N := 69) hx hb hts hinX12 tyX12 tyX12_ok nmX12 hown hK hP hD hS 0 (mat_11 rfl) rfl 36 (by decide) (hts (.fieldLink RX12 220 "BondCalendarsModel" "number" "I") (by decide +kernel)) (fun _ h9 => h9) rfl (ty := .int) (by decide +kernel) rfl rfl (Nat.le_of_ble_eq_true rfl) dX12_nextWhole_57 (fun H locs hP hD hS => ?_)
        obtain ⟨σ7, eσ7, hP, hD⟩ := gPut (mse_11_36 rfl) hP hD
        have hIσ7 : InvM σ7 := by rw [eσ7]; exact minv_I hIσ5x (mok_11_36 rfl _ ⟨dn_22.1, dn_22.2.1⟩)
        have frσ7 : mFr [] [33, 34, 36] σ σ7 := by rw [eσ7]; exact mFr.oI frσ5x (by decide)
        refine lv_aload_n hx hb dX12_nextWhole_60 rfl (lv_at hl 0 rfl) ?_
        refine lv_dup hx hb dX12_nextWhole_61 rfl ?_
        refine va_get (D := (dC, dI)) (ci := 11) (v := .int ((σ5x 0).1 33)) (C := RX12) (T := TX12) (N := 69) hx hb hts hinX12 hown hK hP 0 (mat_11 rfl) rfl 33 (by decide) (hts (.fieldLink RX12 195 "BondCalendarsModel" "spot" "I") (by decide +kernel)) (fun _ h9 => h9) (congrArg (fun z => some (Value.int z)) (show (σ7 0).1 33 = ((σ5x 0).1 33) from by rw [eσ7, gI_oth _ _ _ (by decide)])) dX12_nextWhole_62 ?_
        refine lv_iconst (v := 1) hx hb dX12_nextWhole_65 (by decide) ?_
        refine lv_iadd hx hb dX12_nextWhole_66 ?_
        refine lv_topi (fun x_23 ex_23 => ?_)
        refine va_put (D := (dC, dI)) (ci := 11) (v := .int x_23) (C := RX12) (T := TX12) (N := 69) hx hb hts hinX12 tyX12 tyX12_ok nmX12 hown hK hP hD hS 0 (mat_11 rfl) rfl 33 (by decide) (hts (.fieldLink RX12 195 "BondCalendarsModel" "spot" "I") (by decide +kernel)) (fun _ h9 => h9) rfl (ty := .int) (by decide +kernel) rfl rfl (Nat.le_of_ble_eq_true rfl) dX12_nextWhole_67 (fun H locs hP hD hS => ?_)
        obtain ⟨σ8, eσ8, hP, hD⟩ := gPut (mse_11_33 rfl) hP hD
        have hIσ8 : InvM σ8 := by rw [eσ8]; exact minv_I hIσ7 (mok_11_33 rfl _ ⟨(cnt_0 bd_1.1 (Int32.lt_of_lt_of_le (hp_4.1 (fun e9 => absurd (Int32.le_of_lt (Int32.lt_of_lt_of_le (show (0 : Int32) < 48 by decide) (in_of in_7 c_8).1)) (by rw [e9]; decide))) bd_5.2) ex_23), (cnt_N bd_1.1 (Int32.lt_of_lt_of_le (hp_4.1 (fun e9 => absurd (Int32.le_of_lt (Int32.lt_of_lt_of_le (show (0 : Int32) < 48 by decide) (in_of in_7 c_8).1)) (by rw [e9]; decide))) bd_5.2) ex_23)⟩)
        have frσ8 : mFr [] [33, 34, 36] σ σ8 := by rw [eσ8]; exact mFr.oI frσ7 (by decide)
        refine lv_goto (tgt := 5) hx hb dX12_nextWhole_70 (by decide) ?_
        have nx_24 : (σ8 0).1 33 = x_23 := by rw [eσ8, gI_self]
        exact ih5  σ8 _ _ _ _ (by rw [nx_24]; exact cnt_m bd_1.1 (Int32.lt_of_lt_of_le (hp_4.1 (fun e9 => absurd (Int32.le_of_lt (Int32.lt_of_lt_of_le (show (0 : Int32) < 48 by decide) (in_of in_7 c_8).1)) (by rw [e9]; decide))) bd_5.2) hm5 ex_23) (dg_ch (show ((σ8 0).1 33 : Int32) = (x_23 : Int32) from by rw [eσ8, gI_self]) (Eq.refl _) (show ((σ8 0).1 36 : Int32) = (x_21 : Int32) from by rw [eσ8, gI_oth _ _ _ (by decide), eσ7, gI_self]) (dn_22.2.2 _ ex_23 (Int32.lt_of_lt_of_le (hp_4.1 (fun e9 => absurd (Int32.le_of_lt (Int32.lt_of_lt_of_le (show (0 : Int32) < 48 by decide) (in_of in_7 c_8).1)) (by rw [e9]; decide))) bd_5.2))) (le_ch (Eq.refl _) (show ((σ8 0).1 33 : Int32) = (x_23 : Int32) from by rw [eσ8, gI_self]) (Int32.le_of_lt (Int32.lt_of_le_of_lt iv5_1 (cnt_lt bd_1.1 (Int32.lt_of_lt_of_le (hp_4.1 (fun e9 => absurd (Int32.le_of_lt (Int32.lt_of_lt_of_le (show (0 : Int32) < 48 by decide) (in_of in_7 c_8).1)) (by rw [e9]; decide))) bd_5.2) ex_23)))) hIσ8 frσ8 hd0 hP hD hS (lv_sub hl [0] rfl)
set_option maxHeartbeats 8000000 in
set_option maxRecDepth 100000 in
theorem n_X12_nextSign (l : Launch) (dC : Nat → ClassId) (dI : Nat → Nat → Nat) (ad : Nat → Nat) (cA : Nat → ClassId) (adK adV : Nat → Nat) (sz : Nat) (σ : gs) (hI : InvM σ) (p0 : Int32) (hh0 : (σ 0).1 33 < 900) : MetD lw_cs l yX12_nextSign wsX12_nextSign ({ frames := 0, cells := 0, slots := 0, locals := 0 }) (va_Pc [.ref (ad 0), .int p0] (gPre adK adV (dC, dI) (wM ad cA σ) (tM cA) sz)) (va_Qv (fun (τ : gs) => InvM τ ∧ mFr [] [33, 34] σ τ ∧ ((σ 0).1 33 ≤ (τ 0).1 33 ∧ (4 ≤ (τ 0).1 34 → (σ 0).1 33 < (τ 0).1 33))) (fun τ t => gPost (dC, dI) (va_A (wM ad cA σ) sz) (wM ad cA τ) t) (va_A (wM ad cA σ) sz)) 0 0 (va_A (wM ad cA σ) sz) := by
  refine MetD.ofW (cc := cX12_nextSign) (maxL := 2) (ret := none) (by decide) rfl ?_
  intro p e s m args below meth c s₁ B hml hv hd0
  obtain ⟨rfl, hsz, hP, hK, hD0, hT⟩ := hv
  have hx := B.exec
  have hb := B.bytes
  have hr := B.returns
  have hts0 := atoms_spec (ws := wsX12_nextSign) B.pre
  have hK0 := hK
  have hown0 : s.vm.findClass RX12 = some m.cls := findClass_of_methodNamed B.named
  have hlocks := B.notSynchronized
  have hinX12 : ∀ w ∈ u_ws RX12 TX12 69, w ∈ wsX12_nextSign := (fun _ h9 => List.mem_cons_of_mem _ (List.mem_append_right _ h9))
  subst hsz
  have hD := hD0.self (sz := s.heap.size)
  generalize hAe : va_A (wM ad cA σ) s.heap.size = A at hD hT ⊢
  have hA : ∀ q : Nat, s.heap.size ≤ q → A q := fun q h => by rw [← hAe]; exact Or.inr h
  have hS : va_S A s.heap s.heap [] := va_S.rf
  have hl := lv_entry ([.ref (ad 0), .int p0]) (n := 2) (Nat.le_of_ble_eq_true rfl)
  rw [lg_entry_eq]
  generalize (lg_sl ([.ref (ad 0), .int p0]) ++ List.replicate (2 - (lg_sl ([.ref (ad 0), .int p0])).length) Slot.unset).toArray = ls at hl ⊢
  have hl : lv_has ls 2 [(0, .ref (ad 0)), (1, .int p0)] := hl
  have hts := dr_words hts0 (s.drawn)
  have hK := gKd hK0 (s.drawn)
  have hown : (s.setDrawn (s.drawn)).vm.findClass RX12 = some m.cls := hown0
  refine lv_aload_n hx hb dX12_nextSign_0 rfl (lv_at hl 0 rfl) ?_
  refine lv_iload_n hx hb dX12_nextSign_1 rfl (lv_at hl 1 rfl) ?_
  refine lv_bipush (v := 59) hx hb dX12_nextSign_2 (by decide) ?_
  refine lv_icmp_ne (tgt := 11) hx hb dX12_nextSign_4 (by decide) (fun c_1 => ?_) (fun c_1 => ?_)
  · refine lv_iconst (v := 0) hx hb dX12_nextSign_11 (by decide) ?_
    refine va_put (D := (dC, dI)) (ci := 11) (v := .int 0) (C := RX12) (T := TX12) (N := 69) hx hb hts hinX12 tyX12 tyX12_ok nmX12 hown hK hP hD hS 0 (mat_11 rfl) rfl 34 (by decide) (hts (.fieldLink RX12 204 "BondCalendarsModel" "kind" "I") (by decide +kernel)) (fun _ h9 => h9) rfl (ty := .int) (by decide +kernel) rfl rfl (Nat.le_of_ble_eq_true rfl) dX12_nextSign_12 (fun H locs hP hD hS => ?_)
    obtain ⟨σ1, eσ1, hP, hD⟩ := gPut (mse_11_34 rfl) hP hD
    have hIσ1 : InvM σ1 := by rw [eσ1]; exact minv_I hI (mok_11_34 rfl _)
    have frσ1 : mFr [] [33, 34] σ σ1 := by rw [eσ1]; exact mFr.oI (mFr.rfl (L := []) (F := [33, 34]) (σ := σ)) (by decide)
    refine lv_iload_n hx hb dX12_nextSign_15 rfl (lv_at hl 1 rfl) ?_
    refine lv_bipush (v := 59) hx hb dX12_nextSign_16 (by decide) ?_
    refine lv_icmp_ne (tgt := 31) hx hb dX12_nextSign_18 (by decide) (fun c_2 => ?_) (fun c_2 => ?_)
    · refine W.endD hd0 ?_
      exact W.vret hx hb hr (fun t ht hW => ⟨⟨σ1, rfl, ⟨hIσ1, frσ1, ⟨(le_ch (Eq.refl _) (show ((σ1 0).1 33 : Int32) = ((σ 0).1 33 : Int32) from by rw [eσ1, gI_oth _ _ _ (by decide)]) (Int32.le_refl ((σ 0).1 33))), (fun h9 => absurd h9 (Int32.not_le.mpr (lt_ch (show ((σ1 0).1 34 : Int32) = (0 : Int32) from by rw [eσ1, gI_self]) (Eq.refl _) (show (0 : Int32) < 4 by decide))))⟩⟩, ⟨by rw [ht]; exact hP, hD⟩⟩, hS.F ht⟩) hS.2.2 dX12_nextSign_31
    · exact absurd c_2 c_1
  · refine lv_iconst (v := 4) hx hb dX12_nextSign_7 (by decide) ?_
    refine lv_goto (tgt := 12) hx hb dX12_nextSign_8 (by decide) ?_
    refine va_put (D := (dC, dI)) (ci := 11) (v := .int 4) (C := RX12) (T := TX12) (N := 69) hx hb hts hinX12 tyX12 tyX12_ok nmX12 hown hK hP hD hS 0 (mat_11 rfl) rfl 34 (by decide) (hts (.fieldLink RX12 204 "BondCalendarsModel" "kind" "I") (by decide +kernel)) (fun _ h9 => h9) rfl (ty := .int) (by decide +kernel) rfl rfl (Nat.le_of_ble_eq_true rfl) dX12_nextSign_12 (fun H locs hP hD hS => ?_)
    obtain ⟨σ2, eσ2, hP, hD⟩ := gPut (mse_11_34 rfl) hP hD
    have hIσ2 : InvM σ2 := by rw [eσ2]; exact minv_I hI (mok_11_34 rfl _)
    have frσ2 : mFr [] [33, 34] σ σ2 := by rw [eσ2]; exact mFr.oI (mFr.rfl (L := []) (F := [33, 34]) (σ := σ)) (by decide)
    refine lv_iload_n hx hb dX12_nextSign_15 rfl (lv_at hl 1 rfl) ?_
    refine lv_bipush (v := 59) hx hb dX12_nextSign_16 (by decide) ?_
    refine lv_icmp_ne (tgt := 31) hx hb dX12_nextSign_18 (by decide) (fun c_3 => ?_) (fun c_3 => ?_)
    · exact absurd c_1 c_3
    · refine lv_aload_n hx hb dX12_nextSign_21 rfl (lv_at hl 0 rfl) ?_
      refine lv_dup hx hb dX12_nextSign_22 rfl ?_
      have bd_4 := mrd_11_33 (c := 0) hI rfl
      refine va_get (D := (dC, dI)) (ci := 11) (v := .int ((σ 0).1 33)) (C := RX12) (T := TX12) (N := 69) hx hb hts hinX12 hown hK hP 0 (mat_11 rfl) rfl 33 (by decide) (hts (.fieldLink RX12 195 "BondCalendarsModel" "spot" "I") (by decide +kernel)) (fun _ h9 => h9) (congrArg (fun z => some (Value.int z)) (show (σ2 0).1 33 = ((σ 0).1 33) from by rw [eσ2, gI_oth _ _ _ (by decide)])) dX12_nextSign_23 ?_
      refine lv_iconst (v := 1) hx hb dX12_nextSign_26 (by decide) ?_
      refine lv_iadd hx hb dX12_nextSign_27 ?_
      refine lv_topi (fun x_5 ex_5 => ?_)
      refine va_put (D := (dC, dI)) (ci := 11) (v := .int x_5) (C := RX12) (T := TX12) (N := 69) hx hb hts hinX12 tyX12 tyX12_ok nmX12 hown hK hP hD hS 0 (mat_11 rfl) rfl 33 (by decide) (hts (.fieldLink RX12 195 "BondCalendarsModel" "spot" "I") (by decide +kernel)) (fun _ h9 => h9) rfl (ty := .int) (by decide +kernel) rfl rfl (Nat.le_of_ble_eq_true rfl) dX12_nextSign_28 (fun H locs hP hD hS => ?_)
      obtain ⟨σ3, eσ3, hP, hD⟩ := gPut (mse_11_33 rfl) hP hD
      have hIσ3 : InvM σ3 := by rw [eσ3]; exact minv_I hIσ2 (mok_11_33 rfl _ ⟨(cnt_0 bd_4.1 hh0 ex_5), (cnt_N bd_4.1 hh0 ex_5)⟩)
      have frσ3 : mFr [] [33, 34] σ σ3 := by rw [eσ3]; exact mFr.oI frσ2 (by decide)
      refine W.endD hd0 ?_
      exact W.vret hx hb hr (fun t ht hW => ⟨⟨σ3, rfl, ⟨hIσ3, frσ3, ⟨(le_ch (Eq.refl _) (show ((σ3 0).1 33 : Int32) = (x_5 : Int32) from by rw [eσ3, gI_self]) (Int32.le_of_lt (cnt_lt bd_4.1 hh0 ex_5))), (fun _ => (lt_ch (Eq.refl _) (show ((σ3 0).1 33 : Int32) = (x_5 : Int32) from by rw [eσ3, gI_self]) (cnt_lt bd_4.1 hh0 ex_5)))⟩⟩, ⟨by rw [ht]; exact hP, hD⟩⟩, hS.F ht⟩) hS.2.2 dX12_nextSign_31
set_option maxHeartbeats 8000000 in
set_option maxRecDepth 100000 in
theorem n_X12_next (l : Launch) (dC : Nat → ClassId) (dI : Nat → Nat → Nat) (ad : Nat → Nat) (cA : Nat → ClassId) (adK adV : Nat → Nat) (sz : Nat) (σ : gs) (hI : InvM σ)  : MetD lw_cs l yX12_next wsX12_next ({ frames := 2, cells := 0, slots := 0, locals := 42 }) (va_Pc [.ref (ad 0)] (gPre adK adV (dC, dI) (wM ad cA σ) (tM cA) sz)) (va_Qv (fun (τ : gs) => InvM τ ∧ mFr [] [33, 34, 35, 36] σ τ ∧ ((SP σ τ) ∧ ((σ 0).1 37 ≤ 0 → 4 ≤ (τ 0).1 34 → (σ 0).1 33 < (τ 0).1 33))) (fun τ t => gPost (dC, dI) (va_A (wM ad cA σ) sz) (wM ad cA τ) t) (va_A (wM ad cA σ) sz)) 0 0 (va_A (wM ad cA σ) sz) := by
  refine MetD.ofW (cc := cX12_next) (maxL := 2) (ret := none) (by decide) rfl ?_
  intro p e s m args below meth c s₁ B hml hv hd0
  obtain ⟨rfl, hsz, hP, hK, hD0, hT⟩ := hv
  have hx := B.exec
  have hb := B.bytes
  have hr := B.returns
  have hts0 := atoms_spec (ws := wsX12_next) B.pre
  have hK0 := hK
  have hown0 : s.vm.findClass RX12 = some m.cls := findClass_of_methodNamed B.named
  have hlocks := B.notSynchronized
  have hinX12 : ∀ w ∈ u_ws RX12 TX12 69, w ∈ wsX12_next := (fun _ h9 => List.mem_cons_of_mem _ (List.mem_append_right _ h9))
  subst hsz
  have hD := hD0.self (sz := s.heap.size)
  generalize hAe : va_A (wM ad cA σ) s.heap.size = A at hD hT ⊢
  have hA : ∀ q : Nat, s.heap.size ≤ q → A q := fun q h => by rw [← hAe]; exact Or.inr h
  have hS : va_S A s.heap s.heap [] := va_S.rf
  have hl := lv_entry ([.ref (ad 0)]) (n := 2) (Nat.le_of_ble_eq_true rfl)
  rw [lg_entry_eq]
  generalize (lg_sl ([.ref (ad 0)]) ++ List.replicate (2 - (lg_sl ([.ref (ad 0)])).length) Slot.unset).toArray = ls at hl ⊢
  have hl : lv_has ls 2 [(0, .ref (ad 0))] := hl
  have hts := dr_words hts0 (s.drawn)
  have hK := gKd hK0 (s.drawn)
  have hown : (s.setDrawn (s.drawn)).vm.findClass RX12 = some m.cls := hown0
  refine lv_aload_n hx hb dX12_next_0 rfl (lv_at hl 0 rfl) ?_
  have bd_1 := mrd_11_37 (c := 0) hI rfl
  refine va_get (D := (dC, dI)) (ci := 11) (v := .int ((σ 0).1 37)) (C := RX12) (T := TX12) (N := 69) hx hb hts hinX12 hown hK hP 0 (mat_11 rfl) rfl 37 (by decide) (hts (.fieldLink RX12 192 "BondCalendarsModel" "fault" "I") (by decide +kernel)) (fun _ h9 => h9) rfl dX12_next_1 ?_
  refine lv_if_le (tgt := 8) hx hb dX12_next_4 (by decide) (fun c_2 => ?_) (fun c_2 => ?_)
  · refine (fun (h : ∀ (n : Nat)  (σ8x : gs) (d8 : Drawn) (H : Heap) (locs : List Loc) (ls : Array Slot), ((900 : Int32).toInt - ((σ8x 0).1 33).toInt).toNat < n → (σ 0).1 33 ≤ (σ8x 0).1 33 → InvM σ8x → mFr [] [33, 34, 35, 36] σ σ8x → s.drawn.sameBut d8 lw_cs → va_P (dC, dI) vwCl (wM ad cA σ8x) H → va_D A (wM ad cA σ8x) → va_S A s.heap H locs → lv_has ls 2 [(0, .ref (ad 0))] → W p l e _ (s.setDrawn d8) m _ below meth c H locs _ _ _ (F0 m 8 ls [])) => h _  σ _ _ _ _ (Nat.lt_succ_self _) (Int32.le_refl ((σ 0).1 33)) hI (mFr.rfl (L := []) (F := [33, 34, 35, 36]) (σ := σ)) hd0 hP hD hS (lv_sub hl [0] rfl)) ?_
    intro n8
    induction n8 with
    | zero => intro  σ8x d8 H locs ls hm; exact absurd hm (Nat.not_lt_zero _)
    | succ n8 ih8 =>
      intro  σ8x d8 H locs ls hm8 iv8_0 hIσ8x frσ8x hd0 hP hD hS hl
      have hts := dr_words hts0 (d8)
      have hK := gKd hK0 (d8)
      have hown : (s.setDrawn (d8)).vm.findClass RX12 = some m.cls := hown0
      refine lv_aload_n hx hb dX12_next_8 rfl (lv_at hl 0 rfl) ?_
      refine lv_aload_n hx hb dX12_next_9 rfl (lv_at hl 0 rfl) ?_
      have bd_3 := mrd_11_33 (c := 0) hIσ8x rfl
      refine va_get (D := (dC, dI)) (ci := 11) (v := .int ((σ8x 0).1 33)) (C := RX12) (T := TX12) (N := 69) hx hb hts hinX12 hown hK hP 0 (mat_11 rfl) rfl 33 (by decide) (hts (.fieldLink RX12 195 "BondCalendarsModel" "spot" "I") (by decide +kernel)) (fun _ h9 => h9) rfl dX12_next_10 ?_
      have hF := gFree hD hS hA
      refine va_calliD hd0 (va_runV_D (As := [.int ((σ8x 0).1 33)]) (rest := []) ⟨hx, hb, hml, hown, hts⟩ (n_X12_byteAt l dC dI ad cA adK adV H.size σ8x hIσ8x ((σ8x 0).1 33) bd_3.1) (cwV 1 hts gX12_next_X12_byteAt rfl rfl rfl (by decide +kernel) ⟨Nat.le_of_ble_eq_true rfl, Nat.le_of_ble_eq_true rfl⟩) ⟨gBlind, va_recv hK hP (ci := 11) (q0 := 0) rfl (mat_11 rfl), gStart (As := [.ref (ad 0), .int ((σ8x 0).1 33)]) hP hD hK0 hT hS hF (d8)⟩ rfl rfl hl.1 rfl (lv_room (Nat.le_of_ble_eq_true rfl)) dX12_next_13 ⟨Nat.le_of_ble_eq_true rfl, Nat.le_of_ble_eq_true rfl⟩) hS (fun q _ h => hF q h) hF (fun r_4 σ1 t H locs ht hvm hw hB hz1 hk1 hS d_5 hd0 => ?_)
      have hts := dr_words hts0 (d_5)
      have hK := gKd hK0 (d_5)
      have hown : (s.setDrawn (d_5)).vm.findClass RX12 = some m.cls := hown0
      obtain ⟨hP, hD⟩ := gBack hF ht hB
      obtain ⟨hIσ1, hro, hp_6⟩ := hw
      subst hro
      have bd_7 := mrd_11_32 (c := 0) hIσ8x rfl
      refine lv_bipush (v := 32) hx hb dX12_next_16 (by decide) ?_
      refine lv_icmp_ne (tgt := 34) hx hb dX12_next_18 (by decide) (fun c_8 => ?_) (fun c_8 => ?_)
      · refine lv_aload_n hx hb dX12_next_34 rfl (lv_at hl 0 rfl) ?_
        refine lv_aload_n hx hb dX12_next_35 rfl (lv_at hl 0 rfl) ?_
        refine va_get (D := (dC, dI)) (ci := 11) (v := .int ((σ8x 0).1 33)) (C := RX12) (T := TX12) (N := 69) hx hb hts hinX12 hown hK hP 0 (mat_11 rfl) rfl 33 (by decide) (hts (.fieldLink RX12 195 "BondCalendarsModel" "spot" "I") (by decide +kernel)) (fun _ h9 => h9) rfl dX12_next_36 ?_
        refine va_put (D := (dC, dI)) (ci := 11) (v := .int ((σ8x 0).1 33)) (C := RX12) (T := TX12) (N := 69) hx hb hts hinX12 tyX12 tyX12_ok nmX12 hown hK hP hD hS 0 (mat_11 rfl) rfl 35 (by decide) (hts (.fieldLink RX12 201 "BondCalendarsModel" "at" "I") (by decide +kernel)) (fun _ h9 => h9) rfl (ty := .int) (by decide +kernel) rfl rfl (Nat.le_of_ble_eq_true rfl) dX12_next_39 (fun H locs hP hD hS => ?_)
        obtain ⟨σ2, eσ2, hP, hD⟩ := gPut (mse_11_35 rfl) hP hD
        have hIσ2 : InvM σ2 := by rw [eσ2]; exact minv_I hIσ8x (mok_11_35 rfl _)
        have frσ2 : mFr [] [33, 34, 35, 36] σ σ2 := by rw [eσ2]; exact mFr.oI frσ8x (by decide)
        refine lv_aload_n hx hb dX12_next_42 rfl (lv_at hl 0 rfl) ?_
        refine lv_aload_n hx hb dX12_next_43 rfl (lv_at hl 0 rfl) ?_
        refine va_get (D := (dC, dI)) (ci := 11) (v := .int ((σ8x 0).1 33)) (C := RX12) (T := TX12) (N := 69) hx hb hts hinX12 hown hK hP 0 (mat_11 rfl) rfl 33 (by decide) (hts (.fieldLink RX12 195 "BondCalendarsModel" "spot" "I") (by decide +kernel)) (fun _ h9 => h9) (congrArg (fun z => some (Value.int z)) (show (σ2 0).1 33 = ((σ8x 0).1 33) from by rw [eσ2, gI_oth _ _ _ (by decide)])) dX12_next_44 ?_
        have hF := gFree hD hS hA
        refine va_calliD hd0 (va_runV_D (As := [.int ((σ8x 0).1 33)]) (rest := []) ⟨hx, hb, hml, hown, hts⟩ (n_X12_byteAt l dC dI ad cA adK adV H.size σ2 hIσ2 ((σ8x 0).1 33) bd_3.1) (cwV 1 hts gX12_next_X12_byteAt rfl rfl rfl (by decide +kernel) ⟨Nat.le_of_ble_eq_true rfl, Nat.le_of_ble_eq_true rfl⟩) ⟨gBlind, va_recv hK hP (ci := 11) (q0 := 0) rfl (mat_11 rfl), gStart (As := [.ref (ad 0), .int ((σ8x 0).1 33)]) hP hD hK0 hT hS hF (d_5)⟩ rfl rfl hl.1 rfl (lv_room (Nat.le_of_ble_eq_true rfl)) dX12_next_47 ⟨Nat.le_of_ble_eq_true rfl, Nat.le_of_ble_eq_true rfl⟩) hS (fun q _ h => hF q h) hF (fun r_9 σ3 t H locs ht hvm hw hB hz1 hk1 hS d_10 hd0 => ?_)
        have hts := dr_words hts0 (d_10)
        have hK := gKd hK0 (d_10)
        have hown : (s.setDrawn (d_10)).vm.findClass RX12 = some m.cls := hown0
        obtain ⟨hP, hD⟩ := gBack hF ht hB
        obtain ⟨hIσ3, hro, hp_11⟩ := hw
        subst hro
        have bd_12 := mrd_11_32 (c := 0) hIσ2 rfl
        refine lv_istore_n (lv' := [(1, .int r_9), (0, .ref (ad 0))]) hx hb dX12_next_50 rfl hl (by decide) rfl (fun ls hl => ?_)
        refine lv_iload_n hx hb dX12_next_51 rfl (lv_at hl 0 rfl) ?_
        refine lv_iconst (v := (-1)) hx hb dX12_next_52 (by decide) ?_
        refine lv_icmp_ne (tgt := 64) hx hb dX12_next_53 (by decide) (fun c_13 => ?_) (fun c_13 => ?_)
        · refine lv_iload_n hx hb dX12_next_64 rfl (lv_at hl 0 rfl) ?_
          refine lv_bipush (v := 97) hx hb dX12_next_65 (by decide) ?_
          refine lv_bipush (v := 122) hx hb dX12_next_67 (by decide) ?_
          have hF := gFree (w := []) (hx_D0 (A := A)) hS hA
          have hKe := hK.sub (tys' := []) [] rfl
          refine va_calli (va_runS (As := [.int r_9, .int 97, .int 122]) (rest := []) ⟨hx, hb, hml, hown, hts⟩ (k_X12_in l dC dI H.size r_9 97 122 ) (va_cwS 3 hts gX12_next_X12_in rfl rfl rfl (by decide +kernel) ⟨Nat.le_of_ble_eq_true rfl, Nat.le_of_ble_eq_true rfl⟩) ⟨fun a U g mk q => by obtain ⟨q0, q1, qP, qK, qD⟩ := q; exact ⟨q0, q1, qP, va_K.moved (u := U) (U := U.calling g mk a) (Vm.Alike.refl U.vm) qK, qD⟩, fun U hU hW => ⟨rfl, by rw [hU], hx_P0, va_K.moved hW.alike hKe, hx_D0⟩⟩ rfl rfl hl.1 rfl (lv_room (Nat.le_of_ble_eq_true rfl)) dX12_next_69 ⟨Nat.le_of_ble_eq_true rfl, Nat.le_of_ble_eq_true rfl⟩) hS (fun q _ h => hF q h) hF (fun r_14 u t H locs ht hvm hw hB hz1 hk1 hS => ?_)
          have hP := gKeep hP hk1
          have in_15 : r_14 = f_X12_in r_9 97 122 := hw
          have bin_15 : r_14 = 0 ∨ r_14 = 1 := by rw [in_15]; exact in01 _ _ _
          refine lv_if_eq (tgt := 82) hx hb dX12_next_72 (by decide) (fun c_16 => ?_) (fun c_16 => ?_)
          · refine lv_iload_n hx hb dX12_next_82 rfl (lv_at hl 0 rfl) ?_
            refine lv_bipush (v := 48) hx hb dX12_next_83 (by decide) ?_
            refine lv_bipush (v := 57) hx hb dX12_next_85 (by decide) ?_
            have hF := gFree (w := []) (hx_D0 (A := A)) hS hA
            have hKe := hK.sub (tys' := []) [] rfl
            refine va_calli (va_runS (As := [.int r_9, .int 48, .int 57]) (rest := []) ⟨hx, hb, hml, hown, hts⟩ (k_X12_in l dC dI H.size r_9 48 57 ) (va_cwS 3 hts gX12_next_X12_in rfl rfl rfl (by decide +kernel) ⟨Nat.le_of_ble_eq_true rfl, Nat.le_of_ble_eq_true rfl⟩) ⟨fun a U g mk q => by obtain ⟨q0, q1, qP, qK, qD⟩ := q; exact ⟨q0, q1, qP, va_K.moved (u := U) (U := U.calling g mk a) (Vm.Alike.refl U.vm) qK, qD⟩, fun U hU hW => ⟨rfl, by rw [hU], hx_P0, va_K.moved hW.alike hKe, hx_D0⟩⟩ rfl rfl hl.1 rfl (lv_room (Nat.le_of_ble_eq_true rfl)) dX12_next_87 ⟨Nat.le_of_ble_eq_true rfl, Nat.le_of_ble_eq_true rfl⟩) hS (fun q _ h => hF q h) hF (fun r_17 u t H locs ht hvm hw hB hz1 hk1 hS => ?_)
            have hP := gKeep hP hk1
            have in_18 : r_17 = f_X12_in r_9 48 57 := hw
            have bin_18 : r_17 = 0 ∨ r_17 = 1 := by rw [in_18]; exact in01 _ _ _
            refine lv_if_eq (tgt := 100) hx hb dX12_next_90 (by decide) (fun c_19 => ?_) (fun c_19 => ?_)
            · refine lv_aload_n hx hb dX12_next_100 rfl (lv_at hl 1 rfl) ?_
              refine lv_iload_n hx hb dX12_next_101 rfl (lv_at hl 0 rfl) ?_
              have hF := gFree hD hS hA
              refine va_callvD hd0 (va_runV_D (As := [.int r_9]) (rest := []) ⟨hx, hb, hml, hown, hts⟩ (n_X12_nextSign l dC dI ad cA adK adV H.size σ2 hIσ2 r_9 (by rw [eσ2, gI_oth _ _ _ (by decide)]; exact (Int32.lt_of_lt_of_le (hp_11.1 c_13) bd_12.2))) (cwV 1 hts gX12_next_X12_nextSign rfl rfl rfl (by decide +kernel) ⟨Nat.le_of_ble_eq_true rfl, Nat.le_of_ble_eq_true rfl⟩) ⟨gBlind, va_recv hK hP (ci := 11) (q0 := 0) rfl (mat_11 rfl), gStart (As := [.ref (ad 0), .int r_9]) hP hD hK0 hT hS hF (d_10)⟩ rfl rfl hl.1 rfl (lv_room (Nat.le_of_ble_eq_true rfl)) dX12_next_102 ⟨Nat.le_of_ble_eq_true rfl, Nat.le_of_ble_eq_true rfl⟩) hS (fun q _ h => hF q h) hF (fun σ4 t H locs ht hvm hw hB hz1 hk1 hS d_21 hd0 => ?_)
              have hts := dr_words hts0 (d_21)
              have hK := gKd hK0 (d_21)
              have hown : (s.setDrawn (d_21)).vm.findClass RX12 = some m.cls := hown0
              obtain ⟨hP, hD⟩ := gBack hF ht hB
              obtain ⟨hIσ4, fcσ4, hp_22⟩ := hw
              have of_23 : ((σ8x 0).1 33 : Int32) ≤ ((σ4 0).1 33 : Int32) := le_ch (show ((σ2 0).1 33 : Int32) = ((σ8x 0).1 33 : Int32) from by rw [eσ2, gI_oth _ _ _ (by decide)]).symm (Eq.refl _).symm hp_22.1
              have im_24 : (4 : Int32) ≤ ((σ4 0).1 34 : Int32) → ((σ8x 0).1 33 : Int32) < ((σ4 0).1 33 : Int32) := fun h9 => lt_ch (show ((σ2 0).1 33 : Int32) = ((σ8x 0).1 33 : Int32) from by rw [eσ2, gI_oth _ _ _ (by decide)]).symm (Eq.refl _).symm (hp_22.2 (le_ch (Eq.refl _) (Eq.refl _) h9))
              refine W.endD hd0 ?_
              exact W.vret hx hb hr (fun t ht hW => ⟨⟨σ4, rfl, ⟨hIσ4, (mFr.tr frσ2 fcσ4 (by decide) (by decide)), ⟨(SP.mk1 (Int32.le_trans iv8_0 of_23) (fun h8 => (Int32.lt_of_le_of_lt iv8_0 (im_24 h8))) (fun _ => (le_ch (show ((σ4 0).1 37 : Int32) = ((σ 0).1 37 : Int32) from by rw [fcσ4.2 37 (by decide), eσ2, gI_oth _ _ _ (by decide), frσ8x.2 37 (by decide)]) (Eq.refl _) c_2))), (fun _ => (fun h8 => (Int32.lt_of_le_of_lt iv8_0 (im_24 h8))))⟩⟩, ⟨by rw [ht]; exact hP, hD⟩⟩, hS.F ht⟩) hS.2.2 dX12_next_105
            · refine lv_aload_n hx hb dX12_next_93 rfl (lv_at hl 1 rfl) ?_
              have hF := gFree hD hS hA
              refine va_callvD hd0 (va_runV_D (As := []) (rest := []) ⟨hx, hb, hml, hown, hts⟩ (n_X12_nextWhole l dC dI ad cA adK adV H.size σ2 hIσ2 ((show ((σ2 0).1 33 : Int32) = ((σ8x 0).1 33 : Int32) from by rw [eσ2, gI_oth _ _ _ (by decide)]).trans (show ((σ2 0).1 35 : Int32) = ((σ8x 0).1 33 : Int32) from by rw [eσ2, gI_self]).symm)) (cwV 0 hts gX12_next_X12_nextWhole rfl rfl rfl (by decide +kernel) ⟨Nat.le_of_ble_eq_true rfl, Nat.le_of_ble_eq_true rfl⟩) ⟨gBlind, va_recv hK hP (ci := 11) (q0 := 0) rfl (mat_11 rfl), gStart (As := [.ref (ad 0)]) hP hD hK0 hT hS hF (d_10)⟩ rfl rfl hl.1 rfl (lv_room (Nat.le_of_ble_eq_true rfl)) dX12_next_94 ⟨Nat.le_of_ble_eq_true rfl, Nat.le_of_ble_eq_true rfl⟩) hS (fun q _ h => hF q h) hF (fun σ5 t H locs ht hvm hw hB hz1 hk1 hS d_26 hd0 => ?_)
              have hts := dr_words hts0 (d_26)
              have hK := gKd hK0 (d_26)
              have hown : (s.setDrawn (d_26)).vm.findClass RX12 = some m.cls := hown0
              obtain ⟨hP, hD⟩ := gBack hF ht hB
              obtain ⟨hIσ5, fcσ5, hp_27⟩ := hw
              have of_28 : ((σ8x 0).1 33 : Int32) ≤ ((σ5 0).1 33 : Int32) := le_ch (show ((σ2 0).1 33 : Int32) = ((σ8x 0).1 33 : Int32) from by rw [eσ2, gI_oth _ _ _ (by decide)]).symm (Eq.refl _).symm hp_27.1
              refine lv_goto (tgt := 105) hx hb dX12_next_97 (by decide) ?_
              refine W.endD hd0 ?_
              exact W.vret hx hb hr (fun t ht hW => ⟨⟨σ5, rfl, ⟨hIσ5, (mFr.tr frσ2 fcσ5 (by decide) (by decide)), ⟨(SP.mk1 (Int32.le_trans iv8_0 of_28) (fun h9 => absurd h9 (Int32.not_le.mpr (Int32.lt_of_le_of_lt hp_27.2 (show (3 : Int32) < 4 by decide)))) (fun _ => (le_ch (show ((σ5 0).1 37 : Int32) = ((σ 0).1 37 : Int32) from by rw [fcσ5.2 37 (by decide), eσ2, gI_oth _ _ _ (by decide), frσ8x.2 37 (by decide)]) (Eq.refl _) c_2))), (fun _ => (fun h9 => absurd h9 (Int32.not_le.mpr (Int32.lt_of_le_of_lt hp_27.2 (show (3 : Int32) < 4 by decide)))))⟩⟩, ⟨by rw [ht]; exact hP, hD⟩⟩, hS.F ht⟩) hS.2.2 dX12_next_105
          · refine lv_aload_n hx hb dX12_next_75 rfl (lv_at hl 1 rfl) ?_
            have hF := gFree hD hS hA
            refine va_callvD hd0 (va_runV_D (As := []) (rest := []) ⟨hx, hb, hml, hown, hts⟩ (n_X12_nextWord l dC dI ad cA adK adV H.size σ2 hIσ2 ) (cwV 0 hts gX12_next_X12_nextWord rfl rfl rfl (by decide +kernel) ⟨Nat.le_of_ble_eq_true rfl, Nat.le_of_ble_eq_true rfl⟩) ⟨gBlind, va_recv hK hP (ci := 11) (q0 := 0) rfl (mat_11 rfl), gStart (As := [.ref (ad 0)]) hP hD hK0 hT hS hF (d_10)⟩ rfl rfl hl.1 rfl (lv_room (Nat.le_of_ble_eq_true rfl)) dX12_next_76 ⟨Nat.le_of_ble_eq_true rfl, Nat.le_of_ble_eq_true rfl⟩) hS (fun q _ h => hF q h) hF (fun σ6 t H locs ht hvm hw hB hz1 hk1 hS d_30 hd0 => ?_)
            have hts := dr_words hts0 (d_30)
            have hK := gKd hK0 (d_30)
            have hown : (s.setDrawn (d_30)).vm.findClass RX12 = some m.cls := hown0
            obtain ⟨hP, hD⟩ := gBack hF ht hB
            obtain ⟨hIσ6, fcσ6, hp_31⟩ := hw
            have of_32 : ((σ8x 0).1 33 : Int32) ≤ ((σ6 0).1 33 : Int32) := le_ch (show ((σ2 0).1 33 : Int32) = ((σ8x 0).1 33 : Int32) from by rw [eσ2, gI_oth _ _ _ (by decide)]).symm (Eq.refl _).symm hp_31.1
            refine lv_goto (tgt := 105) hx hb dX12_next_79 (by decide) ?_
            refine W.endD hd0 ?_
            exact W.vret hx hb hr (fun t ht hW => ⟨⟨σ6, rfl, ⟨hIσ6, (mFr.tr frσ2 fcσ6 (by decide) (by decide)), ⟨(SP.mk1 (Int32.le_trans iv8_0 of_32) (fun h9 => absurd h9 (Int32.not_le.mpr (Int32.lt_of_le_of_lt hp_31.2 (show (3 : Int32) < 4 by decide)))) (fun _ => (le_ch (show ((σ6 0).1 37 : Int32) = ((σ 0).1 37 : Int32) from by rw [fcσ6.2 37 (by decide), eσ2, gI_oth _ _ _ (by decide), frσ8x.2 37 (by decide)]) (Eq.refl _) c_2))), (fun _ => (fun h9 => absurd h9 (Int32.not_le.mpr (Int32.lt_of_le_of_lt hp_31.2 (show (3 : Int32) < 4 by decide)))))⟩⟩, ⟨by rw [ht]; exact hP, hD⟩⟩, hS.F ht⟩) hS.2.2 dX12_next_105
        · refine lv_aload_n hx hb dX12_next_56 rfl (lv_at hl 1 rfl) ?_
          refine lv_iconst (v := 1) hx hb dX12_next_57 (by decide) ?_
          refine va_put (D := (dC, dI)) (ci := 11) (v := .int 1) (C := RX12) (T := TX12) (N := 69) hx hb hts hinX12 tyX12 tyX12_ok nmX12 hown hK hP hD hS 0 (mat_11 rfl) rfl 34 (by decide) (hts (.fieldLink RX12 204 "BondCalendarsModel" "kind" "I") (by decide +kernel)) (fun _ h9 => h9) rfl (ty := .int) (by decide +kernel) rfl rfl (Nat.le_of_ble_eq_true rfl) dX12_next_58 (fun H locs hP hD hS => ?_)
          obtain ⟨σ7, eσ7, hP, hD⟩ := gPut (mse_11_34 rfl) hP hD
          have hIσ7 : InvM σ7 := by rw [eσ7]; exact minv_I hIσ2 (mok_11_34 rfl _)
          have frσ7 : mFr [] [33, 34, 35, 36] σ σ7 := by rw [eσ7]; exact mFr.oI frσ2 (by decide)
          refine lv_goto (tgt := 105) hx hb dX12_next_61 (by decide) ?_
          refine W.endD hd0 ?_
          exact W.vret hx hb hr (fun t ht hW => ⟨⟨σ7, rfl, ⟨hIσ7, frσ7, ⟨(SP.mk1 (le_ch (Eq.refl _) (show ((σ7 0).1 33 : Int32) = ((σ8x 0).1 33 : Int32) from by rw [eσ7, gI_oth _ _ _ (by decide), eσ2, gI_oth _ _ _ (by decide)]) iv8_0) (fun h9 => absurd h9 (Int32.not_le.mpr (lt_ch (show ((σ7 0).1 34 : Int32) = (1 : Int32) from by rw [eσ7, gI_self]) (Eq.refl _) (show (1 : Int32) < 4 by decide)))) (fun _ => (le_ch (show ((σ7 0).1 37 : Int32) = ((σ 0).1 37 : Int32) from by rw [eσ7, gI_oth _ _ _ (by decide), eσ2, gI_oth _ _ _ (by decide), frσ8x.2 37 (by decide)]) (Eq.refl _) c_2))), (fun _ => (fun h9 => absurd h9 (Int32.not_le.mpr (lt_ch (show ((σ7 0).1 34 : Int32) = (1 : Int32) from by rw [eσ7, gI_self]) (Eq.refl _) (show (1 : Int32) < 4 by decide)))))⟩⟩, ⟨by rw [ht]; exact hP, hD⟩⟩, hS.F ht⟩) hS.2.2 dX12_next_105
      · refine lv_aload_n hx hb dX12_next_21 rfl (lv_at hl 0 rfl) ?_
        refine lv_dup hx hb dX12_next_22 rfl ?_
        refine va_get (D := (dC, dI)) (ci := 11) (v := .int ((σ8x 0).1 33)) (C := RX12) (T := TX12) (N := 69) hx hb hts hinX12 hown hK hP 0 (mat_11 rfl) rfl 33 (by decide) (hts (.fieldLink RX12 195 "BondCalendarsModel" "spot" "I") (by decide +kernel)) (fun _ h9 => h9) rfl dX12_next_23 ?_
        refine lv_iconst (v := 1) hx hb dX12_next_26 (by decide) ?_
        refine lv_iadd hx hb dX12_next_27 ?_
        refine lv_topi (fun x_33 ex_33 => ?_)
        refine va_put (D := (dC, dI)) (ci := 11) (v := .int x_33) (C := RX12) (T := TX12) (N := 69) hx hb hts hinX12 tyX12 tyX12_ok nmX12 hown hK hP hD hS 0 (mat_11 rfl) rfl 33 (by decide) (hts (.fieldLink RX12 195 "BondCalendarsModel" "spot" "I") (by decide +kernel)) (fun _ h9 => h9) rfl (ty := .int) (by decide +kernel) rfl rfl (Nat.le_of_ble_eq_true rfl) dX12_next_28 (fun H locs hP hD hS => ?_)
        obtain ⟨σ8, eσ8, hP, hD⟩ := gPut (mse_11_33 rfl) hP hD
        have hIσ8 : InvM σ8 := by rw [eσ8]; exact minv_I hIσ8x (mok_11_33 rfl _ ⟨(cnt_0 bd_3.1 (Int32.lt_of_lt_of_le (hp_6.1 (fun e9 => absurd (Int32.le_of_lt (Int32.lt_of_lt_of_le (show (0 : Int32) < 32 by decide) (eq_le c_8.symm))) (by rw [e9]; decide))) bd_7.2) ex_33), (cnt_N bd_3.1 (Int32.lt_of_lt_of_le (hp_6.1 (fun e9 => absurd (Int32.le_of_lt (Int32.lt_of_lt_of_le (show (0 : Int32) < 32 by decide) (eq_le c_8.symm))) (by rw [e9]; decide))) bd_7.2) ex_33)⟩)
        have frσ8 : mFr [] [33, 34, 35, 36] σ σ8 := by rw [eσ8]; exact mFr.oI frσ8x (by decide)
        refine lv_goto (tgt := 8) hx hb dX12_next_31 (by decide) ?_
        have nx_34 : (σ8 0).1 33 = x_33 := by rw [eσ8, gI_self]
        exact ih8  σ8 _ _ _ _ (by rw [nx_34]; exact cnt_m bd_3.1 (Int32.lt_of_lt_of_le (hp_6.1 (fun e9 => absurd (Int32.le_of_lt (Int32.lt_of_lt_of_le (show (0 : Int32) < 32 by decide) (eq_le c_8.symm))) (by rw [e9]; decide))) bd_7.2) hm8 ex_33) (le_ch (Eq.refl _) (show ((σ8 0).1 33 : Int32) = (x_33 : Int32) from by rw [eσ8, gI_self]) (Int32.le_of_lt (Int32.lt_of_le_of_lt iv8_0 (cnt_lt bd_3.1 (Int32.lt_of_lt_of_le (hp_6.1 (fun e9 => absurd (Int32.le_of_lt (Int32.lt_of_lt_of_le (show (0 : Int32) < 32 by decide) (eq_le c_8.symm))) (by rw [e9]; decide))) bd_7.2) ex_33)))) hIσ8 frσ8 hd0 hP hD hS (lv_sub hl [0] rfl)
  · refine W.endD hd0 ?_
    exact W.vret hx hb hr (fun t ht hW => ⟨⟨σ, rfl, ⟨hI, (mFr.rfl (L := []) (F := [33, 34, 35, 36]) (σ := σ)), ⟨(SP.same rfl rfl rfl), (fun h9 => absurd h9 (Int32.not_le.mpr (Int32.not_le.mp c_2)))⟩⟩, ⟨by rw [ht]; exact hP, hD⟩⟩, hS.F ht⟩) hS.2.2 dX12_next_7
set_option maxHeartbeats 8000000 in
set_option maxRecDepth 100000 in
theorem n_X12_wrong (l : Launch) (dC : Nat → ClassId) (dI : Nat → Nat → Nat) (ad : Nat → Nat) (cA : Nat → ClassId) (adK adV : Nat → Nat) (sz : Nat) (σ : gs) (hI : InvM σ) (p0 : Int32) (hh0 : 0 < p0) : MetD lw_cs l yX12_wrong wsX12_wrong ({ frames := 0, cells := 0, slots := 0, locals := 0 }) (va_Pc [.ref (ad 0), .int p0] (gPre adK adV (dC, dI) (wM ad cA σ) (tM cA) sz)) (va_Qv (fun (τ : gs) => InvM τ ∧ mFr [] [34, 37] σ τ ∧ ((σ 0).1 37 ≤ (τ 0).1 37 ∧ 1 ≤ (τ 0).1 37 ∧ (SP σ τ))) (fun τ t => gPost (dC, dI) (va_A (wM ad cA σ) sz) (wM ad cA τ) t) (va_A (wM ad cA σ) sz)) 0 0 (va_A (wM ad cA σ) sz) := by
  refine MetD.ofW (cc := cX12_wrong) (maxL := 2) (ret := none) (by decide) rfl ?_
  intro p e s m args below meth c s₁ B hml hv hd0
  obtain ⟨rfl, hsz, hP, hK, hD0, hT⟩ := hv
  have hx := B.exec
  have hb := B.bytes
  have hr := B.returns
  have hts0 := atoms_spec (ws := wsX12_wrong) B.pre
  have hK0 := hK
  have hown0 : s.vm.findClass RX12 = some m.cls := findClass_of_methodNamed B.named
  have hlocks := B.notSynchronized
  have hinX12 : ∀ w ∈ u_ws RX12 TX12 69, w ∈ wsX12_wrong := (fun _ h9 => List.mem_cons_of_mem _ (List.mem_append_right _ h9))
  subst hsz
  have hD := hD0.self (sz := s.heap.size)
  generalize hAe : va_A (wM ad cA σ) s.heap.size = A at hD hT ⊢
  have hA : ∀ q : Nat, s.heap.size ≤ q → A q := fun q h => by rw [← hAe]; exact Or.inr h
  have hS : va_S A s.heap s.heap [] := va_S.rf
  have hl := lv_entry ([.ref (ad 0), .int p0]) (n := 2) (Nat.le_of_ble_eq_true rfl)
  rw [lg_entry_eq]
  generalize (lg_sl ([.ref (ad 0), .int p0]) ++ List.replicate (2 - (lg_sl ([.ref (ad 0), .int p0])).length) Slot.unset).toArray = ls at hl ⊢
  have hl : lv_has ls 2 [(0, .ref (ad 0)), (1, .int p0)] := hl
  have hts := dr_words hts0 (s.drawn)
  have hK := gKd hK0 (s.drawn)
  have hown : (s.setDrawn (s.drawn)).vm.findClass RX12 = some m.cls := hown0
  refine lv_aload_n hx hb dX12_wrong_0 rfl (lv_at hl 0 rfl) ?_
  have bd_1 := mrd_11_37 (c := 0) hI rfl
  refine va_get (D := (dC, dI)) (ci := 11) (v := .int ((σ 0).1 37)) (C := RX12) (T := TX12) (N := 69) hx hb hts hinX12 hown hK hP 0 (mat_11 rfl) rfl 37 (by decide) (hts (.fieldLink RX12 192 "BondCalendarsModel" "fault" "I") (by decide +kernel)) (fun _ h9 => h9) rfl dX12_wrong_1 ?_
  refine lv_if_ne (tgt := 12) hx hb dX12_wrong_4 (by decide) (fun c_2 => ?_) (fun c_2 => ?_)
  · refine lv_aload_n hx hb dX12_wrong_12 rfl (lv_at hl 0 rfl) ?_
    refine lv_iconst (v := 0) hx hb dX12_wrong_13 (by decide) ?_
    refine va_put (D := (dC, dI)) (ci := 11) (v := .int 0) (C := RX12) (T := TX12) (N := 69) hx hb hts hinX12 tyX12 tyX12_ok nmX12 hown hK hP hD hS 0 (mat_11 rfl) rfl 34 (by decide) (hts (.fieldLink RX12 204 "BondCalendarsModel" "kind" "I") (by decide +kernel)) (fun _ h9 => h9) rfl (ty := .int) (by decide +kernel) rfl rfl (Nat.le_of_ble_eq_true rfl) dX12_wrong_14 (fun H locs hP hD hS => ?_)
    obtain ⟨σ1, eσ1, hP, hD⟩ := gPut (mse_11_34 rfl) hP hD
    have hIσ1 : InvM σ1 := by rw [eσ1]; exact minv_I hI (mok_11_34 rfl _)
    have frσ1 : mFr [] [34, 37] σ σ1 := by rw [eσ1]; exact mFr.oI (mFr.rfl (L := []) (F := [34, 37]) (σ := σ)) (by decide)
    refine W.endD hd0 ?_
    exact W.vret hx hb hr (fun t ht hW => ⟨⟨σ1, rfl, ⟨hIσ1, frσ1, ⟨(le_ch (Eq.refl _) (show ((σ1 0).1 37 : Int32) = ((σ 0).1 37 : Int32) from by rw [eσ1, gI_oth _ _ _ (by decide)]) (Int32.le_refl ((σ 0).1 37))), (le_ch (Eq.refl _) (show ((σ1 0).1 37 : Int32) = ((σ 0).1 37 : Int32) from by rw [eσ1, gI_oth _ _ _ (by decide)]) (gl1 (b := 1) (ne_lt bd_1 c_2) (by decide))), (SP.mk1 (le_ch (Eq.refl _) (show ((σ1 0).1 33 : Int32) = ((σ 0).1 33 : Int32) from by rw [eσ1, gI_oth _ _ _ (by decide)]) (Int32.le_refl ((σ 0).1 33))) (fun h9 => absurd h9 (Int32.not_le.mpr (lt_ch (show ((σ1 0).1 34 : Int32) = (0 : Int32) from by rw [eσ1, gI_self]) (Eq.refl _) (show (0 : Int32) < 4 by decide)))) (fun h9 => absurd h9 (Int32.not_le.mpr (lt_ch (show ((σ1 0).1 34 : Int32) = (0 : Int32) from by rw [eσ1, gI_self]) (Eq.refl _) (show (0 : Int32) < 4 by decide)))))⟩⟩, ⟨by rw [ht]; exact hP, hD⟩⟩, hS.F ht⟩) hS.2.2 dX12_wrong_17
  · refine lv_aload_n hx hb dX12_wrong_7 rfl (lv_at hl 0 rfl) ?_
    refine lv_iload_n hx hb dX12_wrong_8 rfl (lv_at hl 1 rfl) ?_
    refine va_put (D := (dC, dI)) (ci := 11) (v := .int p0) (C := RX12) (T := TX12) (N := 69) hx hb hts hinX12 tyX12 tyX12_ok nmX12 hown hK hP hD hS 0 (mat_11 rfl) rfl 37 (by decide) (hts (.fieldLink RX12 192 "BondCalendarsModel" "fault" "I") (by decide +kernel)) (fun _ h9 => h9) rfl (ty := .int) (by decide +kernel) rfl rfl (Nat.le_of_ble_eq_true rfl) dX12_wrong_9 (fun H locs hP hD hS => ?_)
    obtain ⟨σ2, eσ2, hP, hD⟩ := gPut (mse_11_37 rfl) hP hD
    have hIσ2 : InvM σ2 := by rw [eσ2]; exact minv_I hI (mok_11_37 rfl _ (Int32.le_of_lt hh0))
    have frσ2 : mFr [] [34, 37] σ σ2 := by rw [eσ2]; exact mFr.oI (mFr.rfl (L := []) (F := [34, 37]) (σ := σ)) (by decide)
    refine lv_aload_n hx hb dX12_wrong_12 rfl (lv_at hl 0 rfl) ?_
    refine lv_iconst (v := 0) hx hb dX12_wrong_13 (by decide) ?_
    refine va_put (D := (dC, dI)) (ci := 11) (v := .int 0) (C := RX12) (T := TX12) (N := 69) hx hb hts hinX12 tyX12 tyX12_ok nmX12 hown hK hP hD hS 0 (mat_11 rfl) rfl 34 (by decide) (hts (.fieldLink RX12 204 "BondCalendarsModel" "kind" "I") (by decide +kernel)) (fun _ h9 => h9) rfl (ty := .int) (by decide +kernel) rfl rfl (Nat.le_of_ble_eq_true rfl) dX12_wrong_14 (fun H locs hP hD hS => ?_)
    obtain ⟨σ3, eσ3, hP, hD⟩ := gPut (mse_11_34 rfl) hP hD
    have hIσ3 : InvM σ3 := by rw [eσ3]; exact minv_I hIσ2 (mok_11_34 rfl _)
    have frσ3 : mFr [] [34, 37] σ σ3 := by rw [eσ3]; exact mFr.oI frσ2 (by decide)
    refine W.endD hd0 ?_
    exact W.vret hx hb hr (fun t ht hW => ⟨⟨σ3, rfl, ⟨hIσ3, frσ3, ⟨(le_ch (Eq.refl _) (show ((σ3 0).1 37 : Int32) = (p0 : Int32) from by rw [eσ3, gI_oth _ _ _ (by decide), eσ2, gI_self]) (Int32.le_of_lt (Int32.lt_of_le_of_lt (eq_le c_2) hh0))), (le_ch (Eq.refl _) (show ((σ3 0).1 37 : Int32) = (p0 : Int32) from by rw [eσ3, gI_oth _ _ _ (by decide), eσ2, gI_self]) (gl1 (b := 1) hh0 (by decide))), (SP.mk1 (le_ch (Eq.refl _) (show ((σ3 0).1 33 : Int32) = ((σ 0).1 33 : Int32) from by rw [eσ3, gI_oth _ _ _ (by decide), eσ2, gI_oth _ _ _ (by decide)]) (Int32.le_refl ((σ 0).1 33))) (fun h9 => absurd h9 (Int32.not_le.mpr (lt_ch (show ((σ3 0).1 34 : Int32) = (0 : Int32) from by rw [eσ3, gI_self]) (Eq.refl _) (show (0 : Int32) < 4 by decide)))) (fun h9 => absurd h9 (Int32.not_le.mpr (lt_ch (show ((σ3 0).1 34 : Int32) = (0 : Int32) from by rw [eσ3, gI_self]) (Eq.refl _) (show (0 : Int32) < 4 by decide)))))⟩⟩, ⟨by rw [ht]; exact hP, hD⟩⟩, hS.F ht⟩) hS.2.2 dX12_wrong_17
set_option maxHeartbeats 8000000 in
set_option maxRecDepth 100000 in
theorem n_X12_wholeAt (l : Launch) (dC : Nat → ClassId) (dI : Nat → Nat → Nat) (ad : Nat → Nat) (cA : Nat → ClassId) (adK adV : Nat → Nat) (sz : Nat) (σ : gs) (hI : InvM σ) (p0 : Int32) (p1 : Int32) : MetD lw_cs l yX12_wholeAt wsX12_wholeAt ({ frames := 1, cells := 0, slots := 0, locals := 22 }) (va_Pc [.ref (ad 0), .int p0, .int p1] (gPre adK adV (dC, dI) (wM ad cA σ) (tM cA) sz)) (va_Qi (fun (r : Int32) (τ : gs) => InvM τ ∧ mFr [] [34, 37] σ τ ∧ ((σ 0).1 37 ≤ (τ 0).1 37 ∧ ((τ 0).1 37 ≤ 0 → p0 ≤ r) ∧ ((τ 0).1 37 ≤ 0 → r ≤ p1) ∧ (SP σ τ) ∧ 0 ≤ r ∧ r ≤ 99999999)) (fun τ t => gPost (dC, dI) (va_A (wM ad cA σ) sz) (wM ad cA τ) t) (va_A (wM ad cA σ) sz)) 0 0 (va_A (wM ad cA σ) sz) := by
  refine MetD.ofW (cc := cX12_wholeAt) (maxL := 3) (ret := (some .int)) (by decide) rfl ?_
  intro p e s m args below meth c s₁ B hml hv hd0
  obtain ⟨rfl, hsz, hP, hK, hD0, hT⟩ := hv
  have hx := B.exec
  have hb := B.bytes
  have hr := B.returns
  have hts0 := atoms_spec (ws := wsX12_wholeAt) B.pre
  have hK0 := hK
  have hown0 : s.vm.findClass RX12 = some m.cls := findClass_of_methodNamed B.named
  have hlocks := B.notSynchronized
  have hinX12 : ∀ w ∈ u_ws RX12 TX12 69, w ∈ wsX12_wholeAt := (fun _ h9 => List.mem_cons_of_mem _ (List.mem_append_right _ h9))
  subst hsz
  have hD := hD0.self (sz := s.heap.size)
  generalize hAe : va_A (wM ad cA σ) s.heap.size = A at hD hT ⊢
  have hA : ∀ q : Nat, s.heap.size ≤ q → A q := fun q h => by rw [← hAe]; exact Or.inr h
  have hS : va_S A s.heap s.heap [] := va_S.rf
  have hl := lv_entry ([.ref (ad 0), .int p0, .int p1]) (n := 3) (Nat.le_of_ble_eq_true rfl)
  rw [lg_entry_eq]
  generalize (lg_sl ([.ref (ad 0), .int p0, .int p1]) ++ List.replicate (3 - (lg_sl ([.ref (ad 0), .int p0, .int p1])).length) Slot.unset).toArray = ls at hl ⊢
  have hl : lv_has ls 3 [(0, .ref (ad 0)), (1, .int p0), (2, .int p1)] := hl
  have hts := dr_words hts0 (s.drawn)
  have hK := gKd hK0 (s.drawn)
  have hown : (s.setDrawn (s.drawn)).vm.findClass RX12 = some m.cls := hown0
  refine lv_aload_n hx hb dX12_wholeAt_0 rfl (lv_at hl 0 rfl) ?_
  refine va_get (D := (dC, dI)) (ci := 11) (v := .int ((σ 0).1 34)) (C := RX12) (T := TX12) (N := 69) hx hb hts hinX12 hown hK hP 0 (mat_11 rfl) rfl 34 (by decide) (hts (.fieldLink RX12 204 "BondCalendarsModel" "kind" "I") (by decide +kernel)) (fun _ h9 => h9) rfl dX12_wholeAt_1 ?_
  refine lv_iconst (v := 3) hx hb dX12_wholeAt_4 (by decide) ?_
  refine lv_icmp_eq (tgt := 16) hx hb dX12_wholeAt_5 (by decide) (fun c_1 => ?_) (fun c_1 => ?_)
  · refine lv_aload_n hx hb dX12_wholeAt_16 rfl (lv_at hl 0 rfl) ?_
    have bd_2 := mrd_11_36 (c := 0) hI rfl
    refine va_get (D := (dC, dI)) (ci := 11) (v := .int ((σ 0).1 36)) (C := RX12) (T := TX12) (N := 69) hx hb hts hinX12 hown hK hP 0 (mat_11 rfl) rfl 36 (by decide) (hts (.fieldLink RX12 220 "BondCalendarsModel" "number" "I") (by decide +kernel)) (fun _ h9 => h9) rfl dX12_wholeAt_17 ?_
    refine lv_iload_n hx hb dX12_wholeAt_20 rfl (lv_at hl 1 rfl) ?_
    refine lv_iload_n hx hb dX12_wholeAt_21 rfl (lv_at hl 2 rfl) ?_
    have hF := gFree (w := []) (hx_D0 (A := A)) hS hA
    have hKe := hK.sub (tys' := []) [] rfl
    refine va_calli (va_runS (As := [.int ((σ 0).1 36), .int p0, .int p1]) (rest := []) ⟨hx, hb, hml, hown, hts⟩ (k_X12_in l dC dI s.heap.size ((σ 0).1 36) p0 p1 ) (va_cwS 3 hts gX12_wholeAt_X12_in rfl rfl rfl (by decide +kernel) ⟨Nat.le_of_ble_eq_true rfl, Nat.le_of_ble_eq_true rfl⟩) ⟨fun a U g mk q => by obtain ⟨q0, q1, qP, qK, qD⟩ := q; exact ⟨q0, q1, qP, va_K.moved (u := U) (U := U.calling g mk a) (Vm.Alike.refl U.vm) qK, qD⟩, fun U hU hW => ⟨rfl, by rw [hU], hx_P0, va_K.moved hW.alike hKe, hx_D0⟩⟩ rfl rfl hl.1 rfl (lv_room (Nat.le_of_ble_eq_true rfl)) dX12_wholeAt_22 ⟨Nat.le_of_ble_eq_true rfl, Nat.le_of_ble_eq_true rfl⟩) hS (fun q _ h => hF q h) hF (fun r_3 u t H locs ht hvm hw hB hz1 hk1 hS => ?_)
    have hP := gKeep hP hk1
    have in_4 : r_3 = f_X12_in ((σ 0).1 36) p0 p1 := hw
    have bin_4 : r_3 = 0 ∨ r_3 = 1 := by rw [in_4]; exact in01 _ _ _
    refine lv_if_ne (tgt := 33) hx hb dX12_wholeAt_25 (by decide) (fun c_5 => ?_) (fun c_5 => ?_)
    · refine lv_aload_n hx hb dX12_wholeAt_33 rfl (lv_at hl 0 rfl) ?_
      refine va_get (D := (dC, dI)) (ci := 11) (v := .int ((σ 0).1 36)) (C := RX12) (T := TX12) (N := 69) hx hb hts hinX12 hown hK hP 0 (mat_11 rfl) rfl 36 (by decide) (hts (.fieldLink RX12 220 "BondCalendarsModel" "number" "I") (by decide +kernel)) (fun _ h9 => h9) rfl dX12_wholeAt_34 ?_
      refine W.endD hd0 ?_
      exact W.iret (v := ((σ 0).1 36)) hx hb hr (fun t ht hW => ⟨⟨((σ 0).1 36), σ, rfl, ⟨hI, (mFr.rfl (L := []) (F := [34, 37]) (σ := σ)), ⟨(Int32.le_refl ((σ 0).1 37)), (fun _ => (in_of in_4 c_5).1), (fun _ => (in_of in_4 c_5).2), (SP.same rfl rfl rfl), bd_2.1, bd_2.2⟩⟩, ⟨by rw [ht]; exact hP, hD⟩⟩, hS.F ht⟩) hS.2.2 dX12_wholeAt_37
    · refine lv_aload_n hx hb dX12_wholeAt_28 rfl (lv_at hl 0 rfl) ?_
      refine lv_iconst (v := 2) hx hb dX12_wholeAt_29 (by decide) ?_
      have hF := gFree hD hS hA
      refine va_callvD hd0 (va_runV_D (As := [.int 2]) (rest := []) ⟨hx, hb, hml, hown, hts⟩ (n_X12_wrong l dC dI ad cA adK adV H.size σ hI 2 (show (0 : Int32) < 2 by decide)) (cwV 1 hts gX12_wholeAt_X12_wrong rfl rfl rfl (by decide +kernel) ⟨Nat.le_of_ble_eq_true rfl, Nat.le_of_ble_eq_true rfl⟩) ⟨gBlind, va_recv hK hP (ci := 11) (q0 := 0) rfl (mat_11 rfl), gStart (As := [.ref (ad 0), .int 2]) hP hD hK0 hT hS hF (s.drawn)⟩ rfl rfl hl.1 rfl (lv_room (Nat.le_of_ble_eq_true rfl)) dX12_wholeAt_30 ⟨Nat.le_of_ble_eq_true rfl, Nat.le_of_ble_eq_true rfl⟩) hS (fun q _ h => hF q h) hF (fun σ1 t H locs ht hvm hw hB hz1 hk1 hS d_7 hd0 => ?_)
      have hts := dr_words hts0 (d_7)
      have hK := gKd hK0 (d_7)
      have hown : (s.setDrawn (d_7)).vm.findClass RX12 = some m.cls := hown0
      obtain ⟨hP, hD⟩ := gBack hF ht hB
      obtain ⟨hIσ1, fcσ1, hp_8⟩ := hw
      refine lv_aload_n hx hb dX12_wholeAt_33 rfl (lv_at hl 0 rfl) ?_
      refine va_get (D := (dC, dI)) (ci := 11) (v := .int ((σ 0).1 36)) (C := RX12) (T := TX12) (N := 69) hx hb hts hinX12 hown hK hP 0 (mat_11 rfl) rfl 36 (by decide) (hts (.fieldLink RX12 220 "BondCalendarsModel" "number" "I") (by decide +kernel)) (fun _ h9 => h9) (congrArg (fun z => some (Value.int z)) (show (σ1 0).1 36 = ((σ 0).1 36) from by rw [fcσ1.2 36 (by decide)])) dX12_wholeAt_34 ?_
      refine W.endD hd0 ?_
      exact W.iret (v := ((σ 0).1 36)) hx hb hr (fun t ht hW => ⟨⟨((σ 0).1 36), σ1, rfl, ⟨hIσ1, (mFr.tr (mFr.rfl (L := []) (F := [34, 37]) (σ := σ)) fcσ1 (by decide) (by decide)), ⟨hp_8.1, (fun h9 => absurd h9 (Int32.not_le.mpr (Int32.lt_of_lt_of_le (show (0 : Int32) < 1 by decide) hp_8.2.1))), (fun h9 => absurd h9 (Int32.not_le.mpr (Int32.lt_of_lt_of_le (show (0 : Int32) < 1 by decide) hp_8.2.1))), hp_8.2.2, bd_2.1, bd_2.2⟩⟩, ⟨by rw [ht]; exact hP, hD⟩⟩, hS.F ht⟩) hS.2.2 dX12_wholeAt_37
  · refine lv_aload_n hx hb dX12_wholeAt_8 rfl (lv_at hl 0 rfl) ?_
    refine lv_iconst (v := 1) hx hb dX12_wholeAt_9 (by decide) ?_
    have hF := gFree hD hS hA
    refine va_callvD hd0 (va_runV_D (As := [.int 1]) (rest := []) ⟨hx, hb, hml, hown, hts⟩ (n_X12_wrong l dC dI ad cA adK adV s.heap.size σ hI 1 (show (0 : Int32) < 1 by decide)) (cwV 1 hts gX12_wholeAt_X12_wrong rfl rfl rfl (by decide +kernel) ⟨Nat.le_of_ble_eq_true rfl, Nat.le_of_ble_eq_true rfl⟩) ⟨gBlind, va_recv hK hP (ci := 11) (q0 := 0) rfl (mat_11 rfl), gStart (As := [.ref (ad 0), .int 1]) hP hD hK0 hT hS hF (s.drawn)⟩ rfl rfl hl.1 rfl (lv_room (Nat.le_of_ble_eq_true rfl)) dX12_wholeAt_10 ⟨Nat.le_of_ble_eq_true rfl, Nat.le_of_ble_eq_true rfl⟩) hS (fun q _ h => hF q h) hF (fun σ2 t H locs ht hvm hw hB hz1 hk1 hS d_10 hd0 => ?_)
    have hts := dr_words hts0 (d_10)
    have hK := gKd hK0 (d_10)
    have hown : (s.setDrawn (d_10)).vm.findClass RX12 = some m.cls := hown0
    obtain ⟨hP, hD⟩ := gBack hF ht hB
    obtain ⟨hIσ2, fcσ2, hp_11⟩ := hw
    refine lv_goto (tgt := 33) hx hb dX12_wholeAt_13 (by decide) ?_
    refine lv_aload_n hx hb dX12_wholeAt_33 rfl (lv_at hl 0 rfl) ?_
    have bd_12 := mrd_11_36 (c := 0) hI rfl
    refine va_get (D := (dC, dI)) (ci := 11) (v := .int ((σ 0).1 36)) (C := RX12) (T := TX12) (N := 69) hx hb hts hinX12 hown hK hP 0 (mat_11 rfl) rfl 36 (by decide) (hts (.fieldLink RX12 220 "BondCalendarsModel" "number" "I") (by decide +kernel)) (fun _ h9 => h9) (congrArg (fun z => some (Value.int z)) (show (σ2 0).1 36 = ((σ 0).1 36) from by rw [fcσ2.2 36 (by decide)])) dX12_wholeAt_34 ?_
    refine W.endD hd0 ?_
    exact W.iret (v := ((σ 0).1 36)) hx hb hr (fun t ht hW => ⟨⟨((σ 0).1 36), σ2, rfl, ⟨hIσ2, (mFr.tr (mFr.rfl (L := []) (F := [34, 37]) (σ := σ)) fcσ2 (by decide) (by decide)), ⟨hp_11.1, (fun h9 => absurd h9 (Int32.not_le.mpr (Int32.lt_of_lt_of_le (show (0 : Int32) < 1 by decide) hp_11.2.1))), (fun h9 => absurd h9 (Int32.not_le.mpr (Int32.lt_of_lt_of_le (show (0 : Int32) < 1 by decide) hp_11.2.1))), hp_11.2.2, bd_12.1, bd_12.2⟩⟩, ⟨by rw [ht]; exact hP, hD⟩⟩, hS.F ht⟩) hS.2.2 dX12_wholeAt_37
set_option maxHeartbeats 8000000 in
set_option maxRecDepth 100000 in
theorem n_X12_readWhole (l : Launch) (dC : Nat → ClassId) (dI : Nat → Nat → Nat) (ad : Nat → Nat) (cA : Nat → ClassId) (adK adV : Nat → Nat) (sz : Nat) (σ : gs) (hI : InvM σ) (p0 : Int32) (p1 : Int32) : MetD lw_cs l yX12_readWhole wsX12_readWhole ({ frames := 3, cells := 0, slots := 0, locals := 63 }) (va_Pc [.ref (ad 0), .int p0, .int p1] (gPre adK adV (dC, dI) (wM ad cA σ) (tM cA) sz)) (va_Qi (fun (r : Int32) (τ : gs) => InvM τ ∧ mFr [] [33, 34, 35, 36, 37] σ τ ∧ ((σ 0).1 37 ≤ (τ 0).1 37 ∧ ((τ 0).1 37 ≤ 0 → p0 ≤ r) ∧ ((τ 0).1 37 ≤ 0 → r ≤ p1) ∧ (SP σ τ) ∧ 0 ≤ r ∧ r ≤ 99999999)) (fun τ t => gPost (dC, dI) (va_A (wM ad cA σ) sz) (wM ad cA τ) t) (va_A (wM ad cA σ) sz)) 0 0 (va_A (wM ad cA σ) sz) := by
  refine MetD.ofW (cc := cX12_readWhole) (maxL := 4) (ret := (some .int)) (by decide) rfl ?_
  intro p e s m args below meth c s₁ B hml hv hd0
  obtain ⟨rfl, hsz, hP, hK, hD0, hT⟩ := hv
  have hx := B.exec
  have hb := B.bytes
  have hr := B.returns
  have hts0 := atoms_spec (ws := wsX12_readWhole) B.pre
  have hK0 := hK
  have hown0 : s.vm.findClass RX12 = some m.cls := findClass_of_methodNamed B.named
  have hlocks := B.notSynchronized
  subst hsz
  have hD := hD0.self (sz := s.heap.size)
  generalize hAe : va_A (wM ad cA σ) s.heap.size = A at hD hT ⊢
  have hA : ∀ q : Nat, s.heap.size ≤ q → A q := fun q h => by rw [← hAe]; exact Or.inr h
  have hS : va_S A s.heap s.heap [] := va_S.rf
  have hl := lv_entry ([.ref (ad 0), .int p0, .int p1]) (n := 4) (Nat.le_of_ble_eq_true rfl)
  rw [lg_entry_eq]
  generalize (lg_sl ([.ref (ad 0), .int p0, .int p1]) ++ List.replicate (4 - (lg_sl ([.ref (ad 0), .int p0, .int p1])).length) Slot.unset).toArray = ls at hl ⊢
  have hl : lv_has ls 4 [(0, .ref (ad 0)), (1, .int p0), (2, .int p1)] := hl
  have hts := dr_words hts0 (s.drawn)
  have hK := gKd hK0 (s.drawn)
  have hown : (s.setDrawn (s.drawn)).vm.findClass RX12 = some m.cls := hown0
  refine lv_aload_n hx hb dX12_readWhole_0 rfl (lv_at hl 0 rfl) ?_
  refine lv_iload_n hx hb dX12_readWhole_1 rfl (lv_at hl 1 rfl) ?_
  refine lv_iload_n hx hb dX12_readWhole_2 rfl (lv_at hl 2 rfl) ?_
  have hF := gFree hD hS hA
  refine va_calliD hd0 (va_runV_D (As := [.int p0, .int p1]) (rest := []) ⟨hx, hb, hml, hown, hts⟩ (n_X12_wholeAt l dC dI ad cA adK adV s.heap.size σ hI p0 p1) (cwV 2 hts gX12_readWhole_X12_wholeAt rfl rfl rfl (by decide +kernel) ⟨Nat.le_of_ble_eq_true rfl, Nat.le_of_ble_eq_true rfl⟩) ⟨gBlind, va_recv hK hP (ci := 11) (q0 := 0) rfl (mat_11 rfl), gStart (As := [.ref (ad 0), .int p0, .int p1]) hP hD hK0 hT hS hF (s.drawn)⟩ rfl rfl hl.1 rfl (lv_room (Nat.le_of_ble_eq_true rfl)) dX12_readWhole_3 ⟨Nat.le_of_ble_eq_true rfl, Nat.le_of_ble_eq_true rfl⟩) hS (fun q _ h => hF q h) hF (fun r_1 σ1 t H locs ht hvm hw hB hz1 hk1 hS d_2 hd0 => ?_)
  have hts := dr_words hts0 (d_2)
  have hK := gKd hK0 (d_2)
  have hown : (s.setDrawn (d_2)).vm.findClass RX12 = some m.cls := hown0
  obtain ⟨hP, hD⟩ := gBack hF ht hB
  obtain ⟨hIσ1, fcσ1, hp_3⟩ := hw
  refine lv_istore_n (lv' := [(3, .int r_1), (0, .ref (ad 0)), (1, .int p0), (2, .int p1)]) hx hb dX12_readWhole_6 rfl hl (by decide) rfl (fun ls hl => ?_)
  refine lv_aload_n hx hb dX12_readWhole_7 rfl (lv_at hl 1 rfl) ?_
  have hF := gFree hD hS hA
  refine va_callvD hd0 (va_runV_D (As := []) (rest := []) ⟨hx, hb, hml, hown, hts⟩ (n_X12_next l dC dI ad cA adK adV H.size σ1 hIσ1 ) (cwV 0 hts gX12_readWhole_X12_next rfl rfl rfl (by decide +kernel) ⟨Nat.le_of_ble_eq_true rfl, Nat.le_of_ble_eq_true rfl⟩) ⟨gBlind, va_recv hK hP (ci := 11) (q0 := 0) rfl (mat_11 rfl), gStart (As := [.ref (ad 0)]) hP hD hK0 hT hS hF (d_2)⟩ rfl rfl hl.1 rfl (lv_room (Nat.le_of_ble_eq_true rfl)) dX12_readWhole_8 ⟨Nat.le_of_ble_eq_true rfl, Nat.le_of_ble_eq_true rfl⟩) hS (fun q _ h => hF q h) hF (fun σ2 t H locs ht hvm hw hB hz1 hk1 hS d_5 hd0 => ?_)
  have hts := dr_words hts0 (d_5)
  have hK := gKd hK0 (d_5)
  have hown : (s.setDrawn (d_5)).vm.findClass RX12 = some m.cls := hown0
  obtain ⟨hP, hD⟩ := gBack hF ht hB
  obtain ⟨hIσ2, fcσ2, hp_6⟩ := hw
  refine lv_iload_n hx hb dX12_readWhole_11 rfl (lv_at hl 0 rfl) ?_
  refine W.endD hd0 ?_
  exact W.iret (v := r_1) hx hb hr (fun t ht hW => ⟨⟨r_1, σ2, rfl, ⟨hIσ2, (mFr.tr (mFr.tr (mFr.rfl (L := []) (F := [33, 34, 35, 36, 37]) (σ := σ)) fcσ1 (by decide) (by decide)) fcσ2 (by decide) (by decide)), ⟨(le_ch (Eq.refl _) (show ((σ2 0).1 37 : Int32) = ((σ1 0).1 37 : Int32) from by rw [fcσ2.2 37 (by decide)]) hp_3.1), (fun h9 => (fun (h8 : ((σ1 0).1 37 : Int32) ≤ (0 : Int32)) => ((hp_3.2.1) h8)) (le_ch (show ((σ2 0).1 37 : Int32) = ((σ1 0).1 37 : Int32) from by rw [fcσ2.2 37 (by decide)]).symm (Eq.refl _).symm h9)), (fun h9 => (fun (h8 : ((σ1 0).1 37 : Int32) ≤ (0 : Int32)) => ((hp_3.2.2.1) h8)) (le_ch (show ((σ2 0).1 37 : Int32) = ((σ1 0).1 37 : Int32) from by rw [fcσ2.2 37 (by decide)]).symm (Eq.refl _).symm h9)), (SP.tr hp_3.2.2.2.1 hp_6.1), hp_3.2.2.2.2.1, hp_3.2.2.2.2.2⟩⟩, ⟨by rw [ht]; exact hP, hD⟩⟩, hS.F ht⟩) hS.2.2 dX12_readWhole_12
set_option maxHeartbeats 8000000 in
set_option maxRecDepth 100000 in
theorem n_X12_dateAt (l : Launch) (dC : Nat → ClassId) (dI : Nat → Nat → Nat) (ad : Nat → Nat) (cA : Nat → ClassId) (adK adV : Nat → Nat) (sz : Nat) (σ : gs) (hI : InvM σ)  : MetD lw_cs l yX12_dateAt wsX12_dateAt ({ frames := 2, cells := 0, slots := 0, locals := 44 }) (va_Pc [.ref (ad 0)] (gPre adK adV (dC, dI) (wM ad cA σ) (tM cA) sz)) (va_Qi (fun (r : Int32) (τ : gs) => InvM τ ∧ mFr [] [34, 37] σ τ ∧ ((σ 0).1 37 ≤ (τ 0).1 37 ∧ ((τ 0).1 37 ≤ 0 → 1 ≤ f_X12_isDate r) ∧ (SP σ τ) ∧ 0 ≤ r ∧ r ≤ 99999999)) (fun τ t => gPost (dC, dI) (va_A (wM ad cA σ) sz) (wM ad cA τ) t) (va_A (wM ad cA σ) sz)) 0 0 (va_A (wM ad cA σ) sz) := by
  refine MetD.ofW (cc := cX12_dateAt) (maxL := 1) (ret := (some .int)) (by decide) rfl ?_
  intro p e s m args below meth c s₁ B hml hv hd0
  obtain ⟨rfl, hsz, hP, hK, hD0, hT⟩ := hv
  have hx := B.exec
  have hb := B.bytes
  have hr := B.returns
  have hts0 := atoms_spec (ws := wsX12_dateAt) B.pre
  have hK0 := hK
  have hown0 : s.vm.findClass RX12 = some m.cls := findClass_of_methodNamed B.named
  have hlocks := B.notSynchronized
  have hinX12 : ∀ w ∈ u_ws RX12 TX12 69, w ∈ wsX12_dateAt := (fun _ h9 => List.mem_cons_of_mem _ (List.mem_append_right _ h9))
  subst hsz
  have hD := hD0.self (sz := s.heap.size)
  generalize hAe : va_A (wM ad cA σ) s.heap.size = A at hD hT ⊢
  have hA : ∀ q : Nat, s.heap.size ≤ q → A q := fun q h => by rw [← hAe]; exact Or.inr h
  have hS : va_S A s.heap s.heap [] := va_S.rf
  have hl := lv_entry ([.ref (ad 0)]) (n := 1) (Nat.le_of_ble_eq_true rfl)
  rw [lg_entry_eq]
  generalize (lg_sl ([.ref (ad 0)]) ++ List.replicate (1 - (lg_sl ([.ref (ad 0)])).length) Slot.unset).toArray = ls at hl ⊢
  have hl : lv_has ls 1 [(0, .ref (ad 0))] := hl
  have hts := dr_words hts0 (s.drawn)
  have hK := gKd hK0 (s.drawn)
  have hown : (s.setDrawn (s.drawn)).vm.findClass RX12 = some m.cls := hown0
  refine lv_aload_n hx hb dX12_dateAt_0 rfl (lv_at hl 0 rfl) ?_
  refine va_get (D := (dC, dI)) (ci := 11) (v := .int ((σ 0).1 34)) (C := RX12) (T := TX12) (N := 69) hx hb hts hinX12 hown hK hP 0 (mat_11 rfl) rfl 34 (by decide) (hts (.fieldLink RX12 204 "BondCalendarsModel" "kind" "I") (by decide +kernel)) (fun _ h9 => h9) rfl dX12_dateAt_1 ?_
  refine lv_iconst (v := 3) hx hb dX12_dateAt_4 (by decide) ?_
  refine lv_icmp_eq (tgt := 16) hx hb dX12_dateAt_5 (by decide) (fun c_1 => ?_) (fun c_1 => ?_)
  · refine lv_aload_n hx hb dX12_dateAt_16 rfl (lv_at hl 0 rfl) ?_
    have bd_2 := mrd_11_36 (c := 0) hI rfl
    refine va_get (D := (dC, dI)) (ci := 11) (v := .int ((σ 0).1 36)) (C := RX12) (T := TX12) (N := 69) hx hb hts hinX12 hown hK hP 0 (mat_11 rfl) rfl 36 (by decide) (hts (.fieldLink RX12 220 "BondCalendarsModel" "number" "I") (by decide +kernel)) (fun _ h9 => h9) rfl dX12_dateAt_17 ?_
    have hF := gFree (w := []) (hx_D0 (A := A)) hS hA
    have hKe := hK.sub (tys' := []) [] rfl
    refine va_calli (va_runS (As := [.int ((σ 0).1 36)]) (rest := []) ⟨hx, hb, hml, hown, hts⟩ (k_X12_isDate l dC dI s.heap.size ((σ 0).1 36) ) (va_cwS 1 hts gX12_dateAt_X12_isDate rfl rfl rfl (by decide +kernel) ⟨Nat.le_of_ble_eq_true rfl, Nat.le_of_ble_eq_true rfl⟩) ⟨fun a U g mk q => by obtain ⟨q0, q1, qP, qK, qD⟩ := q; exact ⟨q0, q1, qP, va_K.moved (u := U) (U := U.calling g mk a) (Vm.Alike.refl U.vm) qK, qD⟩, fun U hU hW => ⟨rfl, by rw [hU], hx_P0, va_K.moved hW.alike hKe, hx_D0⟩⟩ rfl rfl hl.1 rfl (lv_room (Nat.le_of_ble_eq_true rfl)) dX12_dateAt_20 ⟨Nat.le_of_ble_eq_true rfl, Nat.le_of_ble_eq_true rfl⟩) hS (fun q _ h => hF q h) hF (fun r_3 u t H locs ht hvm hw hB hz1 hk1 hS => ?_)
    have hP := gKeep hP hk1
    have pu_4 : r_3 = f_X12_isDate ((σ 0).1 36) := hw
    have b0_5 : r_3 = 0 ∨ r_3 = 1 := by rw [pu_4]; exact isDate01 _
    refine lv_if_ne (tgt := 31) hx hb dX12_dateAt_23 (by decide) (fun c_6 => ?_) (fun c_6 => ?_)
    · refine lv_aload_n hx hb dX12_dateAt_31 rfl (lv_at hl 0 rfl) ?_
      refine va_get (D := (dC, dI)) (ci := 11) (v := .int ((σ 0).1 36)) (C := RX12) (T := TX12) (N := 69) hx hb hts hinX12 hown hK hP 0 (mat_11 rfl) rfl 36 (by decide) (hts (.fieldLink RX12 220 "BondCalendarsModel" "number" "I") (by decide +kernel)) (fun _ h9 => h9) rfl dX12_dateAt_32 ?_
      refine W.endD hd0 ?_
      exact W.iret (v := ((σ 0).1 36)) hx hb hr (fun t ht hW => ⟨⟨((σ 0).1 36), σ, rfl, ⟨hI, (mFr.rfl (L := []) (F := [34, 37]) (σ := σ)), ⟨(Int32.le_refl ((σ 0).1 37)), (fun _ => (one_le pu_4 b0_5 c_6)), (SP.same rfl rfl rfl), bd_2.1, bd_2.2⟩⟩, ⟨by rw [ht]; exact hP, hD⟩⟩, hS.F ht⟩) hS.2.2 dX12_dateAt_35
    · refine lv_aload_n hx hb dX12_dateAt_26 rfl (lv_at hl 0 rfl) ?_
      refine lv_iconst (v := 2) hx hb dX12_dateAt_27 (by decide) ?_
      have hF := gFree hD hS hA
      refine va_callvD hd0 (va_runV_D (As := [.int 2]) (rest := []) ⟨hx, hb, hml, hown, hts⟩ (n_X12_wrong l dC dI ad cA adK adV H.size σ hI 2 (show (0 : Int32) < 2 by decide)) (cwV 1 hts gX12_dateAt_X12_wrong rfl rfl rfl (by decide +kernel) ⟨Nat.le_of_ble_eq_true rfl, Nat.le_of_ble_eq_true rfl⟩) ⟨gBlind, va_recv hK hP (ci := 11) (q0 := 0) rfl (mat_11 rfl), gStart (As := [.ref (ad 0), .int 2]) hP hD hK0 hT hS hF (s.drawn)⟩ rfl rfl hl.1 rfl (lv_room (Nat.le_of_ble_eq_true rfl)) dX12_dateAt_28 ⟨Nat.le_of_ble_eq_true rfl, Nat.le_of_ble_eq_true rfl⟩) hS (fun q _ h => hF q h) hF (fun σ1 t H locs ht hvm hw hB hz1 hk1 hS d_8 hd0 => ?_)
      have hts := dr_words hts0 (d_8)
      have hK := gKd hK0 (d_8)
      have hown : (s.setDrawn (d_8)).vm.findClass RX12 = some m.cls := hown0
      obtain ⟨hP, hD⟩ := gBack hF ht hB
      obtain ⟨hIσ1, fcσ1, hp_9⟩ := hw
      refine lv_aload_n hx hb dX12_dateAt_31 rfl (lv_at hl 0 rfl) ?_
      refine va_get (D := (dC, dI)) (ci := 11) (v := .int ((σ 0).1 36)) (C := RX12) (T := TX12) (N := 69) hx hb hts hinX12 hown hK hP 0 (mat_11 rfl) rfl 36 (by decide) (hts (.fieldLink RX12 220 "BondCalendarsModel" "number" "I") (by decide +kernel)) (fun _ h9 => h9) (congrArg (fun z => some (Value.int z)) (show (σ1 0).1 36 = ((σ 0).1 36) from by rw [fcσ1.2 36 (by decide)])) dX12_dateAt_32 ?_
      refine W.endD hd0 ?_
      exact W.iret (v := ((σ 0).1 36)) hx hb hr (fun t ht hW => ⟨⟨((σ 0).1 36), σ1, rfl, ⟨hIσ1, (mFr.tr (mFr.rfl (L := []) (F := [34, 37]) (σ := σ)) fcσ1 (by decide) (by decide)), ⟨hp_9.1, (fun h9 => absurd h9 (Int32.not_le.mpr (Int32.lt_of_lt_of_le (show (0 : Int32) < 1 by decide) hp_9.2.1))), hp_9.2.2, bd_2.1, bd_2.2⟩⟩, ⟨by rw [ht]; exact hP, hD⟩⟩, hS.F ht⟩) hS.2.2 dX12_dateAt_35
  · refine lv_aload_n hx hb dX12_dateAt_8 rfl (lv_at hl 0 rfl) ?_
    refine lv_iconst (v := 1) hx hb dX12_dateAt_9 (by decide) ?_
    have hF := gFree hD hS hA
    refine va_callvD hd0 (va_runV_D (As := [.int 1]) (rest := []) ⟨hx, hb, hml, hown, hts⟩ (n_X12_wrong l dC dI ad cA adK adV s.heap.size σ hI 1 (show (0 : Int32) < 1 by decide)) (cwV 1 hts gX12_dateAt_X12_wrong rfl rfl rfl (by decide +kernel) ⟨Nat.le_of_ble_eq_true rfl, Nat.le_of_ble_eq_true rfl⟩) ⟨gBlind, va_recv hK hP (ci := 11) (q0 := 0) rfl (mat_11 rfl), gStart (As := [.ref (ad 0), .int 1]) hP hD hK0 hT hS hF (s.drawn)⟩ rfl rfl hl.1 rfl (lv_room (Nat.le_of_ble_eq_true rfl)) dX12_dateAt_10 ⟨Nat.le_of_ble_eq_true rfl, Nat.le_of_ble_eq_true rfl⟩) hS (fun q _ h => hF q h) hF (fun σ2 t H locs ht hvm hw hB hz1 hk1 hS d_11 hd0 => ?_)
    have hts := dr_words hts0 (d_11)
    have hK := gKd hK0 (d_11)
    have hown : (s.setDrawn (d_11)).vm.findClass RX12 = some m.cls := hown0
    obtain ⟨hP, hD⟩ := gBack hF ht hB
    obtain ⟨hIσ2, fcσ2, hp_12⟩ := hw
    refine lv_goto (tgt := 31) hx hb dX12_dateAt_13 (by decide) ?_
    refine lv_aload_n hx hb dX12_dateAt_31 rfl (lv_at hl 0 rfl) ?_
    have bd_13 := mrd_11_36 (c := 0) hI rfl
    refine va_get (D := (dC, dI)) (ci := 11) (v := .int ((σ 0).1 36)) (C := RX12) (T := TX12) (N := 69) hx hb hts hinX12 hown hK hP 0 (mat_11 rfl) rfl 36 (by decide) (hts (.fieldLink RX12 220 "BondCalendarsModel" "number" "I") (by decide +kernel)) (fun _ h9 => h9) (congrArg (fun z => some (Value.int z)) (show (σ2 0).1 36 = ((σ 0).1 36) from by rw [fcσ2.2 36 (by decide)])) dX12_dateAt_32 ?_
    refine W.endD hd0 ?_
    exact W.iret (v := ((σ 0).1 36)) hx hb hr (fun t ht hW => ⟨⟨((σ 0).1 36), σ2, rfl, ⟨hIσ2, (mFr.tr (mFr.rfl (L := []) (F := [34, 37]) (σ := σ)) fcσ2 (by decide) (by decide)), ⟨hp_12.1, (fun h9 => absurd h9 (Int32.not_le.mpr (Int32.lt_of_lt_of_le (show (0 : Int32) < 1 by decide) hp_12.2.1))), hp_12.2.2, bd_13.1, bd_13.2⟩⟩, ⟨by rw [ht]; exact hP, hD⟩⟩, hS.F ht⟩) hS.2.2 dX12_dateAt_35
