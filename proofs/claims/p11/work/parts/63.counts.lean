set_option maxHeartbeats 8000000 in
set_option maxRecDepth 100000 in
theorem n_X12_counts (l : Launch) (dC : Nat → ClassId) (dI : Nat → Nat → Nat) (ad : Nat → Nat) (cA : Nat → ClassId) (adK adV : Nat → Nat) (sz : Nat) (σ : gs) (hI : InvM σ) (p0 : Int32) (p1 : Int32) (p2 : Int32) (hh0 : 0 ≤ p0) (hh1 : p0 < 4) (hh2 : GridOK σ p0.toNatClampNeg) : MetD lw_cs l yX12_counts wsX12_counts ({ frames := 3, cells := 0, slots := 0, locals := 81 }) (va_Pc [.ref (ad 0), .int p0, .int p1, .int p2] (gPre adK adV (dC, dI) (wM ad cA σ) (tM cA) sz)) (va_Qv (fun (τ : gs) => InvM τ ∧ mFr [] [] σ τ ∧ ((((τ 0).2.1 4).toInt.natAbs ∣ LL0))) (fun τ t => gPost (dC, dI) (va_A (wM ad cA σ) sz) (wM ad cA τ) t) (va_A (wM ad cA σ) sz)) 0 0 (va_A (wM ad cA σ) sz) := by
  refine MetD.ofW (cc := cX12_counts) (maxL := 10) (ret := none) (by decide) rfl ?_
  intro p e s m args below meth c s₁ B hml hv hd0
  obtain ⟨rfl, hsz, hP, hK, hD0, hT⟩ := hv
  have hx := B.exec
  have hb := B.bytes
  have hr := B.returns
  have hts0 := atoms_spec (ws := wsX12_counts) B.pre
  have hK0 := hK
  have hown0 : s.vm.findClass RX12 = some m.cls := findClass_of_methodNamed B.named
  have hlocks := B.notSynchronized
  have hinX12 : ∀ w ∈ u_ws RX12 TX12 69, w ∈ wsX12_counts := (fun _ h9 => List.mem_cons_of_mem _ (List.mem_append_right _ h9))
  subst hsz
  have hD := hD0.self (sz := s.heap.size)
  generalize hAe : va_A (wM ad cA σ) s.heap.size = A at hD hT ⊢
  have hA : ∀ q : Nat, s.heap.size ≤ q → A q := fun q h => by rw [← hAe]; exact Or.inr h
  have hS : va_S A s.heap s.heap [] := va_S.rf
  have hl := lv_entry ([.ref (ad 0), .int p0, .int p1, .int p2]) (n := 10) (Nat.le_of_ble_eq_true rfl)
  rw [lg_entry_eq]
  generalize (lg_sl ([.ref (ad 0), .int p0, .int p1, .int p2]) ++ List.replicate (10 - (lg_sl ([.ref (ad 0), .int p0, .int p1, .int p2])).length) Slot.unset).toArray = ls at hl ⊢
  have hl : lv_has ls 10 [(0, .ref (ad 0)), (1, .int p0), (2, .int p1), (3, .int p2)] := hl
  have hts := dr_words hts0 (s.drawn)
  have hK := gKd hK0 (s.drawn)
  have hown : (s.setDrawn (s.drawn)).vm.findClass RX12 = some m.cls := hown0
  refine lv_aload_n hx hb dX12_counts_0 rfl (lv_at hl 0 rfl) ?_
  refine va_get (D := (dC, dI)) (ci := 11) (v := .ref (ad 3)) (C := RX12) (T := TX12) (N := 69) hx hb hts hinX12 hown hK hP 0 (mat_11 rfl) rfl 7 (by decide) (hts (.fieldLink RX12 20 "BondCalendarsModel" "rule" "[I") (by decide +kernel)) (fun _ h9 => h9) rfl dX12_counts_1 ?_
  refine lv_iload_n hx hb dX12_counts_4 rfl (lv_at hl 1 rfl) ?_
  refine va_iald hx hb hK hP 3 3 (mat_43 rfl) (mty_43 rfl) (gin (N := 8) (by decide) hh0 (Int32.lt_trans hh1 (show (4 : Int32) < 8 by decide))) dX12_counts_5 ?_
  refine lv_topi (fun x_1 ex_1 => ?_)
  refine lv_iconst (v := 4) hx hb dX12_counts_6 (by decide) ?_
  refine lv_icmp_eq (tgt := 23) hx hb dX12_counts_7 (by decide) (fun c_2 => ?_) (fun c_2 => ?_)
  · refine lv_iload_n hx hb dX12_counts_23 rfl (lv_at hl 2 rfl) ?_
    have hF := gFree (w := []) (hx_D0 (A := A)) hS hA
    have hKe := hK.sub (tys' := []) [] rfl
    refine va_calli (va_runS (As := [.int p1]) (rest := []) ⟨hx, hb, hml, hown, hts⟩ (k_X12_dayOf l dC dI s.heap.size p1 ) (va_cwS 1 hts gX12_counts_X12_dayOf rfl rfl rfl (by decide +kernel) ⟨Nat.le_of_ble_eq_true rfl, Nat.le_of_ble_eq_true rfl⟩) ⟨fun a U g mk q => by obtain ⟨q0, q1, qP, qK, qD⟩ := q; exact ⟨q0, q1, qP, va_K.moved (u := U) (U := U.calling g mk a) (Vm.Alike.refl U.vm) qK, qD⟩, fun U hU hW => ⟨rfl, by rw [hU], hx_P0, va_K.moved hW.alike hKe, hx_D0⟩⟩ rfl rfl hl.1 rfl (lv_room (Nat.le_of_ble_eq_true rfl)) dX12_counts_24 ⟨Nat.le_of_ble_eq_true rfl, Nat.le_of_ble_eq_true rfl⟩) hS (fun q _ h => hF q h) hF (fun r_3 u t H locs ht hvm hw hB hz1 hk1 hS => ?_)
    have hP := gKeep hP hk1
    have pu_4 : r_3 = f_X12_dayOf p1 := hw
    refine lv_istore (lv' := [(4, .int r_3), (0, .ref (ad 0)), (1, .int p0), (2, .int p1), (3, .int p2)]) hx hb dX12_counts_27 hl (by decide) rfl (fun ls hl => ?_)
    refine lv_iload_n hx hb dX12_counts_29 rfl (lv_at hl 4 rfl) ?_
    have hF := gFree (w := []) (hx_D0 (A := A)) hS hA
    have hKe := hK.sub (tys' := []) [] rfl
    refine va_calli (va_runS (As := [.int p2]) (rest := []) ⟨hx, hb, hml, hown, hts⟩ (k_X12_dayOf l dC dI H.size p2 ) (va_cwS 1 hts gX12_counts_X12_dayOf rfl rfl rfl (by decide +kernel) ⟨Nat.le_of_ble_eq_true rfl, Nat.le_of_ble_eq_true rfl⟩) ⟨fun a U g mk q => by obtain ⟨q0, q1, qP, qK, qD⟩ := q; exact ⟨q0, q1, qP, va_K.moved (u := U) (U := U.calling g mk a) (Vm.Alike.refl U.vm) qK, qD⟩, fun U hU hW => ⟨rfl, by rw [hU], hx_P0, va_K.moved hW.alike hKe, hx_D0⟩⟩ rfl rfl hl.1 rfl (lv_room (Nat.le_of_ble_eq_true rfl)) dX12_counts_30 ⟨Nat.le_of_ble_eq_true rfl, Nat.le_of_ble_eq_true rfl⟩) hS (fun q _ h => hF q h) hF (fun r_5 u t H locs ht hvm hw hB hz1 hk1 hS => ?_)
    have hP := gKeep hP hk1
    have pu_6 : r_5 = f_X12_dayOf p2 := hw
    refine lv_istore (lv' := [(5, .int r_5), (4, .int r_3), (0, .ref (ad 0)), (1, .int p0), (2, .int p1), (3, .int p2)]) hx hb dX12_counts_33 hl (by decide) rfl (fun ls hl => ?_)
    refine lv_aload_n hx hb dX12_counts_35 rfl (lv_at hl 2 rfl) ?_
    refine lv_lconst (v := 0) hx hb dX12_counts_36 (by decide) ?_
    refine lv_lconst (v := 1) hx hb dX12_counts_37 (by decide) ?_
    have hF := gFree hD hS hA
    refine va_callvD hd0 (va_runV_D (As := [.long 0, .long 1]) (rest := []) ⟨hx, hb, hml, hown, hts⟩ (n_X12_sets l dC dI ad cA adK adV H.size σ hI 0 1 (show dL 1 by unfold dL; decide)) (cwV 2 hts gX12_counts_X12_sets rfl rfl rfl (by decide +kernel) ⟨Nat.le_of_ble_eq_true rfl, Nat.le_of_ble_eq_true rfl⟩) ⟨gBlind, va_recv hK hP (ci := 11) (q0 := 0) rfl (mat_11 rfl), gStart (As := [.ref (ad 0), .long 0, .long 1]) hP hD hK0 hT hS hF (s.drawn)⟩ rfl rfl hl.1 rfl (lv_room (Nat.le_of_ble_eq_true rfl)) dX12_counts_38 ⟨Nat.le_of_ble_eq_true rfl, Nat.le_of_ble_eq_true rfl⟩) hS (fun q _ h => hF q h) hF (fun σ1 t H locs ht hvm hw hB hz1 hk1 hS d_8 hd0 => ?_)
    have hts := dr_words hts0 (d_8)
    have hK := gKd hK0 (d_8)
    have hown : (s.setDrawn (d_8)).vm.findClass RX12 = some m.cls := hown0
    obtain ⟨hP, hD⟩ := gBack hF ht hB
    obtain ⟨hIσ1, fcσ1, hp_9⟩ := hw
    refine lv_bipush (v := (-91)) hx hb dX12_counts_41 (by decide) ?_
    refine lv_istore (lv' := [(6, .int (-91)), (5, .int r_5), (4, .int r_3), (0, .ref (ad 0)), (1, .int p0), (2, .int p1), (3, .int p2)]) hx hb dX12_counts_43 hl (by decide) rfl (fun ls hl => ?_)
    refine (fun (h : ∀ (n : Nat) (i6 : Int32) (σ45x : gs) (d45 : Drawn) (H : Heap) (locs : List Loc) (ls : Array Slot), ((4 : Int32).toInt - i6.toInt).toNat < n → (-91) ≤ i6 → i6 ≤ 4 → ((σ45x 0).2.1 4).toInt.natAbs ∣ LL0 → InvM σ45x → mFr [] [] σ σ45x → s.drawn.sameBut d45 lw_cs → va_P (dC, dI) vwCl (wM ad cA σ45x) H → va_D A (wM ad cA σ45x) → va_S A s.heap H locs → lv_has ls 10 [(6, .int i6), (5, .int r_5), (4, .int r_3), (0, .ref (ad 0)), (1, .int p0), (2, .int p1), (3, .int p2)] → W p l e _ (s.setDrawn d45) m _ below meth c H locs _ _ _ (F0 m 45 ls [])) => h _ (-91) σ1 _ _ _ _ (Nat.lt_succ_self _) (by decide) (by decide) (dv_1 hp_9) hIσ1 (mFr.tr (mFr.rfl (L := []) (F := []) (σ := σ)) fcσ1 (by decide) (by decide)) hd0 hP hD hS (lv_sub hl [0, 1, 2, 3, 4, 5, 6] rfl)) ?_
    intro n45
    induction n45 with
    | zero => intro i6 σ45x d45 H locs ls hm; exact absurd hm (Nat.not_lt_zero _)
    | succ n45 ih45 =>
      intro i6 σ45x d45 H locs ls hm45 iv45_0 iv45_1 iv45_2 hIσ45x frσ45x hd0 hP hD hS hl
      have hts := dr_words hts0 (d45)
      have hK := gKd hK0 (d45)
      have hown : (s.setDrawn (d45)).vm.findClass RX12 = some m.cls := hown0
      refine lv_iload hx hb dX12_counts_45 (lv_at hl 0 rfl) ?_
      refine lv_iconst (v := 4) hx hb dX12_counts_47 (by decide) ?_
      refine lv_icmp_ge (tgt := 134) hx hb dX12_counts_48 (by decide) (fun c_10 => ?_) (fun c_10 => ?_)
      · refine W.endD hd0 ?_
        exact W.vret hx hb hr (fun t ht hW => ⟨⟨σ45x, rfl, ⟨hIσ45x, frσ45x, iv45_2⟩, ⟨by rw [ht]; exact hP, hD⟩⟩, hS.F ht⟩) hS.2.2 dX12_counts_134
      · refine lv_aload_n hx hb dX12_counts_51 rfl (lv_at hl 3 rfl) ?_
        refine lv_iload_n hx hb dX12_counts_52 rfl (lv_at hl 4 rfl) ?_
        refine lv_iload hx hb dX12_counts_53 (lv_at hl 0 rfl) ?_
        have hF := gFree hD hS hA
        refine va_calliD hd0 (va_runV_D (As := [.int p0, .int i6]) (rest := []) ⟨hx, hb, hml, hown, hts⟩ (n_X12_gridDay l dC dI ad cA adK adV H.size σ45x hIσ45x p0 i6 hh0 hh1 iv45_0 iv45_1) (cwV 2 hts gX12_counts_X12_gridDay rfl rfl rfl (by decide +kernel) ⟨Nat.le_of_ble_eq_true rfl, Nat.le_of_ble_eq_true rfl⟩) ⟨gBlind, va_recv hK hP (ci := 11) (q0 := 0) rfl (mat_11 rfl), gStart (As := [.ref (ad 0), .int p0, .int i6]) hP hD hK0 hT hS hF (d45)⟩ rfl rfl hl.1 rfl (lv_room (Nat.le_of_ble_eq_true rfl)) dX12_counts_55 ⟨Nat.le_of_ble_eq_true rfl, Nat.le_of_ble_eq_true rfl⟩) hS (fun q _ h => hF q h) hF (fun r_11 σ2 t H locs ht hvm hw hB hz1 hk1 hS d_12 hd0 => ?_)
        have hts := dr_words hts0 (d_12)
        have hK := gKd hK0 (d_12)
        have hown : (s.setDrawn (d_12)).vm.findClass RX12 = some m.cls := hown0
        obtain ⟨hP, hD⟩ := gBack hF ht hB
        obtain ⟨hIσ2, hro, hp_13⟩ := hw
        subst hro
        have gy_14 : ∀ j : Nat, (j : Int) = i6.toInt + 91 → r_11 = (σ 9).1 (96 * p0.toNatClampNeg + j) := fun j hj => by have h7 := hp_13 j hj; rw [frσ45x.1 9 (by decide) (by decide)] at h7; exact h7
        refine lv_istore (lv' := [(7, .int r_11), (6, .int i6), (5, .int r_5), (4, .int r_3), (0, .ref (ad 0)), (1, .int p0), (2, .int p1), (3, .int p2)]) hx hb dX12_counts_58 hl (by decide) rfl (fun ls hl => ?_)
        refine lv_aload_n hx hb dX12_counts_60 rfl (lv_at hl 4 rfl) ?_
        refine lv_iload_n hx hb dX12_counts_61 rfl (lv_at hl 5 rfl) ?_
        refine lv_iload hx hb dX12_counts_62 (lv_at hl 1 rfl) ?_
        refine lv_iconst (v := 1) hx hb dX12_counts_64 (by decide) ?_
        refine lv_iadd hx hb dX12_counts_65 ?_
        refine lv_topi (fun x_15 ex_15 => ?_)
        have hF := gFree hD hS hA
        refine va_calliD hd0 (va_runV_D (As := [.int p0, .int x_15]) (rest := []) ⟨hx, hb, hml, hown, hts⟩ (n_X12_gridDay l dC dI ad cA adK adV H.size σ45x hIσ45x p0 x_15 hh0 hh1 (nd_lo (Int32.not_le.mp c_10) iv45_0 ex_15) (nd_hi (Int32.not_le.mp c_10) ex_15)) (cwV 2 hts gX12_counts_X12_gridDay rfl rfl rfl (by decide +kernel) ⟨Nat.le_of_ble_eq_true rfl, Nat.le_of_ble_eq_true rfl⟩) ⟨gBlind, va_recv hK hP (ci := 11) (q0 := 0) rfl (mat_11 rfl), gStart (As := [.ref (ad 0), .int p0, .int x_15]) hP hD hK0 hT hS hF (d_12)⟩ rfl rfl hl.1 rfl (lv_room (Nat.le_of_ble_eq_true rfl)) dX12_counts_66 ⟨Nat.le_of_ble_eq_true rfl, Nat.le_of_ble_eq_true rfl⟩) hS (fun q _ h => hF q h) hF (fun r_16 σ3 t H locs ht hvm hw hB hz1 hk1 hS d_17 hd0 => ?_)
        have hts := dr_words hts0 (d_17)
        have hK := gKd hK0 (d_17)
        have hown : (s.setDrawn (d_17)).vm.findClass RX12 = some m.cls := hown0
        obtain ⟨hP, hD⟩ := gBack hF ht hB
        obtain ⟨hIσ3, hro, hp_18⟩ := hw
        subst hro
        have gy_19 : ∀ j : Nat, (j : Int) = x_15.toInt + 91 → r_16 = (σ 9).1 (96 * p0.toNatClampNeg + j) := fun j hj => by have h7 := hp_18 j hj; rw [frσ45x.1 9 (by decide) (by decide)] at h7; exact h7
        refine lv_istore (lv' := [(8, .int r_16), (7, .int r_11), (6, .int i6), (5, .int r_5), (4, .int r_3), (0, .ref (ad 0)), (1, .int p0), (2, .int p1), (3, .int p2)]) hx hb dX12_counts_69 hl (by decide) rfl (fun ls hl => ?_)
        refine lv_iload hx hb dX12_counts_71 (lv_at hl 3 rfl) ?_
        refine lv_iload hx hb dX12_counts_73 (lv_at hl 0 rfl) ?_
        refine lv_icmp_ge (tgt := 83) hx hb dX12_counts_75 (by decide) (fun c_20 => ?_) (fun c_20 => ?_)
        · refine lv_iload hx hb dX12_counts_83 (lv_at hl 0 rfl) ?_
          refine lv_iload hx hb dX12_counts_85 (lv_at hl 4 rfl) ?_
          refine lv_iload hx hb dX12_counts_87 (lv_at hl 1 rfl) ?_
          refine lv_icmp_le (tgt := 97) hx hb dX12_counts_89 (by decide) (fun c_21 => ?_) (fun c_21 => ?_)
          · refine lv_iload hx hb dX12_counts_97 (lv_at hl 1 rfl) ?_
            refine lv_isub hx hb dX12_counts_99 ?_
            refine lv_topi (fun x_22 ex_22 => ?_)
            refine lv_istore (lv' := [(9, .int x_22), (8, .int r_16), (7, .int r_11), (6, .int i6), (5, .int r_5), (4, .int r_3), (0, .ref (ad 0)), (1, .int p0), (2, .int p1), (3, .int p2)]) hx hb dX12_counts_100 hl (by decide) rfl (fun ls hl => ?_)
            refine lv_iload hx hb dX12_counts_102 (lv_at hl 0 rfl) ?_
            refine lv_if_le (tgt := 128) hx hb dX12_counts_104 (by decide) (fun c_23 => ?_) (fun c_23 => ?_)
            · obtain ⟨x_24, ex_24⟩ : ∃ zz : Int32, zz = i6 + 1 := ⟨_, rfl⟩
              refine lv_iinc (v := x_24) (lv' := [(6, .int x_24), (9, .int x_22), (8, .int r_16), (7, .int r_11), (5, .int r_5), (4, .int r_3), (0, .ref (ad 0)), (1, .int p0), (2, .int p1), (3, .int p2)]) hx hb dX12_counts_128 hl (k := 3) rfl (by rw [ex_24]; rfl) (by decide) rfl (fun ls hl => ?_)
              refine lv_goto (tgt := 45) hx hb dX12_counts_131 (by decide) ?_
              exact ih45 x_24 σ45x _ _ _ _ (nd_m (Int32.not_le.mp c_10) hm45 ex_24) (nd_lo (a := (-91)) (Int32.not_le.mp c_10) iv45_0 ex_24) (nd_hi (Int32.not_le.mp c_10) ex_24) iv45_2 hIσ45x frσ45x hd0 hP hD hS (lv_sub hl [0, 4, 5, 6, 7, 8, 9] rfl)
            · refine lv_aload_n hx hb dX12_counts_107 rfl (lv_at hl 6 rfl) ?_
              refine lv_iload hx hb dX12_counts_108 (lv_at hl 0 rfl) ?_
              refine lv_i2l hx hb dX12_counts_110 rfl ?_
              refine lv_aload_n hx hb dX12_counts_111 rfl (lv_at hl 6 rfl) ?_
              refine va_get (D := (dC, dI)) (ci := 11) (v := .ref (ad 2)) (C := RX12) (T := TX12) (N := 69) hx hb hts hinX12 hown hK hP 0 (mat_11 rfl) rfl 6 (by decide) (hts (.fieldLink RX12 17 "BondCalendarsModel" "often" "[I") (by decide +kernel)) (fun _ h9 => h9) rfl dX12_counts_112 ?_
              refine lv_iload_n hx hb dX12_counts_115 rfl (lv_at hl 7 rfl) ?_
              refine va_iald hx hb hK hP 2 2 (mat_42 rfl) (mty_42 rfl) (gin (N := 8) (by decide) hh0 (Int32.lt_trans hh1 (show (4 : Int32) < 8 by decide))) dX12_counts_116 ?_
              refine lv_topi (fun x_25 ex_25 => ?_)
              have ex_25 : x_25 = ((σ 2).1 p0.toNatClampNeg) := by rw [ex_25, frσ45x.1 2 (by decide) (by decide)]
              refine lv_i2l hx hb dX12_counts_117 rfl ?_
              refine lv_iload hx hb dX12_counts_118 (lv_at hl 1 rfl) ?_
              refine lv_iload hx hb dX12_counts_120 (lv_at hl 2 rfl) ?_
              refine lv_isub hx hb dX12_counts_122 ?_
              refine lv_topi (fun x_26 ex_26 => ?_)
              refine lv_i2l hx hb dX12_counts_123 rfl ?_
              refine lv_lmul hx hb dX12_counts_124 ?_
              refine lv_topl (fun x_27 ex_27 => ?_)
              have hF := gFree hD hS hA
              refine va_callvD hd0 (va_runV_D (As := [.long (x_22.toInt64), .long x_27]) (rest := []) ⟨hx, hb, hml, hown, hts⟩ (n_X12_adds l dC dI ad cA adK adV H.size σ45x hIσ45x (x_22.toInt64) x_27 (dL_0 iv45_2) (dL_0 (cn_b hh2 gy_14 gy_19 iv45_0 (Int32.not_le.mp c_10) ex_15 ex_25 ex_26 ex_27))) (cwV 2 hts gX12_counts_X12_adds rfl rfl rfl (by decide +kernel) ⟨Nat.le_of_ble_eq_true rfl, Nat.le_of_ble_eq_true rfl⟩) ⟨gBlind, va_recv hK hP (ci := 11) (q0 := 0) rfl (mat_11 rfl), gStart (As := [.ref (ad 0), .long (x_22.toInt64), .long x_27]) hP hD hK0 hT hS hF (d_17)⟩ rfl rfl hl.1 rfl (lv_room (Nat.le_of_ble_eq_true rfl)) dX12_counts_125 ⟨Nat.le_of_ble_eq_true rfl, Nat.le_of_ble_eq_true rfl⟩) hS (fun q _ h => hF q h) hF (fun σ4 t H locs ht hvm hw hB hz1 hk1 hS d_29 hd0 => ?_)
              have hts := dr_words hts0 (d_29)
              have hK := gKd hK0 (d_29)
              have hown : (s.setDrawn (d_29)).vm.findClass RX12 = some m.cls := hown0
              obtain ⟨hP, hD⟩ := gBack hF ht hB
              obtain ⟨hIσ4, fcσ4, hp_30⟩ := hw
              obtain ⟨x_31, ex_31⟩ : ∃ zz : Int32, zz = i6 + 1 := ⟨_, rfl⟩
              refine lv_iinc (v := x_31) (lv' := [(6, .int x_31), (9, .int x_22), (8, .int r_16), (7, .int r_11), (5, .int r_5), (4, .int r_3), (0, .ref (ad 0)), (1, .int p0), (2, .int p1), (3, .int p2)]) hx hb dX12_counts_128 hl (k := 3) rfl (by rw [ex_31]; rfl) (by decide) rfl (fun ls hl => ?_)
              refine lv_goto (tgt := 45) hx hb dX12_counts_131 (by decide) ?_
              exact ih45 x_31 σ4 _ _ _ _ (nd_m (Int32.not_le.mp c_10) hm45 ex_31) (nd_lo (a := (-91)) (Int32.not_le.mp c_10) iv45_0 ex_31) (nd_hi (Int32.not_le.mp c_10) ex_31) (lcm_0 hp_30 iv45_2 (cn_b hh2 gy_14 gy_19 iv45_0 (Int32.not_le.mp c_10) ex_15 ex_25 ex_26 ex_27)) hIσ4 (mFr.tr frσ45x fcσ4 (by decide) (by decide)) hd0 hP hD hS (lv_sub hl [0, 4, 5, 6, 7, 8, 9] rfl)
          · refine lv_iload hx hb dX12_counts_92 (lv_at hl 4 rfl) ?_
            refine lv_goto (tgt := 99) hx hb dX12_counts_94 (by decide) ?_
            refine lv_isub hx hb dX12_counts_99 ?_
            refine lv_topi (fun x_32 ex_32 => ?_)
            refine lv_istore (lv' := [(9, .int x_32), (8, .int r_16), (7, .int r_11), (6, .int i6), (5, .int r_5), (4, .int r_3), (0, .ref (ad 0)), (1, .int p0), (2, .int p1), (3, .int p2)]) hx hb dX12_counts_100 hl (by decide) rfl (fun ls hl => ?_)
            refine lv_iload hx hb dX12_counts_102 (lv_at hl 0 rfl) ?_
            refine lv_if_le (tgt := 128) hx hb dX12_counts_104 (by decide) (fun c_33 => ?_) (fun c_33 => ?_)
            · obtain ⟨x_34, ex_34⟩ : ∃ zz : Int32, zz = i6 + 1 := ⟨_, rfl⟩
              refine lv_iinc (v := x_34) (lv' := [(6, .int x_34), (9, .int x_32), (8, .int r_16), (7, .int r_11), (5, .int r_5), (4, .int r_3), (0, .ref (ad 0)), (1, .int p0), (2, .int p1), (3, .int p2)]) hx hb dX12_counts_128 hl (k := 3) rfl (by rw [ex_34]; rfl) (by decide) rfl (fun ls hl => ?_)
              refine lv_goto (tgt := 45) hx hb dX12_counts_131 (by decide) ?_
              exact ih45 x_34 σ45x _ _ _ _ (nd_m (Int32.not_le.mp c_10) hm45 ex_34) (nd_lo (a := (-91)) (Int32.not_le.mp c_10) iv45_0 ex_34) (nd_hi (Int32.not_le.mp c_10) ex_34) iv45_2 hIσ45x frσ45x hd0 hP hD hS (lv_sub hl [0, 4, 5, 6, 7, 8, 9] rfl)
            · refine lv_aload_n hx hb dX12_counts_107 rfl (lv_at hl 6 rfl) ?_
              refine lv_iload hx hb dX12_counts_108 (lv_at hl 0 rfl) ?_
              refine lv_i2l hx hb dX12_counts_110 rfl ?_
              refine lv_aload_n hx hb dX12_counts_111 rfl (lv_at hl 6 rfl) ?_
              refine va_get (D := (dC, dI)) (ci := 11) (v := .ref (ad 2)) (C := RX12) (T := TX12) (N := 69) hx hb hts hinX12 hown hK hP 0 (mat_11 rfl) rfl 6 (by decide) (hts (.fieldLink RX12 17 "BondCalendarsModel" "often" "[I") (by decide +kernel)) (fun _ h9 => h9) rfl dX12_counts_112 ?_
              refine lv_iload_n hx hb dX12_counts_115 rfl (lv_at hl 7 rfl) ?_
              refine va_iald hx hb hK hP 2 2 (mat_42 rfl) (mty_42 rfl) (gin (N := 8) (by decide) hh0 (Int32.lt_trans hh1 (show (4 : Int32) < 8 by decide))) dX12_counts_116 ?_
              refine lv_topi (fun x_35 ex_35 => ?_)
              have ex_35 : x_35 = ((σ 2).1 p0.toNatClampNeg) := by rw [ex_35, frσ45x.1 2 (by decide) (by decide)]
              refine lv_i2l hx hb dX12_counts_117 rfl ?_
              refine lv_iload hx hb dX12_counts_118 (lv_at hl 1 rfl) ?_
              refine lv_iload hx hb dX12_counts_120 (lv_at hl 2 rfl) ?_
              refine lv_isub hx hb dX12_counts_122 ?_
              refine lv_topi (fun x_36 ex_36 => ?_)
              refine lv_i2l hx hb dX12_counts_123 rfl ?_
              refine lv_lmul hx hb dX12_counts_124 ?_
              refine lv_topl (fun x_37 ex_37 => ?_)
              have hF := gFree hD hS hA
              refine va_callvD hd0 (va_runV_D (As := [.long (x_32.toInt64), .long x_37]) (rest := []) ⟨hx, hb, hml, hown, hts⟩ (n_X12_adds l dC dI ad cA adK adV H.size σ45x hIσ45x (x_32.toInt64) x_37 (dL_0 iv45_2) (dL_0 (cn_b hh2 gy_14 gy_19 iv45_0 (Int32.not_le.mp c_10) ex_15 ex_35 ex_36 ex_37))) (cwV 2 hts gX12_counts_X12_adds rfl rfl rfl (by decide +kernel) ⟨Nat.le_of_ble_eq_true rfl, Nat.le_of_ble_eq_true rfl⟩) ⟨gBlind, va_recv hK hP (ci := 11) (q0 := 0) rfl (mat_11 rfl), gStart (As := [.ref (ad 0), .long (x_32.toInt64), .long x_37]) hP hD hK0 hT hS hF (d_17)⟩ rfl rfl hl.1 rfl (lv_room (Nat.le_of_ble_eq_true rfl)) dX12_counts_125 ⟨Nat.le_of_ble_eq_true rfl, Nat.le_of_ble_eq_true rfl⟩) hS (fun q _ h => hF q h) hF (fun σ5 t H locs ht hvm hw hB hz1 hk1 hS d_39 hd0 => ?_)
              have hts := dr_words hts0 (d_39)
              have hK := gKd hK0 (d_39)
              have hown : (s.setDrawn (d_39)).vm.findClass RX12 = some m.cls := hown0
              obtain ⟨hP, hD⟩ := gBack hF ht hB
              obtain ⟨hIσ5, fcσ5, hp_40⟩ := hw
              obtain ⟨x_41, ex_41⟩ : ∃ zz : Int32, zz = i6 + 1 := ⟨_, rfl⟩
              refine lv_iinc (v := x_41) (lv' := [(6, .int x_41), (9, .int x_32), (8, .int r_16), (7, .int r_11), (5, .int r_5), (4, .int r_3), (0, .ref (ad 0)), (1, .int p0), (2, .int p1), (3, .int p2)]) hx hb dX12_counts_128 hl (k := 3) rfl (by rw [ex_41]; rfl) (by decide) rfl (fun ls hl => ?_)
              refine lv_goto (tgt := 45) hx hb dX12_counts_131 (by decide) ?_
              exact ih45 x_41 σ5 _ _ _ _ (nd_m (Int32.not_le.mp c_10) hm45 ex_41) (nd_lo (a := (-91)) (Int32.not_le.mp c_10) iv45_0 ex_41) (nd_hi (Int32.not_le.mp c_10) ex_41) (lcm_0 hp_40 iv45_2 (cn_b hh2 gy_14 gy_19 iv45_0 (Int32.not_le.mp c_10) ex_15 ex_35 ex_36 ex_37)) hIσ5 (mFr.tr frσ45x fcσ5 (by decide) (by decide)) hd0 hP hD hS (lv_sub hl [0, 4, 5, 6, 7, 8, 9] rfl)
        · refine lv_iload hx hb dX12_counts_78 (lv_at hl 3 rfl) ?_
          refine lv_goto (tgt := 85) hx hb dX12_counts_80 (by decide) ?_
          refine lv_iload hx hb dX12_counts_85 (lv_at hl 4 rfl) ?_
          refine lv_iload hx hb dX12_counts_87 (lv_at hl 1 rfl) ?_
          refine lv_icmp_le (tgt := 97) hx hb dX12_counts_89 (by decide) (fun c_42 => ?_) (fun c_42 => ?_)
          · refine lv_iload hx hb dX12_counts_97 (lv_at hl 1 rfl) ?_
            refine lv_isub hx hb dX12_counts_99 ?_
            refine lv_topi (fun x_43 ex_43 => ?_)
            refine lv_istore (lv' := [(9, .int x_43), (8, .int r_16), (7, .int r_11), (6, .int i6), (5, .int r_5), (4, .int r_3), (0, .ref (ad 0)), (1, .int p0), (2, .int p1), (3, .int p2)]) hx hb dX12_counts_100 hl (by decide) rfl (fun ls hl => ?_)
            refine lv_iload hx hb dX12_counts_102 (lv_at hl 0 rfl) ?_
            refine lv_if_le (tgt := 128) hx hb dX12_counts_104 (by decide) (fun c_44 => ?_) (fun c_44 => ?_)
            · obtain ⟨x_45, ex_45⟩ : ∃ zz : Int32, zz = i6 + 1 := ⟨_, rfl⟩
              refine lv_iinc (v := x_45) (lv' := [(6, .int x_45), (9, .int x_43), (8, .int r_16), (7, .int r_11), (5, .int r_5), (4, .int r_3), (0, .ref (ad 0)), (1, .int p0), (2, .int p1), (3, .int p2)]) hx hb dX12_counts_128 hl (k := 3) rfl (by rw [ex_45]; rfl) (by decide) rfl (fun ls hl => ?_)
              refine lv_goto (tgt := 45) hx hb dX12_counts_131 (by decide) ?_
              exact ih45 x_45 σ45x _ _ _ _ (nd_m (Int32.not_le.mp c_10) hm45 ex_45) (nd_lo (a := (-91)) (Int32.not_le.mp c_10) iv45_0 ex_45) (nd_hi (Int32.not_le.mp c_10) ex_45) iv45_2 hIσ45x frσ45x hd0 hP hD hS (lv_sub hl [0, 4, 5, 6, 7, 8, 9] rfl)
            · refine lv_aload_n hx hb dX12_counts_107 rfl (lv_at hl 6 rfl) ?_
              refine lv_iload hx hb dX12_counts_108 (lv_at hl 0 rfl) ?_
              refine lv_i2l hx hb dX12_counts_110 rfl ?_
              refine lv_aload_n hx hb dX12_counts_111 rfl (lv_at hl 6 rfl) ?_
              refine va_get (D := (dC, dI)) (ci := 11) (v := .ref (ad 2)) (C := RX12) (T := TX12) (N := 69) hx hb hts hinX12 hown hK hP 0 (mat_11 rfl) rfl 6 (by decide) (hts (.fieldLink RX12 17 "BondCalendarsModel" "often" "[I") (by decide +kernel)) (fun _ h9 => h9) rfl dX12_counts_112 ?_
              refine lv_iload_n hx hb dX12_counts_115 rfl (lv_at hl 7 rfl) ?_
              refine va_iald hx hb hK hP 2 2 (mat_42 rfl) (mty_42 rfl) (gin (N := 8) (by decide) hh0 (Int32.lt_trans hh1 (show (4 : Int32) < 8 by decide))) dX12_counts_116 ?_
              refine lv_topi (fun x_46 ex_46 => ?_)
              have ex_46 : x_46 = ((σ 2).1 p0.toNatClampNeg) := by rw [ex_46, frσ45x.1 2 (by decide) (by decide)]
              refine lv_i2l hx hb dX12_counts_117 rfl ?_
              refine lv_iload hx hb dX12_counts_118 (lv_at hl 1 rfl) ?_
              refine lv_iload hx hb dX12_counts_120 (lv_at hl 2 rfl) ?_
              refine lv_isub hx hb dX12_counts_122 ?_
              refine lv_topi (fun x_47 ex_47 => ?_)
              refine lv_i2l hx hb dX12_counts_123 rfl ?_
              refine lv_lmul hx hb dX12_counts_124 ?_
              refine lv_topl (fun x_48 ex_48 => ?_)
              have hF := gFree hD hS hA
              refine va_callvD hd0 (va_runV_D (As := [.long (x_43.toInt64), .long x_48]) (rest := []) ⟨hx, hb, hml, hown, hts⟩ (n_X12_adds l dC dI ad cA adK adV H.size σ45x hIσ45x (x_43.toInt64) x_48 (dL_0 iv45_2) (dL_0 (cn_b hh2 gy_14 gy_19 iv45_0 (Int32.not_le.mp c_10) ex_15 ex_46 ex_47 ex_48))) (cwV 2 hts gX12_counts_X12_adds rfl rfl rfl (by decide +kernel) ⟨Nat.le_of_ble_eq_true rfl, Nat.le_of_ble_eq_true rfl⟩) ⟨gBlind, va_recv hK hP (ci := 11) (q0 := 0) rfl (mat_11 rfl), gStart (As := [.ref (ad 0), .long (x_43.toInt64), .long x_48]) hP hD hK0 hT hS hF (d_17)⟩ rfl rfl hl.1 rfl (lv_room (Nat.le_of_ble_eq_true rfl)) dX12_counts_125 ⟨Nat.le_of_ble_eq_true rfl, Nat.le_of_ble_eq_true rfl⟩) hS (fun q _ h => hF q h) hF (fun σ6 t H locs ht hvm hw hB hz1 hk1 hS d_50 hd0 => ?_)
              have hts := dr_words hts0 (d_50)
              have hK := gKd hK0 (d_50)
              have hown : (s.setDrawn (d_50)).vm.findClass RX12 = some m.cls := hown0
              obtain ⟨hP, hD⟩ := gBack hF ht hB
              obtain ⟨hIσ6, fcσ6, hp_51⟩ := hw
              obtain ⟨x_52, ex_52⟩ : ∃ zz : Int32, zz = i6 + 1 := ⟨_, rfl⟩
              refine lv_iinc (v := x_52) (lv' := [(6, .int x_52), (9, .int x_43), (8, .int r_16), (7, .int r_11), (5, .int r_5), (4, .int r_3), (0, .ref (ad 0)), (1, .int p0), (2, .int p1), (3, .int p2)]) hx hb dX12_counts_128 hl (k := 3) rfl (by rw [ex_52]; rfl) (by decide) rfl (fun ls hl => ?_)
              refine lv_goto (tgt := 45) hx hb dX12_counts_131 (by decide) ?_
              exact ih45 x_52 σ6 _ _ _ _ (nd_m (Int32.not_le.mp c_10) hm45 ex_52) (nd_lo (a := (-91)) (Int32.not_le.mp c_10) iv45_0 ex_52) (nd_hi (Int32.not_le.mp c_10) ex_52) (lcm_0 hp_51 iv45_2 (cn_b hh2 gy_14 gy_19 iv45_0 (Int32.not_le.mp c_10) ex_15 ex_46 ex_47 ex_48)) hIσ6 (mFr.tr frσ45x fcσ6 (by decide) (by decide)) hd0 hP hD hS (lv_sub hl [0, 4, 5, 6, 7, 8, 9] rfl)
          · refine lv_iload hx hb dX12_counts_92 (lv_at hl 4 rfl) ?_
            refine lv_goto (tgt := 99) hx hb dX12_counts_94 (by decide) ?_
            refine lv_isub hx hb dX12_counts_99 ?_
            refine lv_topi (fun x_53 ex_53 => ?_)
            refine lv_istore (lv' := [(9, .int x_53), (8, .int r_16), (7, .int r_11), (6, .int i6), (5, .int r_5), (4, .int r_3), (0, .ref (ad 0)), (1, .int p0), (2, .int p1), (3, .int p2)]) hx hb dX12_counts_100 hl (by decide) rfl (fun ls hl => ?_)
            refine lv_iload hx hb dX12_counts_102 (lv_at hl 0 rfl) ?_
            refine lv_if_le (tgt := 128) hx hb dX12_counts_104 (by decide) (fun c_54 => ?_) (fun c_54 => ?_)
            · obtain ⟨x_55, ex_55⟩ : ∃ zz : Int32, zz = i6 + 1 := ⟨_, rfl⟩
              refine lv_iinc (v := x_55) (lv' := [(6, .int x_55), (9, .int x_53), (8, .int r_16), (7, .int r_11), (5, .int r_5), (4, .int r_3), (0, .ref (ad 0)), (1, .int p0), (2, .int p1), (3, .int p2)]) hx hb dX12_counts_128 hl (k := 3) rfl (by rw [ex_55]; rfl) (by decide) rfl (fun ls hl => ?_)
              refine lv_goto (tgt := 45) hx hb dX12_counts_131 (by decide) ?_
              exact ih45 x_55 σ45x _ _ _ _ (nd_m (Int32.not_le.mp c_10) hm45 ex_55) (nd_lo (a := (-91)) (Int32.not_le.mp c_10) iv45_0 ex_55) (nd_hi (Int32.not_le.mp c_10) ex_55) iv45_2 hIσ45x frσ45x hd0 hP hD hS (lv_sub hl [0, 4, 5, 6, 7, 8, 9] rfl)
            · refine lv_aload_n hx hb dX12_counts_107 rfl (lv_at hl 6 rfl) ?_
              refine lv_iload hx hb dX12_counts_108 (lv_at hl 0 rfl) ?_
              refine lv_i2l hx hb dX12_counts_110 rfl ?_
              refine lv_aload_n hx hb dX12_counts_111 rfl (lv_at hl 6 rfl) ?_
              refine va_get (D := (dC, dI)) (ci := 11) (v := .ref (ad 2)) (C := RX12) (T := TX12) (N := 69) hx hb hts hinX12 hown hK hP 0 (mat_11 rfl) rfl 6 (by decide) (hts (.fieldLink RX12 17 "BondCalendarsModel" "often" "[I") (by decide +kernel)) (fun _ h9 => h9) rfl dX12_counts_112 ?_
              refine lv_iload_n hx hb dX12_counts_115 rfl (lv_at hl 7 rfl) ?_
              refine va_iald hx hb hK hP 2 2 (mat_42 rfl) (mty_42 rfl) (gin (N := 8) (by decide) hh0 (Int32.lt_trans hh1 (show (4 : Int32) < 8 by decide))) dX12_counts_116 ?_
              refine lv_topi (fun x_56 ex_56 => ?_)
              have ex_56 : x_56 = ((σ 2).1 p0.toNatClampNeg) := by rw [ex_56, frσ45x.1 2 (by decide) (by decide)]
              refine lv_i2l hx hb dX12_counts_117 rfl ?_
              refine lv_iload hx hb dX12_counts_118 (lv_at hl 1 rfl) ?_
              refine lv_iload hx hb dX12_counts_120 (lv_at hl 2 rfl) ?_
              refine lv_isub hx hb dX12_counts_122 ?_
              refine lv_topi (fun x_57 ex_57 => ?_)
              refine lv_i2l hx hb dX12_counts_123 rfl ?_
              refine lv_lmul hx hb dX12_counts_124 ?_
              refine lv_topl (fun x_58 ex_58 => ?_)
              have hF := gFree hD hS hA
              refine va_callvD hd0 (va_runV_D (As := [.long (x_53.toInt64), .long x_58]) (rest := []) ⟨hx, hb, hml, hown, hts⟩ (n_X12_adds l dC dI ad cA adK adV H.size σ45x hIσ45x (x_53.toInt64) x_58 (dL_0 iv45_2) (dL_0 (cn_b hh2 gy_14 gy_19 iv45_0 (Int32.not_le.mp c_10) ex_15 ex_56 ex_57 ex_58))) (cwV 2 hts gX12_counts_X12_adds rfl rfl rfl (by decide +kernel) ⟨Nat.le_of_ble_eq_true rfl, Nat.le_of_ble_eq_true rfl⟩) ⟨gBlind, va_recv hK hP (ci := 11) (q0 := 0) rfl (mat_11 rfl), gStart (As := [.ref (ad 0), .long (x_53.toInt64), .long x_58]) hP hD hK0 hT hS hF (d_17)⟩ rfl rfl hl.1 rfl (lv_room (Nat.le_of_ble_eq_true rfl)) dX12_counts_125 ⟨Nat.le_of_ble_eq_true rfl, Nat.le_of_ble_eq_true rfl⟩) hS (fun q _ h => hF q h) hF (fun σ7 t H locs ht hvm hw hB hz1 hk1 hS d_60 hd0 => ?_)
              have hts := dr_words hts0 (d_60)
              have hK := gKd hK0 (d_60)
              have hown : (s.setDrawn (d_60)).vm.findClass RX12 = some m.cls := hown0
              obtain ⟨hP, hD⟩ := gBack hF ht hB
              obtain ⟨hIσ7, fcσ7, hp_61⟩ := hw
              obtain ⟨x_62, ex_62⟩ : ∃ zz : Int32, zz = i6 + 1 := ⟨_, rfl⟩
              refine lv_iinc (v := x_62) (lv' := [(6, .int x_62), (9, .int x_53), (8, .int r_16), (7, .int r_11), (5, .int r_5), (4, .int r_3), (0, .ref (ad 0)), (1, .int p0), (2, .int p1), (3, .int p2)]) hx hb dX12_counts_128 hl (k := 3) rfl (by rw [ex_62]; rfl) (by decide) rfl (fun ls hl => ?_)
              refine lv_goto (tgt := 45) hx hb dX12_counts_131 (by decide) ?_
              exact ih45 x_62 σ7 _ _ _ _ (nd_m (Int32.not_le.mp c_10) hm45 ex_62) (nd_lo (a := (-91)) (Int32.not_le.mp c_10) iv45_0 ex_62) (nd_hi (Int32.not_le.mp c_10) ex_62) (lcm_0 hp_61 iv45_2 (cn_b hh2 gy_14 gy_19 iv45_0 (Int32.not_le.mp c_10) ex_15 ex_56 ex_57 ex_58)) hIσ7 (mFr.tr frσ45x fcσ7 (by decide) (by decide)) hd0 hP hD hS (lv_sub hl [0, 4, 5, 6, 7, 8, 9] rfl)
  · refine lv_aload_n hx hb dX12_counts_10 rfl (lv_at hl 0 rfl) ?_
    refine lv_aload_n hx hb dX12_counts_11 rfl (lv_at hl 0 rfl) ?_
    refine va_get (D := (dC, dI)) (ci := 11) (v := .ref (ad 3)) (C := RX12) (T := TX12) (N := 69) hx hb hts hinX12 hown hK hP 0 (mat_11 rfl) rfl 7 (by decide) (hts (.fieldLink RX12 20 "BondCalendarsModel" "rule" "[I") (by decide +kernel)) (fun _ h9 => h9) rfl dX12_counts_12 ?_
    refine lv_iload_n hx hb dX12_counts_15 rfl (lv_at hl 1 rfl) ?_
    refine va_iald hx hb hK hP 3 3 (mat_43 rfl) (mty_43 rfl) (gin (N := 8) (by decide) hh0 (Int32.lt_trans hh1 (show (4 : Int32) < 8 by decide))) dX12_counts_16 ?_
    refine lv_topi (fun x_63 ex_63 => ?_)
    refine lv_iload_n hx hb dX12_counts_17 rfl (lv_at hl 2 rfl) ?_
    refine lv_iload_n hx hb dX12_counts_18 rfl (lv_at hl 3 rfl) ?_
    have hF := gFree hD hS hA
    refine va_callvD hd0 (va_runV_D (As := [.int x_63, .int p1, .int p2]) (rest := []) ⟨hx, hb, hml, hown, hts⟩ (n_X12_countsPlain2 l dC dI ad cA adK adV s.heap.size σ hI x_63 p1 p2) (cwV 3 hts gX12_counts_X12_countsPlain rfl rfl rfl (by decide +kernel) ⟨Nat.le_of_ble_eq_true rfl, Nat.le_of_ble_eq_true rfl⟩) ⟨gBlind, va_recv hK hP (ci := 11) (q0 := 0) rfl (mat_11 rfl), gStart (As := [.ref (ad 0), .int x_63, .int p1, .int p2]) hP hD hK0 hT hS hF (s.drawn)⟩ rfl rfl hl.1 rfl (lv_room (Nat.le_of_ble_eq_true rfl)) dX12_counts_19 ⟨Nat.le_of_ble_eq_true rfl, Nat.le_of_ble_eq_true rfl⟩) hS (fun q _ h => hF q h) hF (fun σ8 t H locs ht hvm hw hB hz1 hk1 hS d_65 hd0 => ?_)
    have hts := dr_words hts0 (d_65)
    have hK := gKd hK0 (d_65)
    have hown : (s.setDrawn (d_65)).vm.findClass RX12 = some m.cls := hown0
    obtain ⟨hP, hD⟩ := gBack hF ht hB
    obtain ⟨hIσ8, fcσ8, hp_66⟩ := hw
    refine W.endD hd0 ?_
    exact W.vret hx hb hr (fun t ht hW => ⟨⟨σ8, rfl, ⟨hIσ8, (mFr.tr (mFr.rfl (L := []) (F := []) (σ := σ)) fcσ8 (by decide) (by decide)), hp_66⟩, ⟨by rw [ht]; exact hP, hD⟩⟩, hS.F ht⟩) hS.2.2 dX12_counts_22
set_option maxHeartbeats 8000000 in
set_option maxRecDepth 100000 in
theorem n_X12_coupons (l : Launch) (dC : Nat → ClassId) (dI : Nat → Nat → Nat) (ad : Nat → Nat) (cA : Nat → ClassId) (adK adV : Nat → Nat) (sz : Nat) (σ : gs) (hI : InvM σ) (p0 : Int32) (p1 : Int32) (hh0 : 0 ≤ p0) (hh1 : p0 < 4) (hh2 : 0 ≤ p1) (hh3 : p1 < 82) (hh4 : GridOK σ p0.toNatClampNeg) : MetD lw_cs l yX12_coupons wsX12_coupons ({ frames := 4, cells := 0, slots := 0, locals := 110 }) (va_Pc [.ref (ad 0), .int p0, .int p1] (gPre adK adV (dC, dI) (wM ad cA σ) (tM cA) sz)) (va_Qv (fun (τ : gs) => InvM τ ∧ mFr [] [] σ τ ∧ ((((τ 0).2.1 4).toInt.natAbs ∣ LLn))) (fun τ t => gPost (dC, dI) (va_A (wM ad cA σ) sz) (wM ad cA τ) t) (va_A (wM ad cA σ) sz)) 0 0 (va_A (wM ad cA σ) sz) := by
  refine MetD.ofW (cc := cX12_coupons) (maxL := 3) (ret := none) (by decide) rfl ?_
  intro p e s m args below meth c s₁ B hml hv hd0
  obtain ⟨rfl, hsz, hP, hK, hD0, hT⟩ := hv
  have hx := B.exec
  have hb := B.bytes
  have hr := B.returns
  have hts0 := atoms_spec (ws := wsX12_coupons) B.pre
  have hK0 := hK
  have hown0 : s.vm.findClass RX12 = some m.cls := findClass_of_methodNamed B.named
  have hlocks := B.notSynchronized
  have hinX12 : ∀ w ∈ u_ws RX12 TX12 69, w ∈ wsX12_coupons := (fun _ h9 => List.mem_cons_of_mem _ (List.mem_append_right _ h9))
  subst hsz
  have hD := hD0.self (sz := s.heap.size)
  generalize hAe : va_A (wM ad cA σ) s.heap.size = A at hD hT ⊢
  have hA : ∀ q : Nat, s.heap.size ≤ q → A q := fun q h => by rw [← hAe]; exact Or.inr h
  have hS : va_S A s.heap s.heap [] := va_S.rf
  have hl := lv_entry ([.ref (ad 0), .int p0, .int p1]) (n := 3) (Nat.le_of_ble_eq_true rfl)
  rw [lg_entry_eq]
  generalize (lg_sl ([.ref (ad 0), .int p0, .int p1]) ++ List.replicate (3 - (lg_sl ([.ref (ad 0), .int p0, .int p1])).length) Slot.unset).toArray = ls at hl ⊢
  have hl : lv_has ls 3 [(0, .ref (ad 0)), (1, .int p0), (2, .int p1)] := hl
  have hts := dr_words hts0 (s.drawn)
  have hK := gKd hK0 (s.drawn)
  have hown : (s.setDrawn (s.drawn)).vm.findClass RX12 = some m.cls := hown0
  refine lv_aload_n hx hb dX12_coupons_0 rfl (lv_at hl 0 rfl) ?_
  refine lv_iload_n hx hb dX12_coupons_1 rfl (lv_at hl 1 rfl) ?_
  refine lv_aload_n hx hb dX12_coupons_2 rfl (lv_at hl 0 rfl) ?_
  refine lv_iload_n hx hb dX12_coupons_3 rfl (lv_at hl 1 rfl) ?_
  refine lv_iload_n hx hb dX12_coupons_4 rfl (lv_at hl 2 rfl) ?_
  have hF := gFree hD hS hA
  refine va_calliD hd0 (va_runV_D (As := [.int p0, .int p1]) (rest := [.int p0, .ref (ad 0)]) ⟨hx, hb, hml, hown, hts⟩ (n_X12_startOf l dC dI ad cA adK adV s.heap.size σ hI p0 p1 hh0 hh1 hh2 hh3) (cwV 2 hts gX12_coupons_X12_startOf rfl rfl rfl (by decide +kernel) ⟨Nat.le_of_ble_eq_true rfl, Nat.le_of_ble_eq_true rfl⟩) ⟨gBlind, va_recv hK hP (ci := 11) (q0 := 0) rfl (mat_11 rfl), gStart (As := [.ref (ad 0), .int p0, .int p1]) hP hD hK0 hT hS hF (s.drawn)⟩ rfl rfl hl.1 rfl (lv_room (Nat.le_of_ble_eq_true rfl)) dX12_coupons_5 ⟨Nat.le_of_ble_eq_true rfl, Nat.le_of_ble_eq_true rfl⟩) hS (fun q _ h => hF q h) hF (fun r_1 σ1 t H locs ht hvm hw hB hz1 hk1 hS d_2 hd0 => ?_)
  have hts := dr_words hts0 (d_2)
  have hK := gKd hK0 (d_2)
  have hown : (s.setDrawn (d_2)).vm.findClass RX12 = some m.cls := hown0
  obtain ⟨hP, hD⟩ := gBack hF ht hB
  obtain ⟨hIσ1, hro, hp_3⟩ := hw
  subst hro
  refine lv_aload_n hx hb dX12_coupons_8 rfl (lv_at hl 0 rfl) ?_
  refine lv_iload_n hx hb dX12_coupons_9 rfl (lv_at hl 1 rfl) ?_
  refine lv_iload_n hx hb dX12_coupons_10 rfl (lv_at hl 2 rfl) ?_
  have hF := gFree hD hS hA
  refine va_calliD hd0 (va_runV_D (As := [.int p0, .int p1]) (rest := [.int r_1, .int p0, .ref (ad 0)]) ⟨hx, hb, hml, hown, hts⟩ (n_X12_endOf l dC dI ad cA adK adV H.size σ hI p0 p1 hh0 hh1 hh2 hh3) (cwV 2 hts gX12_coupons_X12_endOf rfl rfl rfl (by decide +kernel) ⟨Nat.le_of_ble_eq_true rfl, Nat.le_of_ble_eq_true rfl⟩) ⟨gBlind, va_recv hK hP (ci := 11) (q0 := 0) rfl (mat_11 rfl), gStart (As := [.ref (ad 0), .int p0, .int p1]) hP hD hK0 hT hS hF (d_2)⟩ rfl rfl hl.1 rfl (lv_room (Nat.le_of_ble_eq_true rfl)) dX12_coupons_11 ⟨Nat.le_of_ble_eq_true rfl, Nat.le_of_ble_eq_true rfl⟩) hS (fun q _ h => hF q h) hF (fun r_4 σ2 t H locs ht hvm hw hB hz1 hk1 hS d_5 hd0 => ?_)
  have hts := dr_words hts0 (d_5)
  have hK := gKd hK0 (d_5)
  have hown : (s.setDrawn (d_5)).vm.findClass RX12 = some m.cls := hown0
  obtain ⟨hP, hD⟩ := gBack hF ht hB
  obtain ⟨hIσ2, hro, hp_6⟩ := hw
  subst hro
  have eo_7 : ∀ j : Nat, (j : Int) = 82 * p0.toInt + p1.toInt → r_4 = (σ 18).1 j := hp_6.2.2
  have hF := gFree hD hS hA
  refine va_callvD hd0 (va_runV_D (As := [.int p0, .int r_1, .int r_4]) (rest := []) ⟨hx, hb, hml, hown, hts⟩ (n_X12_counts l dC dI ad cA adK adV H.size σ hI p0 r_1 r_4 hh0 hh1 hh4) (cwV 3 hts gX12_coupons_X12_counts rfl rfl rfl (by decide +kernel) ⟨Nat.le_of_ble_eq_true rfl, Nat.le_of_ble_eq_true rfl⟩) ⟨gBlind, va_recv hK hP (ci := 11) (q0 := 0) rfl (mat_11 rfl), gStart (As := [.ref (ad 0), .int p0, .int r_1, .int r_4]) hP hD hK0 hT hS hF (d_5)⟩ rfl rfl hl.1 rfl (lv_room (Nat.le_of_ble_eq_true rfl)) dX12_coupons_14 ⟨Nat.le_of_ble_eq_true rfl, Nat.le_of_ble_eq_true rfl⟩) hS (fun q _ h => hF q h) hF (fun σ3 t H locs ht hvm hw hB hz1 hk1 hS d_9 hd0 => ?_)
  have hts := dr_words hts0 (d_9)
  have hK := gKd hK0 (d_9)
  have hown : (s.setDrawn (d_9)).vm.findClass RX12 = some m.cls := hown0
  obtain ⟨hP, hD⟩ := gBack hF ht hB
  obtain ⟨hIσ3, fcσ3, hp_10⟩ := hw
  refine lv_aload_n hx hb dX12_coupons_17 rfl (lv_at hl 0 rfl) ?_
  refine lv_aload_n hx hb dX12_coupons_18 rfl (lv_at hl 0 rfl) ?_
  refine va_get (D := (dC, dI)) (ci := 11) (v := .ref (ad 1)) (C := RX12) (T := TX12) (N := 69) hx hb hts hinX12 hown hK hP 0 (mat_11 rfl) rfl 5 (by decide) (hts (.fieldLink RX12 13 "BondCalendarsModel" "rate" "[I") (by decide +kernel)) (fun _ h9 => h9) rfl dX12_coupons_19 ?_
  refine lv_iload_n hx hb dX12_coupons_22 rfl (lv_at hl 1 rfl) ?_
  refine va_iald hx hb hK hP 1 1 (mat_41 rfl) (mty_41 rfl) (gin (N := 8) (by decide) hh0 (Int32.lt_trans hh1 (show (4 : Int32) < 8 by decide))) dX12_coupons_23 ?_
  refine lv_topi (fun x_11 ex_11 => ?_)
  have ex_11 : x_11 = ((σ 1).1 p0.toNatClampNeg) := by rw [ex_11, fcσ3.1 1 (by decide) (by decide)]
  refine lv_i2l hx hb dX12_coupons_24 rfl ?_
  refine lv_ldc2 (v := 100) hx hb hown (hts (.constantLong RX12 408 (100)) (by decide +kernel)) dX12_coupons_25 ?_
  have hF := gFree hD hS hA
  refine va_callvD hd0 (va_runV_D (As := [.long (x_11.toInt64), .long 100]) (rest := []) ⟨hx, hb, hml, hown, hts⟩ (n_X12_times l dC dI ad cA adK adV H.size σ3 hIσ3 (x_11.toInt64) 100 (tm_100 hp_10)) (cwV 2 hts gX12_coupons_X12_times rfl rfl rfl (by decide +kernel) ⟨Nat.le_of_ble_eq_true rfl, Nat.le_of_ble_eq_true rfl⟩) ⟨gBlind, va_recv hK hP (ci := 11) (q0 := 0) rfl (mat_11 rfl), gStart (As := [.ref (ad 0), .long (x_11.toInt64), .long 100]) hP hD hK0 hT hS hF (d_9)⟩ rfl rfl hl.1 rfl (lv_room (Nat.le_of_ble_eq_true rfl)) dX12_coupons_28 ⟨Nat.le_of_ble_eq_true rfl, Nat.le_of_ble_eq_true rfl⟩) hS (fun q _ h => hF q h) hF (fun σ4 t H locs ht hvm hw hB hz1 hk1 hS d_13 hd0 => ?_)
  have hts := dr_words hts0 (d_13)
  have hK := gKd hK0 (d_13)
  have hown : (s.setDrawn (d_13)).vm.findClass RX12 = some m.cls := hown0
  obtain ⟨hP, hD⟩ := gBack hF ht hB
  obtain ⟨hIσ4, fcσ4, hp_14⟩ := hw
  refine W.endD hd0 ?_
  exact W.vret hx hb hr (fun t ht hW => ⟨⟨σ4, rfl, ⟨hIσ4, (mFr.tr (mFr.tr (mFr.rfl (L := []) (F := []) (σ := σ)) fcσ3 (by decide) (by decide)) fcσ4 (by decide) (by decide)), (dL_dv hp_14 (tm_100 hp_10))⟩, ⟨by rw [ht]; exact hP, hD⟩⟩, hS.F ht⟩) hS.2.2 dX12_coupons_31
