/-- a tape's length behind a feed, its answer -/
def fdP (a b r : Int32) : Prop := (880 < a ∧ r = -1 ∧ b = a) ∨ (a ≤ 880 ∧ b.toInt = a.toInt + 20 ∧ r = b)
/-- a tape's length behind desk -/
def dkP (n a b : Int32) : Prop := b = if n < 0 then a else if a < n then a else 0
theorem fd_same {a b r a' b' r' : Int32} (h : fdP a b r) (h' : fdP a' b' r') (e : a = a') : r = r' ∧ b = b' := by
  subst e
  rcases h with ⟨h1, h2, h3⟩ | ⟨h1, h2, h3⟩ <;> rcases h' with ⟨g1, g2, g3⟩ | ⟨g1, g2, g3⟩
  · exact ⟨h2.trans g2.symm, h3.trans g3.symm⟩
  · exact absurd h1 (Int32.not_lt.mpr g1)
  · exact absurd g1 (Int32.not_lt.mpr h1)
  · have e : b = b' := Int32.toInt_inj.mp (h2.trans g2.symm)
    exact ⟨by rw [h3, g3, e], e⟩
theorem dk_eq {n a b a' b' : Int32} (h : dkP n a b) (h' : dkP n a' b') (e : a = a') : b = b' := by
  subst e
  exact h.trans h'.symm
/-- four bytes: what the loop keeps -/
def apI (s a i : Int32) : Prop := 8 * a.toInt = 8 * s.toInt + 24 - i.toInt ∧ -8 ≤ i.toInt ∧ i.toInt ≤ 24 ∧ i.toInt % 8 = 0
theorem ap_0 {s : Int32} : apI s s 24 := by
  have b : (24 : Int32).toInt = 24 := by decide
  unfold apI
  rw [b]
  omega
theorem ap_lt {s a i : Int32} (h : apI s a i) (hs : s ≤ 896) (hi : 0 ≤ i) : a < 900 := by
  have c := Int32.le_iff_toInt_le.mp hs
  have d := Int32.le_iff_toInt_le.mp hi
  have b0 : (0 : Int32).toInt = 0 := by decide
  have b8 : (896 : Int32).toInt = 896 := by decide
  obtain ⟨h1, h2, h3, h4⟩ := h
  exact Int32.lt_iff_toInt_lt.mpr (show a.toInt < (900 : Int) by omega)
theorem ap_s {s a a' i i' : Int32} (h : apI s a i) (hi : 0 ≤ i) (ha : a < 900) (e : a' = a + 1) (ei : i' = i + -8) : apI s a' i' := by
  obtain ⟨h1, h2, h3, h4⟩ := h
  have d := Int32.le_iff_toInt_le.mp hi
  have b0 : (0 : Int32).toInt = 0 := by decide
  have b8 : (-8 : Int32).toInt = -8 := by decide
  have e1 := nd ha e
  have e2 : i'.toInt = i.toInt + -8 := by rw [ei]; exact i3_add rfl b8 (by omega) (by omega)
  unfold apI
  rw [e1, e2]
  omega
theorem ap_e {s a i : Int32} (h : apI s a i) (hi : i < 0) : a.toInt = s.toInt + 4 := by
  obtain ⟨h1, h2, h3, h4⟩ := h
  have d := Int32.lt_iff_toInt_lt.mp hi
  have b0 : (0 : Int32).toInt = 0 := by decide
  omega
theorem f4_le {a b c d : Int32} (h : b.toInt = a.toInt + 4) (ha : a ≤ c) (e : d.toInt = c.toInt + 4) : b ≤ d := by
  have p := Int32.le_iff_toInt_le.mp ha
  exact Int32.le_iff_toInt_le.mpr (by omega)
/-- twenty bytes of the reference -/
theorem tp_s {a b b' i i' : Int32} (h : b.toInt = a.toInt + i.toInt) (h0 : 0 ≤ i) (hi : i < 20) (hb : b < 900) (e : b' = b + 1) (ei : i' = i + 1) : b'.toInt = a.toInt + i'.toInt := by
  have e1 := nd hb e
  have e2 := nd hi ei
  omega

set_option maxHeartbeats 8000000 in
set_option maxRecDepth 100000 in
theorem n_X10_appendF (l : Launch) (dC : Nat → ClassId) (dI : Nat → Nat → Nat) (ad : Nat → Nat) (cA : Nat → ClassId) (adK adV : Nat → Nat) (sz : Nat) (σ : gs) (hI : InvX σ) (p0 : Int32) (hh0 : (σ 2).1 1 ≤ 896) : MetD lw_cs l yX10_append wsX10_append ({ frames := 0, cells := 0, slots := 0, locals := 0 }) (va_Pc [.ref (ad 2), .int p0] (gPre adK adV (dC, dI) (wX ad cA σ) (tX cA) sz)) (va_Qv (fun (τ : gs) => InvX τ ∧ gFr [9, 20] σ τ ∧ (((τ 2).1 1).toInt = ((σ 2).1 1).toInt + 4)) (fun τ t => gPost (dC, dI) (va_A (wX ad cA σ) sz) (wX ad cA τ) t) (va_A (wX ad cA σ) sz)) 0 0 (va_A (wX ad cA σ) sz) := by
  refine MetD.ofW (cc := cX10_append) (maxL := 3) (ret := none) (by decide) rfl ?_
  intro p e s m args below meth c s₁ B hml hv hd0
  obtain ⟨rfl, hsz, hP, hK, hD0, hT⟩ := hv
  have hx := B.exec
  have hb := B.bytes
  have hr := B.returns
  have hts0 := atoms_spec (ws := wsX10_append) B.pre
  have hK0 := hK
  have hown0 : s.vm.findClass RX10 = some m.cls := findClass_of_methodNamed B.named
  have hlocks := B.notSynchronized
  have hinX10 : ∀ w ∈ u_ws RX10 TX10 7, w ∈ wsX10_append := (fun _ h9 => List.mem_cons_of_mem _ (List.mem_append_right _ h9))
  subst hsz
  have hD := hD0.self (sz := s.heap.size)
  generalize hAe : va_A (wX ad cA σ) s.heap.size = A at hD hT ⊢
  have hA : ∀ q : Nat, s.heap.size ≤ q → A q := fun q h => by rw [← hAe]; exact Or.inr h
  have hS : va_S A s.heap s.heap [] := va_S.rf
  have hl := lv_entry ([.ref (ad 2), .int p0]) (n := 3) (Nat.le_of_ble_eq_true rfl)
  rw [lg_entry_eq]
  generalize (lg_sl ([.ref (ad 2), .int p0]) ++ List.replicate (3 - (lg_sl ([.ref (ad 2), .int p0])).length) Slot.unset).toArray = ls at hl ⊢
  have hl : lv_has ls 3 [(0, .ref (ad 2)), (1, .int p0)] := hl
  have hts := dr_words hts0 (s.drawn)
  have hK := gKd hK0 (s.drawn)
  have hown : (s.setDrawn (s.drawn)).vm.findClass RX10 = some m.cls := hown0
  refine lv_bipush (v := 24) hx hb dX10_append_0 (by decide) ?_
  refine lv_istore_n (lv' := [(2, .int 24), (0, .ref (ad 2)), (1, .int p0)]) hx hb dX10_append_2 rfl hl (by decide) rfl (fun ls hl => ?_)
  refine (fun (h : ∀ (n : Nat) (i : Int32) (σ3x : gs) (d3 : Drawn) (H : Heap) (locs : List Loc) (ls : Array Slot), (i.toInt + (8 : Int32).toInt).toNat < n → apI ((σ 2).1 1) ((σ3x 2).1 1) i → InvX σ3x → gFr [9, 20] σ σ3x → s.drawn.sameBut d3 lw_cs → va_P (dC, dI) vwCl (wX ad cA σ3x) H → va_D A (wX ad cA σ3x) → va_S A s.heap H locs → lv_has ls 3 [(2, .int i), (0, .ref (ad 2)), (1, .int p0)] → W p l e _ (s.setDrawn d3) m _ below meth c H locs _ _ _ (F0 m 3 ls [])) => h _ 24 σ _ _ _ _ (Nat.lt_succ_self _) ap_0 hI (gFr.rfl (L := [9, 20]) (σ := σ)) hd0 hP hD hS (lv_sub hl [0, 1, 2] rfl)) ?_
  intro n3
  induction n3 with
  | zero => intro i σ3x d3 H locs ls hm; exact absurd hm (Nat.not_lt_zero _)
  | succ n3 ih3 =>
    intro i σ3x d3 H locs ls hm3 iv3_0 hIσ3x frσ3x hd0 hP hD hS hl
    have hts := dr_words hts0 (d3)
    have hK := gKd hK0 (d3)
    have hown : (s.setDrawn (d3)).vm.findClass RX10 = some m.cls := hown0
    refine lv_iload_n hx hb dX10_append_3 rfl (lv_at hl 0 rfl) ?_
    refine lv_if_lt (tgt := 48) hx hb dX10_append_4 (by decide) (fun c_1 => ?_) (fun c_1 => ?_)
    · refine W.endD hd0 ?_
      exact W.vret hx hb hr (fun t ht hW => ⟨⟨σ3x, rfl, ⟨hIσ3x, frσ3x, (ap_e iv3_0 c_1)⟩, ⟨by rw [ht]; exact hP, hD⟩⟩, hS.F ht⟩) hS.2.2 dX10_append_48
    · refine lv_aload_n hx hb dX10_append_7 rfl (lv_at hl 1 rfl) ?_
      have bd_2 := rd_9_1 (c := 2) hIσ3x rfl
      refine va_get (D := (dC, dI)) (ci := 9) (v := .int ((σ3x 2).1 1)) (C := RX10) (T := TX10) (N := 7) hx hb hts hinX10 hown hK hP 2 (at_9 rfl) rfl 1 (by decide) (hts (.fieldLink RX10 13 "BondCalendars$Tape" "length" "I") (by decide +kernel)) (fun _ h9 => h9) rfl dX10_append_8 ?_
      refine lv_aload_n hx hb dX10_append_11 rfl (lv_at hl 1 rfl) ?_
      refine va_get (D := (dC, dI)) (ci := 9) (v := .ref (ad 3)) (C := RX10) (T := TX10) (N := 7) hx hb hts hinX10 hown hK hP 2 (at_9 rfl) rfl 0 (by decide) (hts (.fieldLink RX10 9 "BondCalendars$Tape" "bytes" "[B") (by decide +kernel)) (fun _ h9 => h9) rfl dX10_append_12 ?_
      refine va_alen (v := 900) hx hb hK hP 3 3 (at_20 rfl) (ty_20 rfl) rfl dX10_append_15 ?_
      refine lv_icmp_ge (tgt := 42) hx hb dX10_append_16 (by decide) (fun c_3 => ?_) (fun c_3 => ?_)
      · exact absurd c_3 (Int32.not_le.mpr (ap_lt iv3_0 hh0 (Int32.not_lt.mp c_1)))
      · refine lv_aload_n hx hb dX10_append_19 rfl (lv_at hl 1 rfl) ?_
        refine va_get (D := (dC, dI)) (ci := 9) (v := .ref (ad 3)) (C := RX10) (T := TX10) (N := 7) hx hb hts hinX10 hown hK hP 2 (at_9 rfl) rfl 0 (by decide) (hts (.fieldLink RX10 9 "BondCalendars$Tape" "bytes" "[B") (by decide +kernel)) (fun _ h9 => h9) rfl dX10_append_20 ?_
        refine lv_aload_n hx hb dX10_append_23 rfl (lv_at hl 1 rfl) ?_
        refine va_get (D := (dC, dI)) (ci := 9) (v := .int ((σ3x 2).1 1)) (C := RX10) (T := TX10) (N := 7) hx hb hts hinX10 hown hK hP 2 (at_9 rfl) rfl 1 (by decide) (hts (.fieldLink RX10 13 "BondCalendars$Tape" "length" "I") (by decide +kernel)) (fun _ h9 => h9) rfl dX10_append_24 ?_
        refine lv_iload_n hx hb dX10_append_27 rfl (lv_at hl 2 rfl) ?_
        refine lv_iload_n hx hb dX10_append_28 rfl (lv_at hl 0 rfl) ?_
        refine lv_ishr hx hb dX10_append_29 ?_
        refine lv_topi (fun x_4 _ => ?_)
        refine lv_i2b hx hb dX10_append_30 rfl ?_
        refine lv_topi (fun x_5 _ => ?_)
        refine va_bast hx hb hK hP hD hS 3 3 (at_20 rfl) (ty_20 rfl) (gin (N := 900) (by decide) bd_2.1 (Int32.not_le.mp c_3)) dX10_append_31 (fun H locs hP hD hS => ?_)
        obtain ⟨σ1, eσ1, hP, hD⟩ := gPut (se_20 rfl) hP hD
        have hIσ1 : InvX σ1 := by rw [eσ1]; exact inv_I hIσ3x (ok_20 rfl _ _)
        have frσ1 : gFr [9, 20] σ σ1 := by rw [eσ1]; exact gFr.pI frσ3x rfl (by decide)
        refine lv_aload_n hx hb dX10_append_32 rfl (lv_at hl 1 rfl) ?_
        refine lv_dup hx hb dX10_append_33 rfl ?_
        refine va_get (D := (dC, dI)) (ci := 9) (v := .int ((σ3x 2).1 1)) (C := RX10) (T := TX10) (N := 7) hx hb hts hinX10 hown hK hP 2 (at_9 rfl) rfl 1 (by decide) (hts (.fieldLink RX10 13 "BondCalendars$Tape" "length" "I") (by decide +kernel)) (fun _ h9 => h9) (congrArg (fun z => some (Value.int z)) (show (σ1 2).1 1 = ((σ3x 2).1 1) from by rw [eσ1, gI_ne _ _ _ (by decide)])) dX10_append_34 ?_
        refine lv_iconst (v := 1) hx hb dX10_append_37 (by decide) ?_
        refine lv_iadd hx hb dX10_append_38 ?_
        refine lv_topi (fun x_6 ex_6 => ?_)
        refine va_put (D := (dC, dI)) (ci := 9) (v := .int x_6) (C := RX10) (T := TX10) (N := 7) hx hb hts hinX10 tyX10 tyX10_ok nmX10 hown hK hP hD hS 2 (at_9 rfl) rfl 1 (by decide) (hts (.fieldLink RX10 13 "BondCalendars$Tape" "length" "I") (by decide +kernel)) (fun _ h9 => h9) rfl (ty := .int) (by decide +kernel) rfl rfl (Nat.le_of_ble_eq_true rfl) dX10_append_39 (fun H locs hP hD hS => ?_)
        obtain ⟨σ2, eσ2, hP, hD⟩ := gPut (se_9_1 rfl) hP hD
        have hIσ2 : InvX σ2 := by rw [eσ2]; exact inv_I hIσ1 (ok_9_1 rfl _ ⟨(cnt_0 bd_2.1 (Int32.not_le.mp c_3) ex_6), (cnt_N bd_2.1 (Int32.not_le.mp c_3) ex_6)⟩)
        have frσ2 : gFr [9, 20] σ σ2 := by rw [eσ2]; exact gFr.pI frσ1 rfl (by decide)
        obtain ⟨x_7, ex_7⟩ : ∃ zz : Int32, zz = i + (-8) := ⟨_, rfl⟩
        refine lv_iinc (v := x_7) (lv' := [(2, .int x_7), (0, .ref (ad 2)), (1, .int p0)]) hx hb dX10_append_42 hl (k := 0) rfl (by rw [ex_7]; rfl) (by decide) rfl (fun ls hl => ?_)
        refine lv_goto (tgt := 3) hx hb dX10_append_45 (by decide) ?_
        exact ih3 x_7 σ2 _ _ _ _ (dn_m (k := 8) (by decide) (Int32.not_lt.mp c_1) hm3 ex_7) (by rw [eσ2, gI_self]; exact ap_s iv3_0 (Int32.not_lt.mp c_1) (ap_lt iv3_0 hh0 (Int32.not_lt.mp c_1)) ex_6 ex_7) hIσ2 frσ2 hd0 hP hD hS (lv_sub hl [0, 1, 2] rfl)
set_option maxHeartbeats 8000000 in
set_option maxRecDepth 100000 in
theorem n_X11_feedF (l : Launch) (dC : Nat → ClassId) (dI : Nat → Nat → Nat) (ad : Nat → Nat) (cA : Nat → ClassId) (adK adV : Nat → Nat) (sz : Nat) (σ : gs) (hI : InvX σ) (p0 : Int32) (p1 : Int32) (p2 : Int32) (p3 : Int32) (p4 : Int32) : MetD lw_cs l yX11_feed wsX11_feed ({ frames := 1, cells := 0, slots := 0, locals := 22 }) (va_Pc [.ref (ad 0), .int p0, .int p1, .int p2, .int p3, .int p4] (gPre adK adV (dC, dI) (wX ad cA σ) (tX cA) sz)) (va_Qi (fun (r : Int32) (τ : gs) => InvX τ ∧ gFr [9, 20] σ τ ∧ (fdP ((σ 2).1 1) ((τ 2).1 1) r)) (fun τ t => gPost (dC, dI) (va_A (wX ad cA σ) sz) (wX ad cA τ) t) (va_A (wX ad cA σ) sz)) 0 0 (va_A (wX ad cA σ) sz) := by
  refine MetD.ofW (cc := cX11_feed) (maxL := 7) (ret := (some .int)) (by decide) rfl ?_
  intro p e s m args below meth c s₁ B hml hv hd0
  obtain ⟨rfl, hsz, hP, hK, hD0, hT⟩ := hv
  have hx := B.exec
  have hb := B.bytes
  have hr := B.returns
  have hts0 := atoms_spec (ws := wsX11_feed) B.pre
  have hK0 := hK
  have hown0 : s.vm.findClass RX11 = some m.cls := findClass_of_methodNamed B.named
  have hlocks := B.notSynchronized
  have hinX11 : ∀ w ∈ u_ws RX11 TX11 15, w ∈ wsX11_feed := (fun _ h9 => List.mem_cons_of_mem _ (List.mem_append_left _ (List.mem_append_left _ (List.mem_append_right _ h9))))
  have hinX7 : ∀ w ∈ u_ws RX7 TX7 5, w ∈ wsX11_feed := (fun _ h9 => List.mem_cons_of_mem _ (List.mem_append_left _ (List.mem_append_right _ h9)))
  have hinX10 : ∀ w ∈ u_ws RX10 TX10 7, w ∈ wsX11_feed := (fun _ h9 => List.mem_cons_of_mem _ (List.mem_append_right _ h9))
  subst hsz
  have hD := hD0.self (sz := s.heap.size)
  generalize hAe : va_A (wX ad cA σ) s.heap.size = A at hD hT ⊢
  have hA : ∀ q : Nat, s.heap.size ≤ q → A q := fun q h => by rw [← hAe]; exact Or.inr h
  have hS : va_S A s.heap s.heap [] := va_S.rf
  have hl := lv_entry ([.ref (ad 0), .int p0, .int p1, .int p2, .int p3, .int p4]) (n := 7) (Nat.le_of_ble_eq_true rfl)
  rw [lg_entry_eq]
  generalize (lg_sl ([.ref (ad 0), .int p0, .int p1, .int p2, .int p3, .int p4]) ++ List.replicate (7 - (lg_sl ([.ref (ad 0), .int p0, .int p1, .int p2, .int p3, .int p4])).length) Slot.unset).toArray = ls at hl ⊢
  have hl : lv_has ls 7 [(0, .ref (ad 0)), (1, .int p0), (2, .int p1), (3, .int p2), (4, .int p3), (5, .int p4)] := hl
  have hts := dr_words hts0 (s.drawn)
  have hK := gKd hK0 (s.drawn)
  have hown : (s.setDrawn (s.drawn)).vm.findClass RX11 = some m.cls := hown0
  refine lv_aload_n hx hb dX11_feed_0 rfl (lv_at hl 0 rfl) ?_
  refine va_get (D := (dC, dI)) (ci := 10) (v := .ref (ad 1)) (C := RX11) (T := TX11) (N := 15) hx hb hts hinX11 hown hK hP 0 (at_10 rfl) rfl 0 (by decide) (hts (.fieldLink RX11 10 "BondCalendars" "reader" "LBondCalendars$Reader;") (by decide +kernel)) (fun _ h9 => h9) rfl dX11_feed_1 ?_
  refine va_get (D := (dC, dI)) (ci := 6) (v := .ref (ad 2)) (C := RX7) (T := TX7) (N := 5) hx hb hts hinX7 hown hK hP 1 (at_6 rfl) rfl 0 (by decide) (hts (.fieldLink RX11 84 "BondCalendars$Reader" "tape" "LBondCalendars$Tape;") (by decide +kernel)) (fun _ h9 => h9) rfl dX11_feed_4 ?_
  refine lv_astore (lv' := [(6, .ref (ad 2)), (0, .ref (ad 0)), (1, .int p0), (2, .int p1), (3, .int p2), (4, .int p3), (5, .int p4)]) hx hb dX11_feed_7 hl (by decide) rfl (fun ls hl => ?_)
  refine lv_aload hx hb dX11_feed_9 (lv_at hl 0 rfl) ?_
  have bd_1 := rd_9_1 (c := 2) hI rfl
  refine va_get (D := (dC, dI)) (ci := 9) (v := .int ((σ 2).1 1)) (C := RX10) (T := TX10) (N := 7) hx hb hts hinX10 hown hK hP 2 (at_9 rfl) rfl 1 (by decide) (hts (.fieldLink RX11 88 "BondCalendars$Tape" "length" "I") (by decide +kernel)) (fun _ h9 => h9) rfl dX11_feed_11 ?_
  refine lv_sipush (v := 880) hx hb dX11_feed_14 (by decide) ?_
  refine lv_icmp_le (tgt := 22) hx hb dX11_feed_17 (by decide) (fun c_2 => ?_) (fun c_2 => ?_)
  · refine lv_aload hx hb dX11_feed_22 (lv_at hl 0 rfl) ?_
    refine lv_iload_n hx hb dX11_feed_24 rfl (lv_at hl 2 rfl) ?_
    have hF := gFree hD hS hA
    refine va_callvD hd0 (va_runV_D (As := [.int p0]) (rest := []) ⟨hx, hb, hml, hown, hts⟩ (n_X10_appendF l dC dI ad cA adK adV s.heap.size σ hI p0 (Int32.le_of_lt (Int32.lt_of_le_of_lt c_2 (show (880 : Int32) < 896 by decide)))) (cwV 1 hts gX11_feed_X10_append rfl rfl rfl (by decide +kernel) ⟨Nat.le_of_ble_eq_true rfl, Nat.le_of_ble_eq_true rfl⟩) ⟨gBlind, va_recv hK hP (ci := 9) (q0 := 2) rfl (at_9 rfl), gStart (As := [.ref (ad 2), .int p0]) hP hD hK0 hT hS hF (s.drawn)⟩ rfl rfl hl.1 rfl (lv_room (Nat.le_of_ble_eq_true rfl)) dX11_feed_25 ⟨Nat.le_of_ble_eq_true rfl, Nat.le_of_ble_eq_true rfl⟩) hS (fun q _ h => hF q h) hF (fun σ1 t H locs ht hvm hw hB hz1 hk1 hS d_4 hd0 => ?_)
    have hts := dr_words hts0 (d_4)
    have hK := gKd hK0 (d_4)
    have hown : (s.setDrawn (d_4)).vm.findClass RX11 = some m.cls := hown0
    obtain ⟨hP, hD⟩ := gBack hF ht hB
    obtain ⟨hIσ1, fcσ1, hp_5⟩ := hw
    refine lv_aload hx hb dX11_feed_28 (lv_at hl 0 rfl) ?_
    refine lv_iload_n hx hb dX11_feed_30 rfl (lv_at hl 3 rfl) ?_
    have hF := gFree hD hS hA
    refine va_callvD hd0 (va_runV_D (As := [.int p1]) (rest := []) ⟨hx, hb, hml, hown, hts⟩ (n_X10_appendF l dC dI ad cA adK adV H.size σ1 hIσ1 p1 (Int32.le_of_lt (Int32.lt_of_le_of_lt (f4_le (c := 880) (d := 884) hp_5 c_2 (by decide)) (show (884 : Int32) < 896 by decide)))) (cwV 1 hts gX11_feed_X10_append rfl rfl rfl (by decide +kernel) ⟨Nat.le_of_ble_eq_true rfl, Nat.le_of_ble_eq_true rfl⟩) ⟨gBlind, va_recv hK hP (ci := 9) (q0 := 2) rfl (at_9 rfl), gStart (As := [.ref (ad 2), .int p1]) hP hD hK0 hT hS hF (d_4)⟩ rfl rfl hl.1 rfl (lv_room (Nat.le_of_ble_eq_true rfl)) dX11_feed_31 ⟨Nat.le_of_ble_eq_true rfl, Nat.le_of_ble_eq_true rfl⟩) hS (fun q _ h => hF q h) hF (fun σ2 t H locs ht hvm hw hB hz1 hk1 hS d_7 hd0 => ?_)
    have hts := dr_words hts0 (d_7)
    have hK := gKd hK0 (d_7)
    have hown : (s.setDrawn (d_7)).vm.findClass RX11 = some m.cls := hown0
    obtain ⟨hP, hD⟩ := gBack hF ht hB
    obtain ⟨hIσ2, fcσ2, hp_8⟩ := hw
    refine lv_aload hx hb dX11_feed_34 (lv_at hl 0 rfl) ?_
    refine lv_iload_n hx hb dX11_feed_36 rfl (lv_at hl 4 rfl) ?_
    have hF := gFree hD hS hA
    refine va_callvD hd0 (va_runV_D (As := [.int p2]) (rest := []) ⟨hx, hb, hml, hown, hts⟩ (n_X10_appendF l dC dI ad cA adK adV H.size σ2 hIσ2 p2 (Int32.le_of_lt (Int32.lt_of_le_of_lt (f4_le (c := 884) (d := 888) hp_8 (f4_le (c := 880) (d := 884) hp_5 c_2 (by decide)) (by decide)) (show (888 : Int32) < 896 by decide)))) (cwV 1 hts gX11_feed_X10_append rfl rfl rfl (by decide +kernel) ⟨Nat.le_of_ble_eq_true rfl, Nat.le_of_ble_eq_true rfl⟩) ⟨gBlind, va_recv hK hP (ci := 9) (q0 := 2) rfl (at_9 rfl), gStart (As := [.ref (ad 2), .int p2]) hP hD hK0 hT hS hF (d_7)⟩ rfl rfl hl.1 rfl (lv_room (Nat.le_of_ble_eq_true rfl)) dX11_feed_37 ⟨Nat.le_of_ble_eq_true rfl, Nat.le_of_ble_eq_true rfl⟩) hS (fun q _ h => hF q h) hF (fun σ3 t H locs ht hvm hw hB hz1 hk1 hS d_10 hd0 => ?_)
    have hts := dr_words hts0 (d_10)
    have hK := gKd hK0 (d_10)
    have hown : (s.setDrawn (d_10)).vm.findClass RX11 = some m.cls := hown0
    obtain ⟨hP, hD⟩ := gBack hF ht hB
    obtain ⟨hIσ3, fcσ3, hp_11⟩ := hw
    refine lv_aload hx hb dX11_feed_40 (lv_at hl 0 rfl) ?_
    refine lv_iload hx hb dX11_feed_42 (lv_at hl 5 rfl) ?_
    have hF := gFree hD hS hA
    refine va_callvD hd0 (va_runV_D (As := [.int p3]) (rest := []) ⟨hx, hb, hml, hown, hts⟩ (n_X10_appendF l dC dI ad cA adK adV H.size σ3 hIσ3 p3 (Int32.le_of_lt (Int32.lt_of_le_of_lt (f4_le (c := 888) (d := 892) hp_11 (f4_le (c := 884) (d := 888) hp_8 (f4_le (c := 880) (d := 884) hp_5 c_2 (by decide)) (by decide)) (by decide)) (show (892 : Int32) < 896 by decide)))) (cwV 1 hts gX11_feed_X10_append rfl rfl rfl (by decide +kernel) ⟨Nat.le_of_ble_eq_true rfl, Nat.le_of_ble_eq_true rfl⟩) ⟨gBlind, va_recv hK hP (ci := 9) (q0 := 2) rfl (at_9 rfl), gStart (As := [.ref (ad 2), .int p3]) hP hD hK0 hT hS hF (d_10)⟩ rfl rfl hl.1 rfl (lv_room (Nat.le_of_ble_eq_true rfl)) dX11_feed_44 ⟨Nat.le_of_ble_eq_true rfl, Nat.le_of_ble_eq_true rfl⟩) hS (fun q _ h => hF q h) hF (fun σ4 t H locs ht hvm hw hB hz1 hk1 hS d_13 hd0 => ?_)
    have hts := dr_words hts0 (d_13)
    have hK := gKd hK0 (d_13)
    have hown : (s.setDrawn (d_13)).vm.findClass RX11 = some m.cls := hown0
    obtain ⟨hP, hD⟩ := gBack hF ht hB
    obtain ⟨hIσ4, fcσ4, hp_14⟩ := hw
    refine lv_aload hx hb dX11_feed_47 (lv_at hl 0 rfl) ?_
    refine lv_iload hx hb dX11_feed_49 (lv_at hl 6 rfl) ?_
    have hF := gFree hD hS hA
    refine va_callvD hd0 (va_runV_D (As := [.int p4]) (rest := []) ⟨hx, hb, hml, hown, hts⟩ (n_X10_appendF l dC dI ad cA adK adV H.size σ4 hIσ4 p4 (f4_le (c := 892) (d := 896) hp_14 (f4_le (c := 888) (d := 892) hp_11 (f4_le (c := 884) (d := 888) hp_8 (f4_le (c := 880) (d := 884) hp_5 c_2 (by decide)) (by decide)) (by decide)) (by decide))) (cwV 1 hts gX11_feed_X10_append rfl rfl rfl (by decide +kernel) ⟨Nat.le_of_ble_eq_true rfl, Nat.le_of_ble_eq_true rfl⟩) ⟨gBlind, va_recv hK hP (ci := 9) (q0 := 2) rfl (at_9 rfl), gStart (As := [.ref (ad 2), .int p4]) hP hD hK0 hT hS hF (d_13)⟩ rfl rfl hl.1 rfl (lv_room (Nat.le_of_ble_eq_true rfl)) dX11_feed_51 ⟨Nat.le_of_ble_eq_true rfl, Nat.le_of_ble_eq_true rfl⟩) hS (fun q _ h => hF q h) hF (fun σ5 t H locs ht hvm hw hB hz1 hk1 hS d_16 hd0 => ?_)
    have hts := dr_words hts0 (d_16)
    have hK := gKd hK0 (d_16)
    have hown : (s.setDrawn (d_16)).vm.findClass RX11 = some m.cls := hown0
    obtain ⟨hP, hD⟩ := gBack hF ht hB
    obtain ⟨hIσ5, fcσ5, hp_17⟩ := hw
    refine lv_aload hx hb dX11_feed_54 (lv_at hl 0 rfl) ?_
    have bd_18 := rd_9_1 (c := 2) hIσ5 rfl
    refine va_get (D := (dC, dI)) (ci := 9) (v := .int ((σ5 2).1 1)) (C := RX10) (T := TX10) (N := 7) hx hb hts hinX10 hown hK hP 2 (at_9 rfl) rfl 1 (by decide) (hts (.fieldLink RX11 88 "BondCalendars$Tape" "length" "I") (by decide +kernel)) (fun _ h9 => h9) rfl dX11_feed_56 ?_
    refine W.endD hd0 ?_
    exact W.iret (v := ((σ5 2).1 1)) hx hb hr (fun t ht hW => ⟨⟨((σ5 2).1 1), σ5, rfl, ⟨hIσ5, (gFr.tr (gFr.tr (gFr.tr (gFr.tr (gFr.tr (gFr.rfl (L := [9, 20]) (σ := σ)) fcσ1 (by decide)) fcσ2 (by decide)) fcσ3 (by decide)) fcσ4 (by decide)) fcσ5 (by decide)), (Or.inr ⟨c_2, by have w0 := hp_5; have w1 := hp_8; have w2 := hp_11; have w3 := hp_14; have w4 := hp_17; omega, rfl⟩)⟩, ⟨by rw [ht]; exact hP, hD⟩⟩, hS.F ht⟩) hS.2.2 dX11_feed_59
  · refine lv_iconst (v := (-1)) hx hb dX11_feed_20 (by decide) ?_
    refine W.endD hd0 ?_
    exact W.iret (v := (-1)) hx hb hr (fun t ht hW => ⟨⟨(-1), σ, rfl, ⟨hI, (gFr.rfl (L := [9, 20]) (σ := σ)), (Or.inl ⟨(Int32.not_le.mp c_2), rfl, rfl⟩)⟩, ⟨by rw [ht]; exact hP, hD⟩⟩, hS.F ht⟩) hS.2.2 dX11_feed_21
set_option maxHeartbeats 8000000 in
set_option maxRecDepth 100000 in
theorem n_X11_deskF (l : Launch) (dC : Nat → ClassId) (dI : Nat → Nat → Nat) (ad : Nat → Nat) (cA : Nat → ClassId) (adK adV : Nat → Nat) (sz : Nat) (σ : gs) (hI : InvX σ) (p0 : Int32) : MetD lw_cs l yX11_desk wsX11_desk ({ frames := 10, cells := 0, slots := 0, locals := 222 }) (va_Pc [.ref (ad 0), .int p0] (gPre adK adV (dC, dI) (wX ad cA σ) (tX cA) sz)) (va_Qi (fun (r : Int32) (τ : gs) => InvX τ ∧ gFr [0, 1, 3, 4, 5, 6, 7, 9, 10, 22, 24, 25, 27, 28, 30] σ τ ∧ (dkP p0 ((σ 2).1 1) ((τ 2).1 1))) (fun τ t => gPost (dC, dI) (va_A (wX ad cA σ) sz) (wX ad cA τ) t) (va_A (wX ad cA σ) sz)) 0 0 (va_A (wX ad cA σ) sz) := by
  refine MetD.ofW (cc := cX11_desk) (maxL := 3) (ret := (some .int)) (by decide) rfl ?_
  intro p e s m args below meth c s₁ B hml hv hd0
  obtain ⟨rfl, hsz, hP, hK, hD0, hT⟩ := hv
  have hx := B.exec
  have hb := B.bytes
  have hr := B.returns
  have hts0 := atoms_spec (ws := wsX11_desk) B.pre
  have hK0 := hK
  have hown0 : s.vm.findClass RX11 = some m.cls := findClass_of_methodNamed B.named
  have hlocks := B.notSynchronized
  have hinX11 : ∀ w ∈ u_ws RX11 TX11 15, w ∈ wsX11_desk := (fun _ h9 => List.mem_cons_of_mem _ (List.mem_append_left _ (List.mem_append_left _ (List.mem_append_left _ (List.mem_append_left _ (List.mem_append_left _ (List.mem_append_left _ (List.mem_append_left _ (List.mem_append_left _ (List.mem_append_right _ h9))))))))))
  have hinX7 : ∀ w ∈ u_ws RX7 TX7 5, w ∈ wsX11_desk := (fun _ h9 => List.mem_cons_of_mem _ (List.mem_append_left _ (List.mem_append_left _ (List.mem_append_left _ (List.mem_append_left _ (List.mem_append_left _ (List.mem_append_left _ (List.mem_append_left _ (List.mem_append_right _ h9)))))))))
  have hinX10 : ∀ w ∈ u_ws RX10 TX10 7, w ∈ wsX11_desk := (fun _ h9 => List.mem_cons_of_mem _ (List.mem_append_left _ (List.mem_append_left _ (List.mem_append_left _ (List.mem_append_left _ (List.mem_append_left _ (List.mem_append_left _ (List.mem_append_right _ h9))))))))
  have hinX4 : ∀ w ∈ u_ws RX4 TX4 12, w ∈ wsX11_desk := (fun _ h9 => List.mem_cons_of_mem _ (List.mem_append_left _ (List.mem_append_left _ (List.mem_append_left _ (List.mem_append_left _ (List.mem_append_left _ (List.mem_append_right _ h9)))))))
  subst hsz
  have hD := hD0.self (sz := s.heap.size)
  generalize hAe : va_A (wX ad cA σ) s.heap.size = A at hD hT ⊢
  have hA : ∀ q : Nat, s.heap.size ≤ q → A q := fun q h => by rw [← hAe]; exact Or.inr h
  have hS : va_S A s.heap s.heap [] := va_S.rf
  have hl := lv_entry ([.ref (ad 0), .int p0]) (n := 3) (Nat.le_of_ble_eq_true rfl)
  rw [lg_entry_eq]
  generalize (lg_sl ([.ref (ad 0), .int p0]) ++ List.replicate (3 - (lg_sl ([.ref (ad 0), .int p0])).length) Slot.unset).toArray = ls at hl ⊢
  have hl : lv_has ls 3 [(0, .ref (ad 0)), (1, .int p0)] := hl
  have hts := dr_words hts0 (s.drawn)
  have hK := gKd hK0 (s.drawn)
  have hown : (s.setDrawn (s.drawn)).vm.findClass RX11 = some m.cls := hown0
  refine lv_iload_n hx hb dX11_desk_0 rfl (lv_at hl 1 rfl) ?_
  refine lv_if_lt (tgt := 18) hx hb dX11_desk_1 (by decide) (fun c_1 => ?_) (fun c_1 => ?_)
  · refine lv_aload_n hx hb dX11_desk_18 rfl (lv_at hl 0 rfl) ?_
    refine lv_iconst (v := 2) hx hb dX11_desk_19 (by decide) ?_
    have hF := gFree hD hS hA
    refine va_calliD hd0 (va_runV_D (As := [.int 2]) (rest := []) ⟨hx, hb, hml, hown, hts⟩ (n_X11_refuse l dC dI ad cA adK adV s.heap.size σ hI 2) (cwV 1 hts gX11_desk_X11_refuse rfl rfl rfl (by decide +kernel) ⟨Nat.le_of_ble_eq_true rfl, Nat.le_of_ble_eq_true rfl⟩) ⟨gBlind, va_recv hK hP (ci := 10) (q0 := 0) rfl (at_10 rfl), gStart (As := [.ref (ad 0), .int 2]) hP hD hK0 hT hS hF (s.drawn)⟩ rfl rfl hl.1 rfl (lv_room (Nat.le_of_ble_eq_true rfl)) dX11_desk_20 ⟨Nat.le_of_ble_eq_true rfl, Nat.le_of_ble_eq_true rfl⟩) hS (fun q _ h => hF q h) hF (fun r_2 σ1 t H locs ht hvm hw hB hz1 hk1 hS d_3 hd0 => ?_)
    have hts := dr_words hts0 (d_3)
    have hK := gKd hK0 (d_3)
    have hown : (s.setDrawn (d_3)).vm.findClass RX11 = some m.cls := hown0
    obtain ⟨hP, hD⟩ := gBack hF ht hB
    obtain ⟨hIσ1, fcσ1, hp_4⟩ := hw
    refine W.endD hd0 ?_
    exact W.iret (v := r_2) hx hb hr (fun t ht hW => ⟨⟨r_2, σ1, rfl, ⟨hIσ1, (gFr.tr (gFr.rfl (L := [0, 1, 3, 4, 5, 6, 7, 9, 10, 22, 24, 25, 27, 28, 30]) (σ := σ)) fcσ1 (by decide)), (by unfold dkP; rw [if_pos c_1, fcσ1 2 (by decide)])⟩, ⟨by rw [ht]; exact hP, hD⟩⟩, hS.F ht⟩) hS.2.2 dX11_desk_23
  · refine lv_iload_n hx hb dX11_desk_4 rfl (lv_at hl 1 rfl) ?_
    refine lv_aload_n hx hb dX11_desk_5 rfl (lv_at hl 0 rfl) ?_
    refine va_get (D := (dC, dI)) (ci := 10) (v := .ref (ad 1)) (C := RX11) (T := TX11) (N := 15) hx hb hts hinX11 hown hK hP 0 (at_10 rfl) rfl 0 (by decide) (hts (.fieldLink RX11 10 "BondCalendars" "reader" "LBondCalendars$Reader;") (by decide +kernel)) (fun _ h9 => h9) rfl dX11_desk_6 ?_
    refine va_get (D := (dC, dI)) (ci := 6) (v := .ref (ad 2)) (C := RX7) (T := TX7) (N := 5) hx hb hts hinX7 hown hK hP 1 (at_6 rfl) rfl 0 (by decide) (hts (.fieldLink RX11 84 "BondCalendars$Reader" "tape" "LBondCalendars$Tape;") (by decide +kernel)) (fun _ h9 => h9) rfl dX11_desk_9 ?_
    have bd_5 := rd_9_1 (c := 2) hI rfl
    refine va_get (D := (dC, dI)) (ci := 9) (v := .int ((σ 2).1 1)) (C := RX10) (T := TX10) (N := 7) hx hb hts hinX10 hown hK hP 2 (at_9 rfl) rfl 1 (by decide) (hts (.fieldLink RX11 88 "BondCalendars$Tape" "length" "I") (by decide +kernel)) (fun _ h9 => h9) rfl dX11_desk_12 ?_
    refine lv_icmp_le (tgt := 24) hx hb dX11_desk_15 (by decide) (fun c_6 => ?_) (fun c_6 => ?_)
    · refine lv_aload_n hx hb dX11_desk_24 rfl (lv_at hl 0 rfl) ?_
      refine va_get (D := (dC, dI)) (ci := 10) (v := .ref (ad 1)) (C := RX11) (T := TX11) (N := 15) hx hb hts hinX11 hown hK hP 0 (at_10 rfl) rfl 0 (by decide) (hts (.fieldLink RX11 10 "BondCalendars" "reader" "LBondCalendars$Reader;") (by decide +kernel)) (fun _ h9 => h9) rfl dX11_desk_25 ?_
      refine lv_iload_n hx hb dX11_desk_28 rfl (lv_at hl 1 rfl) ?_
      refine lv_aload_n hx hb dX11_desk_29 rfl (lv_at hl 0 rfl) ?_
      obtain ⟨b_7, hb_8, q_9⟩ := rq_10_9 (c := 0) hI rfl
      refine va_get (D := (dC, dI)) (ci := 10) (v := .ref (ad b_7)) (C := RX11) (T := TX11) (N := 15) hx hb hts hinX11 hown hK hP 0 (at_10 rfl) rfl 9 (by decide) (hts (.fieldLink RX11 64 "BondCalendars" "draft" "LBondCalendars$Desk;") (by decide +kernel)) (fun _ h9 => h9) (by show some (va_re ad ((σ 0).2.2.2 9)) = _; rw [q_9]; rfl) dX11_desk_30 ?_
      have hF := gFree hD hS hA
      refine va_callvD hd0 (va_runV_D (As := [.int p0, .ref (ad b_7)]) (rest := []) ⟨hx, hb, hml, hown, hts⟩ (n_X7_read l dC dI ad cA adK adV s.heap.size σ hI p0 b_7 hb_8) (cwV 2 hts gX11_desk_X7_read rfl rfl rfl (by decide +kernel) ⟨Nat.le_of_ble_eq_true rfl, Nat.le_of_ble_eq_true rfl⟩) ⟨gBlind, va_recv hK hP (ci := 6) (q0 := 1) rfl (at_6 rfl), gStart (As := [.ref (ad 1), .int p0, .ref (ad b_7)]) hP hD hK0 hT hS hF (s.drawn)⟩ rfl rfl hl.1 rfl (lv_room (Nat.le_of_ble_eq_true rfl)) dX11_desk_33 ⟨Nat.le_of_ble_eq_true rfl, Nat.le_of_ble_eq_true rfl⟩) hS (fun q _ h => hF q h) hF (fun σ2 t H locs ht hvm hw hB hz1 hk1 hS d_11 hd0 => ?_)
      have hts := dr_words hts0 (d_11)
      have hK := gKd hK0 (d_11)
      have hown : (s.setDrawn (d_11)).vm.findClass RX11 = some m.cls := hown0
      obtain ⟨hP, hD⟩ := gBack hF ht hB
      obtain ⟨hIσ2, fcσ2, hp_12⟩ := hw
      refine lv_aload_n hx hb dX11_desk_36 rfl (lv_at hl 0 rfl) ?_
      refine va_get (D := (dC, dI)) (ci := 10) (v := .ref (ad 1)) (C := RX11) (T := TX11) (N := 15) hx hb hts hinX11 hown hK hP 0 (at_10 rfl) rfl 0 (by decide) (hts (.fieldLink RX11 10 "BondCalendars" "reader" "LBondCalendars$Reader;") (by decide +kernel)) (fun _ h9 => h9) rfl dX11_desk_37 ?_
      refine va_get (D := (dC, dI)) (ci := 6) (v := .ref (ad 2)) (C := RX7) (T := TX7) (N := 5) hx hb hts hinX7 hown hK hP 1 (at_6 rfl) rfl 0 (by decide) (hts (.fieldLink RX11 84 "BondCalendars$Reader" "tape" "LBondCalendars$Tape;") (by decide +kernel)) (fun _ h9 => h9) rfl dX11_desk_40 ?_
      refine lv_iconst (v := 0) hx hb dX11_desk_43 (by decide) ?_
      refine va_put (D := (dC, dI)) (ci := 9) (v := .int 0) (C := RX10) (T := TX10) (N := 7) hx hb hts hinX10 tyX10 tyX10_ok nmX10 hown hK hP hD hS 2 (at_9 rfl) rfl 1 (by decide) (hts (.fieldLink RX11 88 "BondCalendars$Tape" "length" "I") (by decide +kernel)) (fun _ h9 => h9) rfl (ty := .int) (by decide +kernel) rfl rfl (Nat.le_of_ble_eq_true rfl) dX11_desk_44 (fun H locs hP hD hS => ?_)
      obtain ⟨σ3, eσ3, hP, hD⟩ := gPut (se_9_1 rfl) hP hD
      have hIσ3 : InvX σ3 := by rw [eσ3]; exact inv_I hIσ2 (ok_9_1 rfl _ ⟨(show (0 : Int32) ≤ 0 by decide), (show (0 : Int32) ≤ 900 by decide)⟩)
      have frσ3 : gFr [0, 1, 3, 4, 5, 6, 7, 9, 10, 22, 24, 25, 27, 28, 30] σ σ3 := by rw [eσ3]; exact gFr.pI (gFr.tr (gFr.rfl (L := [0, 1, 3, 4, 5, 6, 7, 9, 10, 22, 24, 25, 27, 28, 30]) (σ := σ)) fcσ2 (by decide)) rfl (by decide)
      refine lv_aload_n hx hb dX11_desk_47 rfl (lv_at hl 0 rfl) ?_
      refine lv_aload_n hx hb dX11_desk_48 rfl (lv_at hl 0 rfl) ?_
      refine va_get (D := (dC, dI)) (ci := 10) (v := .ref (ad 1)) (C := RX11) (T := TX11) (N := 15) hx hb hts hinX11 hown hK hP 0 (at_10 rfl) rfl 0 (by decide) (hts (.fieldLink RX11 10 "BondCalendars" "reader" "LBondCalendars$Reader;") (by decide +kernel)) (fun _ h9 => h9) rfl dX11_desk_49 ?_
      refine va_get (D := (dC, dI)) (ci := 6) (v := .int ((σ2 1).1 1)) (C := RX7) (T := TX7) (N := 5) hx hb hts hinX7 hown hK hP 1 (at_6 rfl) rfl 1 (by decide) (hts (.fieldLink RX11 105 "BondCalendars$Reader" "faultNumber" "I") (by decide +kernel)) (fun _ h9 => h9) (congrArg (fun z => some (Value.int z)) (show (σ3 1).1 1 = ((σ2 1).1 1) from by rw [eσ3, gI_ne _ _ _ (by decide)])) dX11_desk_52 ?_
      refine va_put (D := (dC, dI)) (ci := 10) (v := .int ((σ2 1).1 1)) (C := RX11) (T := TX11) (N := 15) hx hb hts hinX11 tyX11 tyX11_ok nmX11 hown hK hP hD hS 0 (at_10 rfl) rfl 13 (by decide) (hts (.fieldLink RX11 78 "BondCalendars" "latestFault" "I") (by decide +kernel)) (fun _ h9 => h9) rfl (ty := .int) (by decide +kernel) rfl rfl (Nat.le_of_ble_eq_true rfl) dX11_desk_55 (fun H locs hP hD hS => ?_)
      obtain ⟨σ4, eσ4, hP, hD⟩ := gPut (se_10_13 rfl) hP hD
      have hIσ4 : InvX σ4 := by rw [eσ4]; exact inv_I hIσ3 (ok_10_13 rfl _)
      have frσ4 : gFr [0, 1, 3, 4, 5, 6, 7, 9, 10, 22, 24, 25, 27, 28, 30] σ σ4 := by rw [eσ4]; exact gFr.pI frσ3 rfl (by decide)
      refine lv_aload_n hx hb dX11_desk_58 rfl (lv_at hl 0 rfl) ?_
      refine lv_aload_n hx hb dX11_desk_59 rfl (lv_at hl 0 rfl) ?_
      refine va_get (D := (dC, dI)) (ci := 10) (v := .ref (ad 1)) (C := RX11) (T := TX11) (N := 15) hx hb hts hinX11 hown hK hP 0 (at_10 rfl) rfl 0 (by decide) (hts (.fieldLink RX11 10 "BondCalendars" "reader" "LBondCalendars$Reader;") (by decide +kernel)) (fun _ h9 => h9) rfl dX11_desk_60 ?_
      refine va_get (D := (dC, dI)) (ci := 6) (v := .int ((σ2 1).1 2)) (C := RX7) (T := TX7) (N := 5) hx hb hts hinX7 hown hK hP 1 (at_6 rfl) rfl 2 (by decide) (hts (.fieldLink RX11 108 "BondCalendars$Reader" "faultPlace" "I") (by decide +kernel)) (fun _ h9 => h9) (congrArg (fun z => some (Value.int z)) (show (σ4 1).1 2 = ((σ2 1).1 2) from by rw [eσ4, gI_ne _ _ _ (by decide), eσ3, gI_ne _ _ _ (by decide)])) dX11_desk_63 ?_
      refine va_put (D := (dC, dI)) (ci := 10) (v := .int ((σ2 1).1 2)) (C := RX11) (T := TX11) (N := 15) hx hb hts hinX11 tyX11 tyX11_ok nmX11 hown hK hP hD hS 0 (at_10 rfl) rfl 14 (by decide) (hts (.fieldLink RX11 81 "BondCalendars" "latestPlace" "I") (by decide +kernel)) (fun _ h9 => h9) rfl (ty := .int) (by decide +kernel) rfl rfl (Nat.le_of_ble_eq_true rfl) dX11_desk_66 (fun H locs hP hD hS => ?_)
      obtain ⟨σ5, eσ5, hP, hD⟩ := gPut (se_10_14 rfl) hP hD
      have hIσ5 : InvX σ5 := by rw [eσ5]; exact inv_I hIσ4 (ok_10_14 rfl _)
      have frσ5 : gFr [0, 1, 3, 4, 5, 6, 7, 9, 10, 22, 24, 25, 27, 28, 30] σ σ5 := by rw [eσ5]; exact gFr.pI frσ4 rfl (by decide)
      refine lv_aload_n hx hb dX11_desk_69 rfl (lv_at hl 0 rfl) ?_
      refine va_get (D := (dC, dI)) (ci := 10) (v := .int ((σ2 1).1 1)) (C := RX11) (T := TX11) (N := 15) hx hb hts hinX11 hown hK hP 0 (at_10 rfl) rfl 13 (by decide) (hts (.fieldLink RX11 78 "BondCalendars" "latestFault" "I") (by decide +kernel)) (fun _ h9 => h9) (congrArg (fun z => some (Value.int z)) (show (σ5 0).1 13 = ((σ2 1).1 1) from by rw [eσ5, gI_oth _ _ _ (by decide), eσ4, gI_self])) dX11_desk_70 ?_
      refine lv_if_eq (tgt := 82) hx hb dX11_desk_73 (by decide) (fun c_13 => ?_) (fun c_13 => ?_)
      · refine lv_aload_n hx hb dX11_desk_82 rfl (lv_at hl 0 rfl) ?_
        refine va_get (D := (dC, dI)) (ci := 10) (v := .ref (ad b_7)) (C := RX11) (T := TX11) (N := 15) hx hb hts hinX11 hown hK hP 0 (at_10 rfl) rfl 9 (by decide) (hts (.fieldLink RX11 64 "BondCalendars" "draft" "LBondCalendars$Desk;") (by decide +kernel)) (fun _ h9 => h9) (by show some (va_re ad ((σ5 0).2.2.2 9)) = _; rw [eσ5, gI_q, eσ4, gI_q, eσ3, gI_ne _ _ _ (by decide), fcσ2 0 (by decide), q_9]; rfl) dX11_desk_83 ?_
        have hF := gFree hD hS hA
        refine va_callvD hd0 (va_runV_D (As := []) (rest := []) ⟨hx, hb, hml, hown, hts⟩ (n_X4_layOut l dC dI ad cA adK adV H.size σ5 hIσ5 b_7 hb_8) (cwV 0 hts gX11_desk_X4_layOut rfl rfl rfl (by decide +kernel) ⟨Nat.le_of_ble_eq_true rfl, Nat.le_of_ble_eq_true rfl⟩) ⟨gBlind, va_recv hK hP (ci := 3) (q0 := b_7) rfl (at_3 hb_8), gStart (As := [.ref (ad b_7)]) hP hD hK0 hT hS hF (d_11)⟩ rfl rfl hl.1 rfl (lv_room (Nat.le_of_ble_eq_true rfl)) dX11_desk_86 ⟨Nat.le_of_ble_eq_true rfl, Nat.le_of_ble_eq_true rfl⟩) hS (fun q _ h => hF q h) hF (fun σ6 t H locs ht hvm hw hB hz1 hk1 hS d_15 hd0 => ?_)
        have hts := dr_words hts0 (d_15)
        have hK := gKd hK0 (d_15)
        have hown : (s.setDrawn (d_15)).vm.findClass RX11 = some m.cls := hown0
        obtain ⟨hP, hD⟩ := gBack hF ht hB
        obtain ⟨hIσ6, fcσ6, hp_16⟩ := hw
        refine lv_aload_n hx hb dX11_desk_89 rfl (lv_at hl 0 rfl) ?_
        obtain ⟨b_17, hb_18, q_19⟩ := rq_10_8 (c := 0) hI rfl
        refine va_get (D := (dC, dI)) (ci := 10) (v := .ref (ad b_17)) (C := RX11) (T := TX11) (N := 15) hx hb hts hinX11 hown hK hP 0 (at_10 rfl) rfl 8 (by decide) (hts (.fieldLink RX11 60 "BondCalendars" "live" "LBondCalendars$Desk;") (by decide +kernel)) (fun _ h9 => h9) (by show some (va_re ad ((σ6 0).2.2.2 8)) = _; rw [fcσ6 0 (by decide), eσ5, gI_q, eσ4, gI_q, eσ3, gI_ne _ _ _ (by decide), fcσ2 0 (by decide), q_19]; rfl) dX11_desk_90 ?_
        refine lv_astore_n (lv' := [(2, .ref (ad b_17)), (0, .ref (ad 0)), (1, .int p0)]) hx hb dX11_desk_93 rfl hl (by decide) rfl (fun ls hl => ?_)
        refine lv_aload_n hx hb dX11_desk_94 rfl (lv_at hl 1 rfl) ?_
        refine lv_aload_n hx hb dX11_desk_95 rfl (lv_at hl 1 rfl) ?_
        refine va_get (D := (dC, dI)) (ci := 10) (v := .ref (ad b_7)) (C := RX11) (T := TX11) (N := 15) hx hb hts hinX11 hown hK hP 0 (at_10 rfl) rfl 9 (by decide) (hts (.fieldLink RX11 64 "BondCalendars" "draft" "LBondCalendars$Desk;") (by decide +kernel)) (fun _ h9 => h9) (by show some (va_re ad ((σ6 0).2.2.2 9)) = _; rw [fcσ6 0 (by decide), eσ5, gI_q, eσ4, gI_q, eσ3, gI_ne _ _ _ (by decide), fcσ2 0 (by decide), q_9]; rfl) dX11_desk_96 ?_
        refine va_put (D := (dC, dI)) (ci := 10) (v := .ref (ad b_7)) (C := RX11) (T := TX11) (N := 15) hx hb hts hinX11 tyX11 tyX11_ok nmX11 hown hK hP hD hS 0 (at_10 rfl) rfl 8 (by decide) (hts (.fieldLink RX11 60 "BondCalendars" "live" "LBondCalendars$Desk;") (by decide +kernel)) (fun _ h9 => h9) rfl (ty := (.object "BondCalendars$Desk")) (by decide +kernel) rfl rfl (Nat.le_of_ble_eq_true rfl) dX11_desk_99 (fun H locs hP hD hS => ?_)
        obtain ⟨σ7, eσ7, hP, hD⟩ := gPut (se_10_8 rfl) hP hD
        have hIσ7 : InvX σ7 := by rw [eσ7]; exact inv_Q hIσ6 (okq_10_8 rfl hb_8)
        have frσ7 : gFr [0, 1, 3, 4, 5, 6, 7, 9, 10, 22, 24, 25, 27, 28, 30] σ σ7 := by rw [eσ7]; exact gFr.pQ (gFr.tr frσ5 fcσ6 (by decide)) rfl (by decide)
        refine lv_aload_n hx hb dX11_desk_102 rfl (lv_at hl 1 rfl) ?_
        refine lv_aload_n hx hb dX11_desk_103 rfl (lv_at hl 0 rfl) ?_
        refine va_put (D := (dC, dI)) (ci := 10) (v := .ref (ad b_17)) (C := RX11) (T := TX11) (N := 15) hx hb hts hinX11 tyX11 tyX11_ok nmX11 hown hK hP hD hS 0 (at_10 rfl) rfl 9 (by decide) (hts (.fieldLink RX11 64 "BondCalendars" "draft" "LBondCalendars$Desk;") (by decide +kernel)) (fun _ h9 => h9) rfl (ty := (.object "BondCalendars$Desk")) (by decide +kernel) rfl rfl (Nat.le_of_ble_eq_true rfl) dX11_desk_104 (fun H locs hP hD hS => ?_)
        obtain ⟨σ8, eσ8, hP, hD⟩ := gPut (se_10_9 rfl) hP hD
        have hIσ8 : InvX σ8 := by rw [eσ8]; exact inv_Q hIσ7 (okq_10_9 rfl hb_18)
        have frσ8 : gFr [0, 1, 3, 4, 5, 6, 7, 9, 10, 22, 24, 25, 27, 28, 30] σ σ8 := by rw [eσ8]; exact gFr.pQ frσ7 rfl (by decide)
        refine lv_aload_n hx hb dX11_desk_107 rfl (lv_at hl 1 rfl) ?_
        refine lv_iconst (v := 1) hx hb dX11_desk_108 (by decide) ?_
        refine va_put (D := (dC, dI)) (ci := 10) (v := .int 1) (C := RX11) (T := TX11) (N := 15) hx hb hts hinX11 tyX11 tyX11_ok nmX11 hown hK hP hD hS 0 (at_10 rfl) rfl 10 (by decide) (hts (.fieldLink RX11 67 "BondCalendars" "hasDesk" "Z") (by decide +kernel)) (fun _ h9 => h9) rfl (ty := .boolean) (by decide +kernel) (by decide +kernel) (by decide +kernel) (Nat.le_of_ble_eq_true rfl) dX11_desk_109 (fun H locs hP hD hS => ?_)
        obtain ⟨σ9, eσ9, hP, hD⟩ := gPut (se_10_10 rfl) hP hD
        have hIσ9 : InvX σ9 := by rw [eσ9]; exact inv_I hIσ8 (ok_10_10 rfl _)
        have frσ9 : gFr [0, 1, 3, 4, 5, 6, 7, 9, 10, 22, 24, 25, 27, 28, 30] σ σ9 := by rw [eσ9]; exact gFr.pI frσ8 rfl (by decide)
        refine lv_aload_n hx hb dX11_desk_112 rfl (lv_at hl 1 rfl) ?_
        refine lv_iconst (v := 0) hx hb dX11_desk_113 (by decide) ?_
        refine va_put (D := (dC, dI)) (ci := 10) (v := .int 0) (C := RX11) (T := TX11) (N := 15) hx hb hts hinX11 tyX11 tyX11_ok nmX11 hown hK hP hD hS 0 (at_10 rfl) rfl 11 (by decide) (hts (.fieldLink RX11 71 "BondCalendars" "hasKept" "Z") (by decide +kernel)) (fun _ h9 => h9) rfl (ty := .boolean) (by decide +kernel) (by decide +kernel) (by decide +kernel) (Nat.le_of_ble_eq_true rfl) dX11_desk_114 (fun H locs hP hD hS => ?_)
        obtain ⟨σ10, eσ10, hP, hD⟩ := gPut (se_10_11 rfl) hP hD
        have hIσ10 : InvX σ10 := by rw [eσ10]; exact inv_I hIσ9 (ok_10_11 rfl _)
        have frσ10 : gFr [0, 1, 3, 4, 5, 6, 7, 9, 10, 22, 24, 25, 27, 28, 30] σ σ10 := by rw [eσ10]; exact gFr.pI frσ9 rfl (by decide)
        refine lv_aload_n hx hb dX11_desk_117 rfl (lv_at hl 1 rfl) ?_
        refine va_get (D := (dC, dI)) (ci := 10) (v := .ref (ad 12)) (C := RX11) (T := TX11) (N := 15) hx hb hts hinX11 hown hK hP 0 (at_10 rfl) rfl 5 (by decide) (hts (.fieldLink RX11 47 "BondCalendars" "book" "LBondCalendars$Book;") (by decide +kernel)) (fun _ h9 => h9) rfl dX11_desk_118 ?_
        refine lv_aload_n hx hb dX11_desk_121 rfl (lv_at hl 1 rfl) ?_
        obtain ⟨b_20, hb_21, q_22⟩ := rq_10_8 (c := 0) hIσ8 rfl
        refine va_get (D := (dC, dI)) (ci := 10) (v := .ref (ad b_20)) (C := RX11) (T := TX11) (N := 15) hx hb hts hinX11 hown hK hP 0 (at_10 rfl) rfl 8 (by decide) (hts (.fieldLink RX11 60 "BondCalendars" "live" "LBondCalendars$Desk;") (by decide +kernel)) (fun _ h9 => h9) (by show some (va_re ad ((σ10 0).2.2.2 8)) = _; rw [eσ10, gI_q, eσ9, gI_q, q_22]; rfl) dX11_desk_122 ?_
        refine va_get (D := (dC, dI)) (ci := 3) (v := .int ((σ2 b_20).1 0)) (C := RX4) (T := TX4) (N := 12) hx hb hts hinX4 hown hK hP b_20 (at_3 hb_21) rfl 0 (by decide) (hts (.fieldLink RX11 114 "BondCalendars$Desk" "startDay" "I") (by decide +kernel)) (fun _ h9 => h9) (congrArg (fun z => some (Value.int z)) (show (σ10 b_20).1 0 = ((σ2 b_20).1 0) from by rw [eσ10, gI_ne _ _ _ (kne hb_21 rfl (by decide)), eσ9, gI_ne _ _ _ (kne hb_21 rfl (by decide)), eσ8, gQ_ne _ _ _ (kne hb_21 rfl (by decide)), eσ7, gQ_ne _ _ _ (kne hb_21 rfl (by decide)), fcσ6 b_20 (by rw [hb_21]; decide), eσ5, gI_ne _ _ _ (kne hb_21 rfl (by decide)), eσ4, gI_ne _ _ _ (kne hb_21 rfl (by decide)), eσ3, gI_ne _ _ _ (kne hb_21 rfl (by decide))])) dX11_desk_125 ?_
        refine lv_aload_n hx hb dX11_desk_128 rfl (lv_at hl 1 rfl) ?_
        refine va_get (D := (dC, dI)) (ci := 10) (v := .ref (ad b_20)) (C := RX11) (T := TX11) (N := 15) hx hb hts hinX11 hown hK hP 0 (at_10 rfl) rfl 8 (by decide) (hts (.fieldLink RX11 60 "BondCalendars" "live" "LBondCalendars$Desk;") (by decide +kernel)) (fun _ h9 => h9) (by show some (va_re ad ((σ10 0).2.2.2 8)) = _; rw [eσ10, gI_q, eσ9, gI_q, q_22]; rfl) dX11_desk_129 ?_
        refine va_get (D := (dC, dI)) (ci := 3) (v := .int ((σ2 b_20).1 1)) (C := RX4) (T := TX4) (N := 12) hx hb hts hinX4 hown hK hP b_20 (at_3 hb_21) rfl 1 (by decide) (hts (.fieldLink RX11 117 "BondCalendars$Desk" "startCash" "I") (by decide +kernel)) (fun _ h9 => h9) (congrArg (fun z => some (Value.int z)) (show (σ10 b_20).1 1 = ((σ2 b_20).1 1) from by rw [eσ10, gI_ne _ _ _ (kne hb_21 rfl (by decide)), eσ9, gI_ne _ _ _ (kne hb_21 rfl (by decide)), eσ8, gQ_ne _ _ _ (kne hb_21 rfl (by decide)), eσ7, gQ_ne _ _ _ (kne hb_21 rfl (by decide)), fcσ6 b_20 (by rw [hb_21]; decide), eσ5, gI_ne _ _ _ (kne hb_21 rfl (by decide)), eσ4, gI_ne _ _ _ (kne hb_21 rfl (by decide)), eσ3, gI_ne _ _ _ (kne hb_21 rfl (by decide))])) dX11_desk_132 ?_
        have hF := gFree hD hS hA
        refine va_callvD hd0 (va_runV_D (As := [.int ((σ2 b_20).1 0), .int ((σ2 b_20).1 1)]) (rest := []) ⟨hx, hb, hml, hown, hts⟩ (n_X1_open l dC dI ad cA adK adV H.size σ10 hIσ10 12 rfl ((σ2 b_20).1 0) ((σ2 b_20).1 1)) (cwV 2 hts gX11_desk_X1_open rfl rfl rfl (by decide +kernel) ⟨Nat.le_of_ble_eq_true rfl, Nat.le_of_ble_eq_true rfl⟩) ⟨gBlind, va_recv hK hP (ci := 1) (q0 := 12) rfl (at_1 rfl), gStart (As := [.ref (ad 12), .int ((σ2 b_20).1 0), .int ((σ2 b_20).1 1)]) hP hD hK0 hT hS hF (d_15)⟩ rfl rfl hl.1 rfl (lv_room (Nat.le_of_ble_eq_true rfl)) dX11_desk_135 ⟨Nat.le_of_ble_eq_true rfl, Nat.le_of_ble_eq_true rfl⟩) hS (fun q _ h => hF q h) hF (fun σ11 t H locs ht hvm hw hB hz1 hk1 hS d_24 hd0 => ?_)
        have hts := dr_words hts0 (d_24)
        have hK := gKd hK0 (d_24)
        have hown : (s.setDrawn (d_24)).vm.findClass RX11 = some m.cls := hown0
        obtain ⟨hP, hD⟩ := gBack hF ht hB
        obtain ⟨hIσ11, fcσ11, hp_25⟩ := hw
        refine lv_aload_n hx hb dX11_desk_138 rfl (lv_at hl 1 rfl) ?_
        refine lv_iconst (v := 0) hx hb dX11_desk_139 (by decide) ?_
        refine va_put (D := (dC, dI)) (ci := 10) (v := .int 0) (C := RX11) (T := TX11) (N := 15) hx hb hts hinX11 tyX11 tyX11_ok nmX11 hown hK hP hD hS 0 (at_10 rfl) rfl 12 (by decide) (hts (.fieldLink RX11 74 "BondCalendars" "refusal" "I") (by decide +kernel)) (fun _ h9 => h9) rfl (ty := .int) (by decide +kernel) rfl rfl (Nat.le_of_ble_eq_true rfl) dX11_desk_140 (fun H locs hP hD hS => ?_)
        obtain ⟨σ12, eσ12, hP, hD⟩ := gPut (se_10_12 rfl) hP hD
        have hIσ12 : InvX σ12 := by rw [eσ12]; exact inv_I hIσ11 (ok_10_12 rfl _)
        have frσ12 : gFr [0, 1, 3, 4, 5, 6, 7, 9, 10, 22, 24, 25, 27, 28, 30] σ σ12 := by rw [eσ12]; exact gFr.pI (gFr.tr frσ10 fcσ11 (by decide)) rfl (by decide)
        refine lv_aload_n hx hb dX11_desk_143 rfl (lv_at hl 1 rfl) ?_
        refine va_get (D := (dC, dI)) (ci := 10) (v := .ref (ad b_20)) (C := RX11) (T := TX11) (N := 15) hx hb hts hinX11 hown hK hP 0 (at_10 rfl) rfl 8 (by decide) (hts (.fieldLink RX11 60 "BondCalendars" "live" "LBondCalendars$Desk;") (by decide +kernel)) (fun _ h9 => h9) (by show some (va_re ad ((σ12 0).2.2.2 8)) = _; rw [eσ12, gI_q, fcσ11 0 (by decide), eσ10, gI_q, eσ9, gI_q, q_22]; rfl) dX11_desk_144 ?_
        refine va_get (D := (dC, dI)) (ci := 3) (v := .int ((σ2 b_20).1 4)) (C := RX4) (T := TX4) (N := 12) hx hb hts hinX4 hown hK hP b_20 (at_3 hb_21) rfl 4 (by decide) (hts (.fieldLink RX11 124 "BondCalendars$Desk" "bondCount" "I") (by decide +kernel)) (fun _ h9 => h9) (congrArg (fun z => some (Value.int z)) (show (σ12 b_20).1 4 = ((σ2 b_20).1 4) from by rw [eσ12, gI_ne _ _ _ (kne hb_21 rfl (by decide)), fcσ11 b_20 (by rw [hb_21]; decide), eσ10, gI_ne _ _ _ (kne hb_21 rfl (by decide)), eσ9, gI_ne _ _ _ (kne hb_21 rfl (by decide)), eσ8, gQ_ne _ _ _ (kne hb_21 rfl (by decide)), eσ7, gQ_ne _ _ _ (kne hb_21 rfl (by decide)), fcσ6 b_20 (by rw [hb_21]; decide), eσ5, gI_ne _ _ _ (kne hb_21 rfl (by decide)), eσ4, gI_ne _ _ _ (kne hb_21 rfl (by decide)), eσ3, gI_ne _ _ _ (kne hb_21 rfl (by decide))])) dX11_desk_147 ?_
        refine W.endD hd0 ?_
        exact W.iret (v := ((σ2 b_20).1 4)) hx hb hr (fun t ht hW => ⟨⟨((σ2 b_20).1 4), σ12, rfl, ⟨hIσ12, frσ12, (by unfold dkP; rw [if_neg (Int32.not_lt.mpr (Int32.not_lt.mp c_1)), if_neg (Int32.not_lt.mpr c_6), eσ12, gI_ne _ _ _ (by decide), fcσ11 2 (by decide), eσ10, gI_ne _ _ _ (by decide), eσ9, gI_ne _ _ _ (by decide), eσ8, gQ_ne _ _ _ (by decide), eσ7, gQ_ne _ _ _ (by decide), fcσ6 2 (by decide), eσ5, gI_ne _ _ _ (by decide), eσ4, gI_ne _ _ _ (by decide), eσ3, gI_self])⟩, ⟨by rw [ht]; exact hP, hD⟩⟩, hS.F ht⟩) hS.2.2 dX11_desk_150
      · refine lv_aload_n hx hb dX11_desk_76 rfl (lv_at hl 0 rfl) ?_
        refine lv_iconst (v := 4) hx hb dX11_desk_77 (by decide) ?_
        have hF := gFree hD hS hA
        refine va_calliD hd0 (va_runV_D (As := [.int 4]) (rest := []) ⟨hx, hb, hml, hown, hts⟩ (n_X11_refuse l dC dI ad cA adK adV H.size σ5 hIσ5 4) (cwV 1 hts gX11_desk_X11_refuse rfl rfl rfl (by decide +kernel) ⟨Nat.le_of_ble_eq_true rfl, Nat.le_of_ble_eq_true rfl⟩) ⟨gBlind, va_recv hK hP (ci := 10) (q0 := 0) rfl (at_10 rfl), gStart (As := [.ref (ad 0), .int 4]) hP hD hK0 hT hS hF (d_11)⟩ rfl rfl hl.1 rfl (lv_room (Nat.le_of_ble_eq_true rfl)) dX11_desk_78 ⟨Nat.le_of_ble_eq_true rfl, Nat.le_of_ble_eq_true rfl⟩) hS (fun q _ h => hF q h) hF (fun r_26 σ13 t H locs ht hvm hw hB hz1 hk1 hS d_27 hd0 => ?_)
        have hts := dr_words hts0 (d_27)
        have hK := gKd hK0 (d_27)
        have hown : (s.setDrawn (d_27)).vm.findClass RX11 = some m.cls := hown0
        obtain ⟨hP, hD⟩ := gBack hF ht hB
        obtain ⟨hIσ13, fcσ13, hp_28⟩ := hw
        refine W.endD hd0 ?_
        exact W.iret (v := r_26) hx hb hr (fun t ht hW => ⟨⟨r_26, σ13, rfl, ⟨hIσ13, (gFr.tr frσ5 fcσ13 (by decide)), (by unfold dkP; rw [if_neg (Int32.not_lt.mpr (Int32.not_lt.mp c_1)), if_neg (Int32.not_lt.mpr c_6), fcσ13 2 (by decide), eσ5, gI_ne _ _ _ (by decide), eσ4, gI_ne _ _ _ (by decide), eσ3, gI_self])⟩, ⟨by rw [ht]; exact hP, hD⟩⟩, hS.F ht⟩) hS.2.2 dX11_desk_81
    · refine lv_aload_n hx hb dX11_desk_18 rfl (lv_at hl 0 rfl) ?_
      refine lv_iconst (v := 2) hx hb dX11_desk_19 (by decide) ?_
      have hF := gFree hD hS hA
      refine va_calliD hd0 (va_runV_D (As := [.int 2]) (rest := []) ⟨hx, hb, hml, hown, hts⟩ (n_X11_refuse l dC dI ad cA adK adV s.heap.size σ hI 2) (cwV 1 hts gX11_desk_X11_refuse rfl rfl rfl (by decide +kernel) ⟨Nat.le_of_ble_eq_true rfl, Nat.le_of_ble_eq_true rfl⟩) ⟨gBlind, va_recv hK hP (ci := 10) (q0 := 0) rfl (at_10 rfl), gStart (As := [.ref (ad 0), .int 2]) hP hD hK0 hT hS hF (s.drawn)⟩ rfl rfl hl.1 rfl (lv_room (Nat.le_of_ble_eq_true rfl)) dX11_desk_20 ⟨Nat.le_of_ble_eq_true rfl, Nat.le_of_ble_eq_true rfl⟩) hS (fun q _ h => hF q h) hF (fun r_29 σ14 t H locs ht hvm hw hB hz1 hk1 hS d_30 hd0 => ?_)
      have hts := dr_words hts0 (d_30)
      have hK := gKd hK0 (d_30)
      have hown : (s.setDrawn (d_30)).vm.findClass RX11 = some m.cls := hown0
      obtain ⟨hP, hD⟩ := gBack hF ht hB
      obtain ⟨hIσ14, fcσ14, hp_31⟩ := hw
      refine W.endD hd0 ?_
      exact W.iret (v := r_29) hx hb hr (fun t ht hW => ⟨⟨r_29, σ14, rfl, ⟨hIσ14, (gFr.tr (gFr.rfl (L := [0, 1, 3, 4, 5, 6, 7, 9, 10, 22, 24, 25, 27, 28, 30]) (σ := σ)) fcσ14 (by decide)), (by unfold dkP; rw [if_neg (Int32.not_lt.mpr (Int32.not_lt.mp c_1)), if_pos (Int32.not_le.mp c_6), fcσ14 2 (by decide)])⟩, ⟨by rw [ht]; exact hP, hD⟩⟩, hS.F ht⟩) hS.2.2 dX11_desk_23
theorem fd_gt {t x : Int32} (h0 : 0 ≤ t) (hm : t ≤ 900) (e : x = t + 20) (h : 900 < x) : 880 < t := by
  have a := Int32.le_iff_toInt_le.mp h0
  have c := Int32.le_iff_toInt_le.mp hm
  have d := Int32.lt_iff_toInt_lt.mp h
  have b0 : (0 : Int32).toInt = 0 := by decide
  have b9 : (900 : Int32).toInt = 900 := by decide
  have b2 : (20 : Int32).toInt = 20 := by decide
  have e1 : x.toInt = t.toInt + 20 := by rw [e]; exact i3_add rfl b2 (by omega) (by omega)
  exact Int32.lt_iff_toInt_lt.mpr (show (880 : Int) < t.toInt by omega)
theorem fd_20 {a b i : Int32} (h : b.toInt = a.toInt + i.toInt) (h1 : 20 ≤ i) (h2 : i ≤ 20) : b.toInt = a.toInt + 20 := by
  have c : 20 ≤ i.toInt := Int32.le_iff_toInt_le.mp h1
  have d : i.toInt ≤ 20 := Int32.le_iff_toInt_le.mp h2
  omega
theorem fd_e {a b i : Int32} (hb : b ≤ 880 + i) (h : b.toInt = a.toInt + i.toInt) (h1 : 20 ≤ i) (h2 : i ≤ 20) : a ≤ 880 := by
  have c : 20 ≤ i.toInt := Int32.le_iff_toInt_le.mp h1
  have d : i.toInt ≤ 20 := Int32.le_iff_toInt_le.mp h2
  have e := Int32.le_iff_toInt_le.mp hb
  have b8 : (880 : Int32).toInt = 880 := by decide
  have f : (880 + i).toInt = 880 + i.toInt := i3_add b8 rfl (by omega) (by omega)
  exact Int32.le_iff_toInt_le.mpr (show a.toInt ≤ (880 : Int) by omega)

set_option maxHeartbeats 8000000 in
set_option maxRecDepth 100000 in
theorem n_X12_feedF (l : Launch) (dC : Nat → ClassId) (dI : Nat → Nat → Nat) (ad : Nat → Nat) (cA : Nat → ClassId) (adK adV : Nat → Nat) (sz : Nat) (σ : gs) (hI : InvM σ) (p0 : Int32) (p1 : Int32) (p2 : Int32) (p3 : Int32) (p4 : Int32) : MetD lw_cs l yX12_feed wsX12_feed ({ frames := 0, cells := 0, slots := 0, locals := 0 }) (va_Pc [.ref (ad 0), .int p0, .int p1, .int p2, .int p3, .int p4] (gPre adK adV (dC, dI) (wM ad cA σ) (tM cA) sz)) (va_Qi (fun (r : Int32) (τ : gs) => InvM τ ∧ mFr [56] [0, 31] σ τ ∧ (fdP ((σ 0).1 31) ((τ 0).1 31) r)) (fun τ t => gPost (dC, dI) (va_A (wM ad cA σ) sz) (wM ad cA τ) t) (va_A (wM ad cA σ) sz)) 0 0 (va_A (wM ad cA σ) sz) := by
  refine MetD.ofW (cc := cX12_feed) (maxL := 8) (ret := (some .int)) (by decide) rfl ?_
  intro p e s m args below meth c s₁ B hml hv hd0
  obtain ⟨rfl, hsz, hP, hK, hD0, hT⟩ := hv
  have hx := B.exec
  have hb := B.bytes
  have hr := B.returns
  have hts0 := atoms_spec (ws := wsX12_feed) B.pre
  have hK0 := hK
  have hown0 : s.vm.findClass RX12 = some m.cls := findClass_of_methodNamed B.named
  have hlocks := B.notSynchronized
  have hinX12 : ∀ w ∈ u_ws RX12 TX12 69, w ∈ wsX12_feed := (fun _ h9 => List.mem_cons_of_mem _ (List.mem_append_right _ h9))
  subst hsz
  have hD := hD0.self (sz := s.heap.size)
  generalize hAe : va_A (wM ad cA σ) s.heap.size = A at hD hT ⊢
  have hA : ∀ q : Nat, s.heap.size ≤ q → A q := fun q h => by rw [← hAe]; exact Or.inr h
  have hS : va_S A s.heap s.heap [] := va_S.rf
  have hl := lv_entry ([.ref (ad 0), .int p0, .int p1, .int p2, .int p3, .int p4]) (n := 8) (Nat.le_of_ble_eq_true rfl)
  rw [lg_entry_eq]
  generalize (lg_sl ([.ref (ad 0), .int p0, .int p1, .int p2, .int p3, .int p4]) ++ List.replicate (8 - (lg_sl ([.ref (ad 0), .int p0, .int p1, .int p2, .int p3, .int p4])).length) Slot.unset).toArray = ls at hl ⊢
  have hl : lv_has ls 8 [(0, .ref (ad 0)), (1, .int p0), (2, .int p1), (3, .int p2), (4, .int p3), (5, .int p4)] := hl
  have hts := dr_words hts0 (s.drawn)
  have hK := gKd hK0 (s.drawn)
  have hown : (s.setDrawn (s.drawn)).vm.findClass RX12 = some m.cls := hown0
  refine lv_aload_n hx hb dX12_feed_0 rfl (lv_at hl 0 rfl) ?_
  refine lv_iconst (v := 0) hx hb dX12_feed_1 (by decide) ?_
  refine va_put (D := (dC, dI)) (ci := 11) (v := .int 0) (C := RX12) (T := TX12) (N := 69) hx hb hts hinX12 tyX12 tyX12_ok nmX12 hown hK hP hD hS 0 (mat_11 rfl) rfl 0 (by decide) (hts (.fieldLink RX12 107 "BondCalendarsModel" "thrown" "I") (by decide +kernel)) (fun _ h9 => h9) rfl (ty := .int) (by decide +kernel) rfl rfl (Nat.le_of_ble_eq_true rfl) dX12_feed_2 (fun H locs hP hD hS => ?_)
  obtain ⟨σ1, eσ1, hP, hD⟩ := gPut (mse_11_0 rfl) hP hD
  have hIσ1 : InvM σ1 := by rw [eσ1]; exact minv_I hI (mok_11_0 rfl _)
  have frσ1 : mFr [56] [0, 31] σ σ1 := by rw [eσ1]; exact mFr.oI (mFr.rfl (L := [56]) (F := [0, 31]) (σ := σ)) (by decide)
  refine lv_aload_n hx hb dX12_feed_5 rfl (lv_at hl 0 rfl) ?_
  have bd_1 := mrd_11_31 (c := 0) hI rfl
  refine va_get (D := (dC, dI)) (ci := 11) (v := .int ((σ 0).1 31)) (C := RX12) (T := TX12) (N := 69) hx hb hts hinX12 hown hK hP 0 (mat_11 rfl) rfl 31 (by decide) (hts (.fieldLink RX12 349 "BondCalendarsModel" "taped" "I") (by decide +kernel)) (fun _ h9 => h9) (congrArg (fun z => some (Value.int z)) (show (σ1 0).1 31 = ((σ 0).1 31) from by rw [eσ1, gI_oth _ _ _ (by decide)])) dX12_feed_6 ?_
  refine lv_bipush (v := 20) hx hb dX12_feed_9 (by decide) ?_
  refine lv_iadd hx hb dX12_feed_11 ?_
  refine lv_topi (fun x_2 ex_2 => ?_)
  refine lv_sipush (v := 900) hx hb dX12_feed_12 (by decide) ?_
  refine lv_icmp_le (tgt := 20) hx hb dX12_feed_15 (by decide) (fun c_3 => ?_) (fun c_3 => ?_)
  · refine lv_iconst (v := 0) hx hb dX12_feed_20 (by decide) ?_
    refine lv_istore (lv' := [(6, .int 0), (0, .ref (ad 0)), (1, .int p0), (2, .int p1), (3, .int p2), (4, .int p3), (5, .int p4)]) hx hb dX12_feed_21 hl (by decide) rfl (fun ls hl => ?_)
    refine (fun (h : ∀ (n : Nat) (i6 : Int32) (σ23x : gs) (d23 : Drawn) (H : Heap) (locs : List Loc) (ls : Array Slot), ((20 : Int32).toInt - i6.toInt).toNat < n → 0 ≤ i6 → (σ23x 0).1 31 ≤ 880 + i6 → ((σ23x 0).1 31).toInt = ((σ 0).1 31).toInt + i6.toInt → i6 ≤ 20 → InvM σ23x → mFr [56] [0, 31] σ σ23x → s.drawn.sameBut d23 lw_cs → va_P (dC, dI) vwCl (wM ad cA σ23x) H → va_D A (wM ad cA σ23x) → va_S A s.heap H locs → lv_has ls 8 [(6, .int i6), (0, .ref (ad 0)), (1, .int p0), (2, .int p1), (3, .int p2), (4, .int p3), (5, .int p4)] → W p l e _ (s.setDrawn d23) m _ below meth c H locs _ _ _ (F0 m 23 ls [])) => h _ 0 σ1 _ _ _ _ (Nat.lt_succ_self _) (by decide) (by rw [eσ1, gI_oth _ _ _ (by decide)]; exact (fd_0 bd_1.1 bd_1.2 c_3 ex_2)) (show ((σ1 0).1 31).toInt = ((σ 0).1 31).toInt + (0 : Int32).toInt from by rw [(show ((σ1 0).1 31 : Int32) = ((σ 0).1 31 : Int32) from by rw [eσ1, gI_oth _ _ _ (by decide)])]; exact (Int.add_zero _).symm) (by decide) hIσ1 frσ1 hd0 hP hD hS (lv_sub hl [0, 1, 2, 3, 4, 5, 6] rfl)) ?_
    intro n23
    induction n23 with
    | zero => intro i6 σ23x d23 H locs ls hm; exact absurd hm (Nat.not_lt_zero _)
    | succ n23 ih23 =>
      intro i6 σ23x d23 H locs ls hm23 iv23_0 iv23_1 iv23_2 iv23_3 hIσ23x frσ23x hd0 hP hD hS hl
      have hts := dr_words hts0 (d23)
      have hK := gKd hK0 (d23)
      have hown : (s.setDrawn (d23)).vm.findClass RX12 = some m.cls := hown0
      refine lv_iload hx hb dX12_feed_23 (lv_at hl 0 rfl) ?_
      refine lv_bipush (v := 20) hx hb dX12_feed_25 (by decide) ?_
      refine lv_icmp_ge (tgt := 117) hx hb dX12_feed_27 (by decide) (fun c_4 => ?_) (fun c_4 => ?_)
      · refine lv_aload_n hx hb dX12_feed_117 rfl (lv_at hl 1 rfl) ?_
        have bd_5 := mrd_11_31 (c := 0) hIσ23x rfl
        refine va_get (D := (dC, dI)) (ci := 11) (v := .int ((σ23x 0).1 31)) (C := RX12) (T := TX12) (N := 69) hx hb hts hinX12 hown hK hP 0 (mat_11 rfl) rfl 31 (by decide) (hts (.fieldLink RX12 349 "BondCalendarsModel" "taped" "I") (by decide +kernel)) (fun _ h9 => h9) rfl dX12_feed_118 ?_
        refine W.endD hd0 ?_
        exact W.iret (v := ((σ23x 0).1 31)) hx hb hr (fun t ht hW => ⟨⟨((σ23x 0).1 31), σ23x, rfl, ⟨hIσ23x, frσ23x, (Or.inr ⟨fd_e iv23_1 iv23_2 c_4 iv23_3, fd_20 iv23_2 c_4 iv23_3, rfl⟩)⟩, ⟨by rw [ht]; exact hP, hD⟩⟩, hS.F ht⟩) hS.2.2 dX12_feed_121
      · refine lv_iload hx hb dX12_feed_30 (lv_at hl 0 rfl) ?_
        refine lv_iconst (v := 4) hx hb dX12_feed_32 (by decide) ?_
        refine lv_icmp_ge (tgt := 40) hx hb dX12_feed_33 (by decide) (fun c_6 => ?_) (fun c_6 => ?_)
        · refine lv_iload hx hb dX12_feed_40 (lv_at hl 0 rfl) ?_
          refine lv_bipush (v := 8) hx hb dX12_feed_42 (by decide) ?_
          refine lv_icmp_ge (tgt := 51) hx hb dX12_feed_44 (by decide) (fun c_7 => ?_) (fun c_7 => ?_)
          · refine lv_iload hx hb dX12_feed_51 (lv_at hl 0 rfl) ?_
            refine lv_bipush (v := 12) hx hb dX12_feed_53 (by decide) ?_
            refine lv_icmp_ge (tgt := 62) hx hb dX12_feed_55 (by decide) (fun c_8 => ?_) (fun c_8 => ?_)
            · refine lv_iload hx hb dX12_feed_62 (lv_at hl 0 rfl) ?_
              refine lv_bipush (v := 16) hx hb dX12_feed_64 (by decide) ?_
              refine lv_icmp_ge (tgt := 74) hx hb dX12_feed_66 (by decide) (fun c_9 => ?_) (fun c_9 => ?_)
              · refine lv_iload hx hb dX12_feed_74 (lv_at hl 6 rfl) ?_
                refine lv_istore (lv' := [(7, .int p4), (6, .int i6), (0, .ref (ad 0)), (1, .int p0), (2, .int p1), (3, .int p2), (4, .int p3), (5, .int p4)]) hx hb dX12_feed_76 hl (by decide) rfl (fun ls hl => ?_)
                refine lv_aload_n hx hb dX12_feed_78 rfl (lv_at hl 2 rfl) ?_
                refine va_get (D := (dC, dI)) (ci := 11) (v := .ref (ad 16)) (C := RX12) (T := TX12) (N := 69) hx hb hts hinX12 hown hK hP 0 (mat_11 rfl) rfl 30 (by decide) (hts (.fieldLink RX12 60 "BondCalendarsModel" "tape" "[B") (by decide +kernel)) (fun _ h9 => h9) rfl dX12_feed_79 ?_
                refine lv_aload_n hx hb dX12_feed_82 rfl (lv_at hl 2 rfl) ?_
                have bd_10 := mrd_11_31 (c := 0) hIσ23x rfl
                refine va_get (D := (dC, dI)) (ci := 11) (v := .int ((σ23x 0).1 31)) (C := RX12) (T := TX12) (N := 69) hx hb hts hinX12 hown hK hP 0 (mat_11 rfl) rfl 31 (by decide) (hts (.fieldLink RX12 349 "BondCalendarsModel" "taped" "I") (by decide +kernel)) (fun _ h9 => h9) rfl dX12_feed_83 ?_
                refine lv_iload hx hb dX12_feed_86 (lv_at hl 0 rfl) ?_
                refine lv_bipush (v := 24) hx hb dX12_feed_88 (by decide) ?_
                refine lv_bipush (v := 8) hx hb dX12_feed_90 (by decide) ?_
                refine lv_iload hx hb dX12_feed_92 (lv_at hl 1 rfl) ?_
                refine lv_iconst (v := 4) hx hb dX12_feed_94 (by decide) ?_
                refine lv_irem hx hb dX12_feed_95 (by decide) ?_
                refine lv_topi (fun x_11 ex_11 => ?_)
                refine lv_imul hx hb dX12_feed_96 ?_
                refine lv_topi (fun x_12 ex_12 => ?_)
                refine lv_isub hx hb dX12_feed_97 ?_
                refine lv_topi (fun x_13 ex_13 => ?_)
                refine lv_ishr hx hb dX12_feed_98 ?_
                refine lv_topi (fun x_14 _ => ?_)
                refine lv_i2b hx hb dX12_feed_99 rfl ?_
                refine lv_topi (fun x_15 _ => ?_)
                refine va_bast hx hb hK hP hD hS 16 16 (mat_56 rfl) (mty_56 rfl) (gin (N := 900) (by decide) bd_10.1 (fd_l iv23_1 bd_10.1 iv23_0 (Int32.not_le.mp c_4))) dX12_feed_100 (fun H locs hP hD hS => ?_)
                obtain ⟨σ2, eσ2, hP, hD⟩ := gPut (mse_56 rfl) hP hD
                have hIσ2 : InvM σ2 := by rw [eσ2]; exact minv_I hIσ23x (mok_56 rfl _ _)
                have frσ2 : mFr [56] [0, 31] σ σ2 := by rw [eσ2]; exact mFr.aI frσ23x (by decide) (by decide)
                refine lv_aload_n hx hb dX12_feed_101 rfl (lv_at hl 2 rfl) ?_
                refine lv_dup hx hb dX12_feed_102 rfl ?_
                refine va_get (D := (dC, dI)) (ci := 11) (v := .int ((σ23x 0).1 31)) (C := RX12) (T := TX12) (N := 69) hx hb hts hinX12 hown hK hP 0 (mat_11 rfl) rfl 31 (by decide) (hts (.fieldLink RX12 349 "BondCalendarsModel" "taped" "I") (by decide +kernel)) (fun _ h9 => h9) (congrArg (fun z => some (Value.int z)) (show (σ2 0).1 31 = ((σ23x 0).1 31) from by rw [eσ2, gI_ne _ _ _ (by decide)])) dX12_feed_103 ?_
                refine lv_iconst (v := 1) hx hb dX12_feed_106 (by decide) ?_
                refine lv_iadd hx hb dX12_feed_107 ?_
                refine lv_topi (fun x_16 ex_16 => ?_)
                refine va_put (D := (dC, dI)) (ci := 11) (v := .int x_16) (C := RX12) (T := TX12) (N := 69) hx hb hts hinX12 tyX12 tyX12_ok nmX12 hown hK hP hD hS 0 (mat_11 rfl) rfl 31 (by decide) (hts (.fieldLink RX12 349 "BondCalendarsModel" "taped" "I") (by decide +kernel)) (fun _ h9 => h9) rfl (ty := .int) (by decide +kernel) rfl rfl (Nat.le_of_ble_eq_true rfl) dX12_feed_108 (fun H locs hP hD hS => ?_)
                obtain ⟨σ3, eσ3, hP, hD⟩ := gPut (mse_11_31 rfl) hP hD
                have hIσ3 : InvM σ3 := by rw [eσ3]; exact minv_I hIσ2 (mok_11_31 rfl _ ⟨(cnt_0 bd_10.1 (fd_l iv23_1 bd_10.1 iv23_0 (Int32.not_le.mp c_4)) ex_16), (cnt_N bd_10.1 (fd_l iv23_1 bd_10.1 iv23_0 (Int32.not_le.mp c_4)) ex_16)⟩)
                have frσ3 : mFr [56] [0, 31] σ σ3 := by rw [eσ3]; exact mFr.oI frσ2 (by decide)
                obtain ⟨x_17, ex_17⟩ : ∃ zz : Int32, zz = i6 + 1 := ⟨_, rfl⟩
                refine lv_iinc (v := x_17) (lv' := [(6, .int x_17), (7, .int p4), (0, .ref (ad 0)), (1, .int p0), (2, .int p1), (3, .int p2), (4, .int p3), (5, .int p4)]) hx hb dX12_feed_111 hl (k := 1) rfl (by rw [ex_17]; rfl) (by decide) rfl (fun ls hl => ?_)
                refine lv_goto (tgt := 23) hx hb dX12_feed_114 (by decide) ?_
                exact ih23 x_17 σ3 _ _ _ _ (cnt_m iv23_0 (Int32.not_le.mp c_4) hm23 ex_17) (cnt_0 iv23_0 (Int32.not_le.mp c_4) ex_17) (by rw [eσ3, gI_self]; exact (fd_s iv23_1 bd_10.1 iv23_0 (Int32.not_le.mp c_4) ex_16 ex_17)) (by rw [eσ3, gI_self]; exact (tp_s iv23_2 iv23_0 (Int32.not_le.mp c_4) (fd_l iv23_1 bd_10.1 iv23_0 (Int32.not_le.mp c_4)) ex_16 ex_17)) (nd_hi (Int32.not_le.mp c_4) ex_17) hIσ3 frσ3 hd0 hP hD hS (lv_sub hl [0, 2, 3, 4, 5, 6, 7] rfl)
              · refine lv_iload hx hb dX12_feed_69 (lv_at hl 5 rfl) ?_
                refine lv_goto (tgt := 76) hx hb dX12_feed_71 (by decide) ?_
                refine lv_istore (lv' := [(7, .int p3), (6, .int i6), (0, .ref (ad 0)), (1, .int p0), (2, .int p1), (3, .int p2), (4, .int p3), (5, .int p4)]) hx hb dX12_feed_76 hl (by decide) rfl (fun ls hl => ?_)
                refine lv_aload_n hx hb dX12_feed_78 rfl (lv_at hl 2 rfl) ?_
                refine va_get (D := (dC, dI)) (ci := 11) (v := .ref (ad 16)) (C := RX12) (T := TX12) (N := 69) hx hb hts hinX12 hown hK hP 0 (mat_11 rfl) rfl 30 (by decide) (hts (.fieldLink RX12 60 "BondCalendarsModel" "tape" "[B") (by decide +kernel)) (fun _ h9 => h9) rfl dX12_feed_79 ?_
                refine lv_aload_n hx hb dX12_feed_82 rfl (lv_at hl 2 rfl) ?_
                have bd_18 := mrd_11_31 (c := 0) hIσ23x rfl
                refine va_get (D := (dC, dI)) (ci := 11) (v := .int ((σ23x 0).1 31)) (C := RX12) (T := TX12) (N := 69) hx hb hts hinX12 hown hK hP 0 (mat_11 rfl) rfl 31 (by decide) (hts (.fieldLink RX12 349 "BondCalendarsModel" "taped" "I") (by decide +kernel)) (fun _ h9 => h9) rfl dX12_feed_83 ?_
                refine lv_iload hx hb dX12_feed_86 (lv_at hl 0 rfl) ?_
                refine lv_bipush (v := 24) hx hb dX12_feed_88 (by decide) ?_
                refine lv_bipush (v := 8) hx hb dX12_feed_90 (by decide) ?_
                refine lv_iload hx hb dX12_feed_92 (lv_at hl 1 rfl) ?_
                refine lv_iconst (v := 4) hx hb dX12_feed_94 (by decide) ?_
                refine lv_irem hx hb dX12_feed_95 (by decide) ?_
                refine lv_topi (fun x_19 ex_19 => ?_)
                refine lv_imul hx hb dX12_feed_96 ?_
                refine lv_topi (fun x_20 ex_20 => ?_)
                refine lv_isub hx hb dX12_feed_97 ?_
                refine lv_topi (fun x_21 ex_21 => ?_)
                refine lv_ishr hx hb dX12_feed_98 ?_
                refine lv_topi (fun x_22 _ => ?_)
                refine lv_i2b hx hb dX12_feed_99 rfl ?_
                refine lv_topi (fun x_23 _ => ?_)
                refine va_bast hx hb hK hP hD hS 16 16 (mat_56 rfl) (mty_56 rfl) (gin (N := 900) (by decide) bd_18.1 (fd_l iv23_1 bd_18.1 iv23_0 (Int32.not_le.mp c_4))) dX12_feed_100 (fun H locs hP hD hS => ?_)
                obtain ⟨σ4, eσ4, hP, hD⟩ := gPut (mse_56 rfl) hP hD
                have hIσ4 : InvM σ4 := by rw [eσ4]; exact minv_I hIσ23x (mok_56 rfl _ _)
                have frσ4 : mFr [56] [0, 31] σ σ4 := by rw [eσ4]; exact mFr.aI frσ23x (by decide) (by decide)
                refine lv_aload_n hx hb dX12_feed_101 rfl (lv_at hl 2 rfl) ?_
                refine lv_dup hx hb dX12_feed_102 rfl ?_
                refine va_get (D := (dC, dI)) (ci := 11) (v := .int ((σ23x 0).1 31)) (C := RX12) (T := TX12) (N := 69) hx hb hts hinX12 hown hK hP 0 (mat_11 rfl) rfl 31 (by decide) (hts (.fieldLink RX12 349 "BondCalendarsModel" "taped" "I") (by decide +kernel)) (fun _ h9 => h9) (congrArg (fun z => some (Value.int z)) (show (σ4 0).1 31 = ((σ23x 0).1 31) from by rw [eσ4, gI_ne _ _ _ (by decide)])) dX12_feed_103 ?_
                refine lv_iconst (v := 1) hx hb dX12_feed_106 (by decide) ?_
                refine lv_iadd hx hb dX12_feed_107 ?_
                refine lv_topi (fun x_24 ex_24 => ?_)
                refine va_put (D := (dC, dI)) (ci := 11) (v := .int x_24) (C := RX12) (T := TX12) (N := 69) hx hb hts hinX12 tyX12 tyX12_ok nmX12 hown hK hP hD hS 0 (mat_11 rfl) rfl 31 (by decide) (hts (.fieldLink RX12 349 "BondCalendarsModel" "taped" "I") (by decide +kernel)) (fun _ h9 => h9) rfl (ty := .int) (by decide +kernel) rfl rfl (Nat.le_of_ble_eq_true rfl) dX12_feed_108 (fun H locs hP hD hS => ?_)
                obtain ⟨σ5, eσ5, hP, hD⟩ := gPut (mse_11_31 rfl) hP hD
                have hIσ5 : InvM σ5 := by rw [eσ5]; exact minv_I hIσ4 (mok_11_31 rfl _ ⟨(cnt_0 bd_18.1 (fd_l iv23_1 bd_18.1 iv23_0 (Int32.not_le.mp c_4)) ex_24), (cnt_N bd_18.1 (fd_l iv23_1 bd_18.1 iv23_0 (Int32.not_le.mp c_4)) ex_24)⟩)
                have frσ5 : mFr [56] [0, 31] σ σ5 := by rw [eσ5]; exact mFr.oI frσ4 (by decide)
                obtain ⟨x_25, ex_25⟩ : ∃ zz : Int32, zz = i6 + 1 := ⟨_, rfl⟩
                refine lv_iinc (v := x_25) (lv' := [(6, .int x_25), (7, .int p3), (0, .ref (ad 0)), (1, .int p0), (2, .int p1), (3, .int p2), (4, .int p3), (5, .int p4)]) hx hb dX12_feed_111 hl (k := 1) rfl (by rw [ex_25]; rfl) (by decide) rfl (fun ls hl => ?_)
                refine lv_goto (tgt := 23) hx hb dX12_feed_114 (by decide) ?_
                exact ih23 x_25 σ5 _ _ _ _ (cnt_m iv23_0 (Int32.not_le.mp c_4) hm23 ex_25) (cnt_0 iv23_0 (Int32.not_le.mp c_4) ex_25) (by rw [eσ5, gI_self]; exact (fd_s iv23_1 bd_18.1 iv23_0 (Int32.not_le.mp c_4) ex_24 ex_25)) (by rw [eσ5, gI_self]; exact (tp_s iv23_2 iv23_0 (Int32.not_le.mp c_4) (fd_l iv23_1 bd_18.1 iv23_0 (Int32.not_le.mp c_4)) ex_24 ex_25)) (nd_hi (Int32.not_le.mp c_4) ex_25) hIσ5 frσ5 hd0 hP hD hS (lv_sub hl [0, 2, 3, 4, 5, 6, 7] rfl)
            · refine lv_iload_n hx hb dX12_feed_58 rfl (lv_at hl 4 rfl) ?_
              refine lv_goto (tgt := 76) hx hb dX12_feed_59 (by decide) ?_
              refine lv_istore (lv' := [(7, .int p2), (6, .int i6), (0, .ref (ad 0)), (1, .int p0), (2, .int p1), (3, .int p2), (4, .int p3), (5, .int p4)]) hx hb dX12_feed_76 hl (by decide) rfl (fun ls hl => ?_)
              refine lv_aload_n hx hb dX12_feed_78 rfl (lv_at hl 2 rfl) ?_
              refine va_get (D := (dC, dI)) (ci := 11) (v := .ref (ad 16)) (C := RX12) (T := TX12) (N := 69) hx hb hts hinX12 hown hK hP 0 (mat_11 rfl) rfl 30 (by decide) (hts (.fieldLink RX12 60 "BondCalendarsModel" "tape" "[B") (by decide +kernel)) (fun _ h9 => h9) rfl dX12_feed_79 ?_
              refine lv_aload_n hx hb dX12_feed_82 rfl (lv_at hl 2 rfl) ?_
              have bd_26 := mrd_11_31 (c := 0) hIσ23x rfl
              refine va_get (D := (dC, dI)) (ci := 11) (v := .int ((σ23x 0).1 31)) (C := RX12) (T := TX12) (N := 69) hx hb hts hinX12 hown hK hP 0 (mat_11 rfl) rfl 31 (by decide) (hts (.fieldLink RX12 349 "BondCalendarsModel" "taped" "I") (by decide +kernel)) (fun _ h9 => h9) rfl dX12_feed_83 ?_
              refine lv_iload hx hb dX12_feed_86 (lv_at hl 0 rfl) ?_
              refine lv_bipush (v := 24) hx hb dX12_feed_88 (by decide) ?_
              refine lv_bipush (v := 8) hx hb dX12_feed_90 (by decide) ?_
              refine lv_iload hx hb dX12_feed_92 (lv_at hl 1 rfl) ?_
              refine lv_iconst (v := 4) hx hb dX12_feed_94 (by decide) ?_
              refine lv_irem hx hb dX12_feed_95 (by decide) ?_
              refine lv_topi (fun x_27 ex_27 => ?_)
              refine lv_imul hx hb dX12_feed_96 ?_
              refine lv_topi (fun x_28 ex_28 => ?_)
              refine lv_isub hx hb dX12_feed_97 ?_
              refine lv_topi (fun x_29 ex_29 => ?_)
              refine lv_ishr hx hb dX12_feed_98 ?_
              refine lv_topi (fun x_30 _ => ?_)
              refine lv_i2b hx hb dX12_feed_99 rfl ?_
              refine lv_topi (fun x_31 _ => ?_)
              refine va_bast hx hb hK hP hD hS 16 16 (mat_56 rfl) (mty_56 rfl) (gin (N := 900) (by decide) bd_26.1 (fd_l iv23_1 bd_26.1 iv23_0 (Int32.not_le.mp c_4))) dX12_feed_100 (fun H locs hP hD hS => ?_)
              obtain ⟨σ6, eσ6, hP, hD⟩ := gPut (mse_56 rfl) hP hD
              have hIσ6 : InvM σ6 := by rw [eσ6]; exact minv_I hIσ23x (mok_56 rfl _ _)
              have frσ6 : mFr [56] [0, 31] σ σ6 := by rw [eσ6]; exact mFr.aI frσ23x (by decide) (by decide)
              refine lv_aload_n hx hb dX12_feed_101 rfl (lv_at hl 2 rfl) ?_
              refine lv_dup hx hb dX12_feed_102 rfl ?_
              refine va_get (D := (dC, dI)) (ci := 11) (v := .int ((σ23x 0).1 31)) (C := RX12) (T := TX12) (N := 69) hx hb hts hinX12 hown hK hP 0 (mat_11 rfl) rfl 31 (by decide) (hts (.fieldLink RX12 349 "BondCalendarsModel" "taped" "I") (by decide +kernel)) (fun _ h9 => h9) (congrArg (fun z => some (Value.int z)) (show (σ6 0).1 31 = ((σ23x 0).1 31) from by rw [eσ6, gI_ne _ _ _ (by decide)])) dX12_feed_103 ?_
              refine lv_iconst (v := 1) hx hb dX12_feed_106 (by decide) ?_
              refine lv_iadd hx hb dX12_feed_107 ?_
              refine lv_topi (fun x_32 ex_32 => ?_)
              refine va_put (D := (dC, dI)) (ci := 11) (v := .int x_32) (C := RX12) (T := TX12) (N := 69) hx hb hts hinX12 tyX12 tyX12_ok nmX12 hown hK hP hD hS 0 (mat_11 rfl) rfl 31 (by decide) (hts (.fieldLink RX12 349 "BondCalendarsModel" "taped" "I") (by decide +kernel)) (fun _ h9 => h9) rfl (ty := .int) (by decide +kernel) rfl rfl (Nat.le_of_ble_eq_true rfl) dX12_feed_108 (fun H locs hP hD hS => ?_)
              obtain ⟨σ7, eσ7, hP, hD⟩ := gPut (mse_11_31 rfl) hP hD
              have hIσ7 : InvM σ7 := by rw [eσ7]; exact minv_I hIσ6 (mok_11_31 rfl _ ⟨(cnt_0 bd_26.1 (fd_l iv23_1 bd_26.1 iv23_0 (Int32.not_le.mp c_4)) ex_32), (cnt_N bd_26.1 (fd_l iv23_1 bd_26.1 iv23_0 (Int32.not_le.mp c_4)) ex_32)⟩)
              have frσ7 : mFr [56] [0, 31] σ σ7 := by rw [eσ7]; exact mFr.oI frσ6 (by decide)
              obtain ⟨x_33, ex_33⟩ : ∃ zz : Int32, zz = i6 + 1 := ⟨_, rfl⟩
              refine lv_iinc (v := x_33) (lv' := [(6, .int x_33), (7, .int p2), (0, .ref (ad 0)), (1, .int p0), (2, .int p1), (3, .int p2), (4, .int p3), (5, .int p4)]) hx hb dX12_feed_111 hl (k := 1) rfl (by rw [ex_33]; rfl) (by decide) rfl (fun ls hl => ?_)
              refine lv_goto (tgt := 23) hx hb dX12_feed_114 (by decide) ?_
              exact ih23 x_33 σ7 _ _ _ _ (cnt_m iv23_0 (Int32.not_le.mp c_4) hm23 ex_33) (cnt_0 iv23_0 (Int32.not_le.mp c_4) ex_33) (by rw [eσ7, gI_self]; exact (fd_s iv23_1 bd_26.1 iv23_0 (Int32.not_le.mp c_4) ex_32 ex_33)) (by rw [eσ7, gI_self]; exact (tp_s iv23_2 iv23_0 (Int32.not_le.mp c_4) (fd_l iv23_1 bd_26.1 iv23_0 (Int32.not_le.mp c_4)) ex_32 ex_33)) (nd_hi (Int32.not_le.mp c_4) ex_33) hIσ7 frσ7 hd0 hP hD hS (lv_sub hl [0, 2, 3, 4, 5, 6, 7] rfl)
          · refine lv_iload_n hx hb dX12_feed_47 rfl (lv_at hl 3 rfl) ?_
            refine lv_goto (tgt := 76) hx hb dX12_feed_48 (by decide) ?_
            refine lv_istore (lv' := [(7, .int p1), (6, .int i6), (0, .ref (ad 0)), (1, .int p0), (2, .int p1), (3, .int p2), (4, .int p3), (5, .int p4)]) hx hb dX12_feed_76 hl (by decide) rfl (fun ls hl => ?_)
            refine lv_aload_n hx hb dX12_feed_78 rfl (lv_at hl 2 rfl) ?_
            refine va_get (D := (dC, dI)) (ci := 11) (v := .ref (ad 16)) (C := RX12) (T := TX12) (N := 69) hx hb hts hinX12 hown hK hP 0 (mat_11 rfl) rfl 30 (by decide) (hts (.fieldLink RX12 60 "BondCalendarsModel" "tape" "[B") (by decide +kernel)) (fun _ h9 => h9) rfl dX12_feed_79 ?_
            refine lv_aload_n hx hb dX12_feed_82 rfl (lv_at hl 2 rfl) ?_
            have bd_34 := mrd_11_31 (c := 0) hIσ23x rfl
            refine va_get (D := (dC, dI)) (ci := 11) (v := .int ((σ23x 0).1 31)) (C := RX12) (T := TX12) (N := 69) hx hb hts hinX12 hown hK hP 0 (mat_11 rfl) rfl 31 (by decide) (hts (.fieldLink RX12 349 "BondCalendarsModel" "taped" "I") (by decide +kernel)) (fun _ h9 => h9) rfl dX12_feed_83 ?_
            refine lv_iload hx hb dX12_feed_86 (lv_at hl 0 rfl) ?_
            refine lv_bipush (v := 24) hx hb dX12_feed_88 (by decide) ?_
            refine lv_bipush (v := 8) hx hb dX12_feed_90 (by decide) ?_
            refine lv_iload hx hb dX12_feed_92 (lv_at hl 1 rfl) ?_
            refine lv_iconst (v := 4) hx hb dX12_feed_94 (by decide) ?_
            refine lv_irem hx hb dX12_feed_95 (by decide) ?_
            refine lv_topi (fun x_35 ex_35 => ?_)
            refine lv_imul hx hb dX12_feed_96 ?_
            refine lv_topi (fun x_36 ex_36 => ?_)
            refine lv_isub hx hb dX12_feed_97 ?_
            refine lv_topi (fun x_37 ex_37 => ?_)
            refine lv_ishr hx hb dX12_feed_98 ?_
            refine lv_topi (fun x_38 _ => ?_)
            refine lv_i2b hx hb dX12_feed_99 rfl ?_
            refine lv_topi (fun x_39 _ => ?_)
            refine va_bast hx hb hK hP hD hS 16 16 (mat_56 rfl) (mty_56 rfl) (gin (N := 900) (by decide) bd_34.1 (fd_l iv23_1 bd_34.1 iv23_0 (Int32.not_le.mp c_4))) dX12_feed_100 (fun H locs hP hD hS => ?_)
            obtain ⟨σ8, eσ8, hP, hD⟩ := gPut (mse_56 rfl) hP hD
            have hIσ8 : InvM σ8 := by rw [eσ8]; exact minv_I hIσ23x (mok_56 rfl _ _)
            have frσ8 : mFr [56] [0, 31] σ σ8 := by rw [eσ8]; exact mFr.aI frσ23x (by decide) (by decide)
            refine lv_aload_n hx hb dX12_feed_101 rfl (lv_at hl 2 rfl) ?_
            refine lv_dup hx hb dX12_feed_102 rfl ?_
            refine va_get (D := (dC, dI)) (ci := 11) (v := .int ((σ23x 0).1 31)) (C := RX12) (T := TX12) (N := 69) hx hb hts hinX12 hown hK hP 0 (mat_11 rfl) rfl 31 (by decide) (hts (.fieldLink RX12 349 "BondCalendarsModel" "taped" "I") (by decide +kernel)) (fun _ h9 => h9) (congrArg (fun z => some (Value.int z)) (show (σ8 0).1 31 = ((σ23x 0).1 31) from by rw [eσ8, gI_ne _ _ _ (by decide)])) dX12_feed_103 ?_
            refine lv_iconst (v := 1) hx hb dX12_feed_106 (by decide) ?_
            refine lv_iadd hx hb dX12_feed_107 ?_
            refine lv_topi (fun x_40 ex_40 => ?_)
            refine va_put (D := (dC, dI)) (ci := 11) (v := .int x_40) (C := RX12) (T := TX12) (N := 69) hx hb hts hinX12 tyX12 tyX12_ok nmX12 hown hK hP hD hS 0 (mat_11 rfl) rfl 31 (by decide) (hts (.fieldLink RX12 349 "BondCalendarsModel" "taped" "I") (by decide +kernel)) (fun _ h9 => h9) rfl (ty := .int) (by decide +kernel) rfl rfl (Nat.le_of_ble_eq_true rfl) dX12_feed_108 (fun H locs hP hD hS => ?_)
            obtain ⟨σ9, eσ9, hP, hD⟩ := gPut (mse_11_31 rfl) hP hD
            have hIσ9 : InvM σ9 := by rw [eσ9]; exact minv_I hIσ8 (mok_11_31 rfl _ ⟨(cnt_0 bd_34.1 (fd_l iv23_1 bd_34.1 iv23_0 (Int32.not_le.mp c_4)) ex_40), (cnt_N bd_34.1 (fd_l iv23_1 bd_34.1 iv23_0 (Int32.not_le.mp c_4)) ex_40)⟩)
            have frσ9 : mFr [56] [0, 31] σ σ9 := by rw [eσ9]; exact mFr.oI frσ8 (by decide)
            obtain ⟨x_41, ex_41⟩ : ∃ zz : Int32, zz = i6 + 1 := ⟨_, rfl⟩
            refine lv_iinc (v := x_41) (lv' := [(6, .int x_41), (7, .int p1), (0, .ref (ad 0)), (1, .int p0), (2, .int p1), (3, .int p2), (4, .int p3), (5, .int p4)]) hx hb dX12_feed_111 hl (k := 1) rfl (by rw [ex_41]; rfl) (by decide) rfl (fun ls hl => ?_)
            refine lv_goto (tgt := 23) hx hb dX12_feed_114 (by decide) ?_
            exact ih23 x_41 σ9 _ _ _ _ (cnt_m iv23_0 (Int32.not_le.mp c_4) hm23 ex_41) (cnt_0 iv23_0 (Int32.not_le.mp c_4) ex_41) (by rw [eσ9, gI_self]; exact (fd_s iv23_1 bd_34.1 iv23_0 (Int32.not_le.mp c_4) ex_40 ex_41)) (by rw [eσ9, gI_self]; exact (tp_s iv23_2 iv23_0 (Int32.not_le.mp c_4) (fd_l iv23_1 bd_34.1 iv23_0 (Int32.not_le.mp c_4)) ex_40 ex_41)) (nd_hi (Int32.not_le.mp c_4) ex_41) hIσ9 frσ9 hd0 hP hD hS (lv_sub hl [0, 2, 3, 4, 5, 6, 7] rfl)
        · refine lv_iload_n hx hb dX12_feed_36 rfl (lv_at hl 2 rfl) ?_
          refine lv_goto (tgt := 76) hx hb dX12_feed_37 (by decide) ?_
          refine lv_istore (lv' := [(7, .int p0), (6, .int i6), (0, .ref (ad 0)), (1, .int p0), (2, .int p1), (3, .int p2), (4, .int p3), (5, .int p4)]) hx hb dX12_feed_76 hl (by decide) rfl (fun ls hl => ?_)
          refine lv_aload_n hx hb dX12_feed_78 rfl (lv_at hl 2 rfl) ?_
          refine va_get (D := (dC, dI)) (ci := 11) (v := .ref (ad 16)) (C := RX12) (T := TX12) (N := 69) hx hb hts hinX12 hown hK hP 0 (mat_11 rfl) rfl 30 (by decide) (hts (.fieldLink RX12 60 "BondCalendarsModel" "tape" "[B") (by decide +kernel)) (fun _ h9 => h9) rfl dX12_feed_79 ?_
          refine lv_aload_n hx hb dX12_feed_82 rfl (lv_at hl 2 rfl) ?_
          have bd_42 := mrd_11_31 (c := 0) hIσ23x rfl
          refine va_get (D := (dC, dI)) (ci := 11) (v := .int ((σ23x 0).1 31)) (C := RX12) (T := TX12) (N := 69) hx hb hts hinX12 hown hK hP 0 (mat_11 rfl) rfl 31 (by decide) (hts (.fieldLink RX12 349 "BondCalendarsModel" "taped" "I") (by decide +kernel)) (fun _ h9 => h9) rfl dX12_feed_83 ?_
          refine lv_iload hx hb dX12_feed_86 (lv_at hl 0 rfl) ?_
          refine lv_bipush (v := 24) hx hb dX12_feed_88 (by decide) ?_
          refine lv_bipush (v := 8) hx hb dX12_feed_90 (by decide) ?_
          refine lv_iload hx hb dX12_feed_92 (lv_at hl 1 rfl) ?_
          refine lv_iconst (v := 4) hx hb dX12_feed_94 (by decide) ?_
          refine lv_irem hx hb dX12_feed_95 (by decide) ?_
          refine lv_topi (fun x_43 ex_43 => ?_)
          refine lv_imul hx hb dX12_feed_96 ?_
          refine lv_topi (fun x_44 ex_44 => ?_)
          refine lv_isub hx hb dX12_feed_97 ?_
          refine lv_topi (fun x_45 ex_45 => ?_)
          refine lv_ishr hx hb dX12_feed_98 ?_
          refine lv_topi (fun x_46 _ => ?_)
          refine lv_i2b hx hb dX12_feed_99 rfl ?_
          refine lv_topi (fun x_47 _ => ?_)
          refine va_bast hx hb hK hP hD hS 16 16 (mat_56 rfl) (mty_56 rfl) (gin (N := 900) (by decide) bd_42.1 (fd_l iv23_1 bd_42.1 iv23_0 (Int32.not_le.mp c_4))) dX12_feed_100 (fun H locs hP hD hS => ?_)
          obtain ⟨σ10, eσ10, hP, hD⟩ := gPut (mse_56 rfl) hP hD
          have hIσ10 : InvM σ10 := by rw [eσ10]; exact minv_I hIσ23x (mok_56 rfl _ _)
          have frσ10 : mFr [56] [0, 31] σ σ10 := by rw [eσ10]; exact mFr.aI frσ23x (by decide) (by decide)
          refine lv_aload_n hx hb dX12_feed_101 rfl (lv_at hl 2 rfl) ?_
          refine lv_dup hx hb dX12_feed_102 rfl ?_
          refine va_get (D := (dC, dI)) (ci := 11) (v := .int ((σ23x 0).1 31)) (C := RX12) (T := TX12) (N := 69) hx hb hts hinX12 hown hK hP 0 (mat_11 rfl) rfl 31 (by decide) (hts (.fieldLink RX12 349 "BondCalendarsModel" "taped" "I") (by decide +kernel)) (fun _ h9 => h9) (congrArg (fun z => some (Value.int z)) (show (σ10 0).1 31 = ((σ23x 0).1 31) from by rw [eσ10, gI_ne _ _ _ (by decide)])) dX12_feed_103 ?_
          refine lv_iconst (v := 1) hx hb dX12_feed_106 (by decide) ?_
          refine lv_iadd hx hb dX12_feed_107 ?_
          refine lv_topi (fun x_48 ex_48 => ?_)
          refine va_put (D := (dC, dI)) (ci := 11) (v := .int x_48) (C := RX12) (T := TX12) (N := 69) hx hb hts hinX12 tyX12 tyX12_ok nmX12 hown hK hP hD hS 0 (mat_11 rfl) rfl 31 (by decide) (hts (.fieldLink RX12 349 "BondCalendarsModel" "taped" "I") (by decide +kernel)) (fun _ h9 => h9) rfl (ty := .int) (by decide +kernel) rfl rfl (Nat.le_of_ble_eq_true rfl) dX12_feed_108 (fun H locs hP hD hS => ?_)
          obtain ⟨σ11, eσ11, hP, hD⟩ := gPut (mse_11_31 rfl) hP hD
          have hIσ11 : InvM σ11 := by rw [eσ11]; exact minv_I hIσ10 (mok_11_31 rfl _ ⟨(cnt_0 bd_42.1 (fd_l iv23_1 bd_42.1 iv23_0 (Int32.not_le.mp c_4)) ex_48), (cnt_N bd_42.1 (fd_l iv23_1 bd_42.1 iv23_0 (Int32.not_le.mp c_4)) ex_48)⟩)
          have frσ11 : mFr [56] [0, 31] σ σ11 := by rw [eσ11]; exact mFr.oI frσ10 (by decide)
          obtain ⟨x_49, ex_49⟩ : ∃ zz : Int32, zz = i6 + 1 := ⟨_, rfl⟩
          refine lv_iinc (v := x_49) (lv' := [(6, .int x_49), (7, .int p0), (0, .ref (ad 0)), (1, .int p0), (2, .int p1), (3, .int p2), (4, .int p3), (5, .int p4)]) hx hb dX12_feed_111 hl (k := 1) rfl (by rw [ex_49]; rfl) (by decide) rfl (fun ls hl => ?_)
          refine lv_goto (tgt := 23) hx hb dX12_feed_114 (by decide) ?_
          exact ih23 x_49 σ11 _ _ _ _ (cnt_m iv23_0 (Int32.not_le.mp c_4) hm23 ex_49) (cnt_0 iv23_0 (Int32.not_le.mp c_4) ex_49) (by rw [eσ11, gI_self]; exact (fd_s iv23_1 bd_42.1 iv23_0 (Int32.not_le.mp c_4) ex_48 ex_49)) (by rw [eσ11, gI_self]; exact (tp_s iv23_2 iv23_0 (Int32.not_le.mp c_4) (fd_l iv23_1 bd_42.1 iv23_0 (Int32.not_le.mp c_4)) ex_48 ex_49)) (nd_hi (Int32.not_le.mp c_4) ex_49) hIσ11 frσ11 hd0 hP hD hS (lv_sub hl [0, 2, 3, 4, 5, 6, 7] rfl)
  · refine lv_iconst (v := (-1)) hx hb dX12_feed_18 (by decide) ?_
    refine W.endD hd0 ?_
    exact W.iret (v := (-1)) hx hb hr (fun t ht hW => ⟨⟨(-1), σ1, rfl, ⟨hIσ1, frσ1, (Or.inl ⟨fd_gt bd_1.1 bd_1.2 ex_2 (Int32.not_le.mp c_3), rfl, (by rw [eσ1, gI_oth _ _ _ (by decide)])⟩)⟩, ⟨by rw [ht]; exact hP, hD⟩⟩, hS.F ht⟩) hS.2.2 dX12_feed_19
set_option maxHeartbeats 8000000 in
set_option maxRecDepth 100000 in
theorem n_X12_deskF (l : Launch) (dC : Nat → ClassId) (dI : Nat → Nat → Nat) (ad : Nat → Nat) (cA : Nat → ClassId) (adK adV : Nat → Nat) (sz : Nat) (σ : gs) (hI : InvM σ) (p0 : Int32) (hh0 : Deep σ) : MetD lw_cs l yX12_desk wsX12_desk ({ frames := 11, cells := 0, slots := 0, locals := 233 }) (va_Pc [.ref (ad 0), .int p0] (gPre adK adV (dC, dI) (wM ad cA σ) (tM cA) sz)) (va_Qi (fun (r : Int32) (τ : gs) => InvM τ ∧ mFr [41, 42, 43, 44, 45, 46, 47, 48, 49, 50, 51, 52, 53, 54, 55, 57, 58, 59, 60, 61, 62, 65, 66] [0, 1, 2, 20, 21, 22, 23, 24, 25, 26, 27, 28, 29, 31, 32, 33, 34, 35, 36, 37, 64, 68] σ τ ∧ (Deep τ ∧ dkP p0 ((σ 0).1 31) ((τ 0).1 31))) (fun τ t => gPost (dC, dI) (va_A (wM ad cA σ) sz) (wM ad cA τ) t) (va_A (wM ad cA σ) sz)) 0 0 (va_A (wM ad cA σ) sz) := by
  refine MetD.ofW (cc := cX12_desk) (maxL := 2) (ret := (some .int)) (by decide) rfl ?_
  intro p e s m args below meth c s₁ B hml hv hd0
  obtain ⟨rfl, hsz, hP, hK, hD0, hT⟩ := hv
  have hx := B.exec
  have hb := B.bytes
  have hr := B.returns
  have hts0 := atoms_spec (ws := wsX12_desk) B.pre
  have hK0 := hK
  have hown0 : s.vm.findClass RX12 = some m.cls := findClass_of_methodNamed B.named
  have hlocks := B.notSynchronized
  have hinX12 : ∀ w ∈ u_ws RX12 TX12 69, w ∈ wsX12_desk := (fun _ h9 => List.mem_cons_of_mem _ (List.mem_append_right _ h9))
  subst hsz
  have hD := hD0.self (sz := s.heap.size)
  generalize hAe : va_A (wM ad cA σ) s.heap.size = A at hD hT ⊢
  have hA : ∀ q : Nat, s.heap.size ≤ q → A q := fun q h => by rw [← hAe]; exact Or.inr h
  have hS : va_S A s.heap s.heap [] := va_S.rf
  have hl := lv_entry ([.ref (ad 0), .int p0]) (n := 2) (Nat.le_of_ble_eq_true rfl)
  rw [lg_entry_eq]
  generalize (lg_sl ([.ref (ad 0), .int p0]) ++ List.replicate (2 - (lg_sl ([.ref (ad 0), .int p0])).length) Slot.unset).toArray = ls at hl ⊢
  have hl : lv_has ls 2 [(0, .ref (ad 0)), (1, .int p0)] := hl
  have hts := dr_words hts0 (s.drawn)
  have hK := gKd hK0 (s.drawn)
  have hown : (s.setDrawn (s.drawn)).vm.findClass RX12 = some m.cls := hown0
  refine lv_aload_n hx hb dX12_desk_0 rfl (lv_at hl 0 rfl) ?_
  refine lv_iconst (v := 0) hx hb dX12_desk_1 (by decide) ?_
  refine va_put (D := (dC, dI)) (ci := 11) (v := .int 0) (C := RX12) (T := TX12) (N := 69) hx hb hts hinX12 tyX12 tyX12_ok nmX12 hown hK hP hD hS 0 (mat_11 rfl) rfl 0 (by decide) (hts (.fieldLink RX12 107 "BondCalendarsModel" "thrown" "I") (by decide +kernel)) (fun _ h9 => h9) rfl (ty := .int) (by decide +kernel) rfl rfl (Nat.le_of_ble_eq_true rfl) dX12_desk_2 (fun H locs hP hD hS => ?_)
  obtain ⟨σ1, eσ1, hP, hD⟩ := gPut (mse_11_0 rfl) hP hD
  have hIσ1 : InvM σ1 := by rw [eσ1]; exact minv_I hI (mok_11_0 rfl _)
  have frσ1 : mFr [41, 42, 43, 44, 45, 46, 47, 48, 49, 50, 51, 52, 53, 54, 55, 57, 58, 59, 60, 61, 62, 65, 66] [0, 1, 2, 20, 21, 22, 23, 24, 25, 26, 27, 28, 29, 31, 32, 33, 34, 35, 36, 37, 64, 68] σ σ1 := by rw [eσ1]; exact mFr.oI (mFr.rfl (L := [41, 42, 43, 44, 45, 46, 47, 48, 49, 50, 51, 52, 53, 54, 55, 57, 58, 59, 60, 61, 62, 65, 66]) (F := [0, 1, 2, 20, 21, 22, 23, 24, 25, 26, 27, 28, 29, 31, 32, 33, 34, 35, 36, 37, 64, 68]) (σ := σ)) (by decide)
  refine lv_iload_n hx hb dX12_desk_5 rfl (lv_at hl 1 rfl) ?_
  refine lv_if_lt (tgt := 17) hx hb dX12_desk_6 (by decide) (fun c_1 => ?_) (fun c_1 => ?_)
  · refine lv_aload_n hx hb dX12_desk_17 rfl (lv_at hl 0 rfl) ?_
    refine lv_iconst (v := 2) hx hb dX12_desk_18 (by decide) ?_
    have hF := gFree hD hS hA
    refine va_calliD hd0 (va_runV_D (As := [.int 2]) (rest := []) ⟨hx, hb, hml, hown, hts⟩ (n_X12_refused l dC dI ad cA adK adV H.size σ1 hIσ1 2) (cwV 1 hts gX12_desk_X12_refused rfl rfl rfl (by decide +kernel) ⟨Nat.le_of_ble_eq_true rfl, Nat.le_of_ble_eq_true rfl⟩) ⟨gBlind, va_recv hK hP (ci := 11) (q0 := 0) rfl (mat_11 rfl), gStart (As := [.ref (ad 0), .int 2]) hP hD hK0 hT hS hF (s.drawn)⟩ rfl rfl hl.1 rfl (lv_room (Nat.le_of_ble_eq_true rfl)) dX12_desk_19 ⟨Nat.le_of_ble_eq_true rfl, Nat.le_of_ble_eq_true rfl⟩) hS (fun q _ h => hF q h) hF (fun r_2 σ2 t H locs ht hvm hw hB hz1 hk1 hS d_3 hd0 => ?_)
    have hts := dr_words hts0 (d_3)
    have hK := gKd hK0 (d_3)
    have hown : (s.setDrawn (d_3)).vm.findClass RX12 = some m.cls := hown0
    obtain ⟨hP, hD⟩ := gBack hF ht hB
    obtain ⟨hIσ2, fcσ2, hp_4⟩ := hw
    refine W.endD hd0 ?_
    exact W.iret (v := r_2) hx hb hr (fun t ht hW => ⟨⟨r_2, σ2, rfl, ⟨hIσ2, (mFr.tr frσ1 fcσ2 (by decide) (by decide)), ⟨(Deep.fr hh0 (by rw [fcσ2.1 2 (by decide) (by decide), eσ1, gI_ne _ _ _ (by decide)]) (by rw [fcσ2.1 4 (by decide) (by decide), eσ1, gI_ne _ _ _ (by decide)]) (by rw [fcσ2.1 9 (by decide) (by decide), eσ1, gI_ne _ _ _ (by decide)]) (by rw [fcσ2.1 11 (by decide) (by decide), eσ1, gI_ne _ _ _ (by decide)]) (by rw [fcσ2.1 12 (by decide) (by decide), eσ1, gI_ne _ _ _ (by decide)]) (by rw [fcσ2.1 17 (by decide) (by decide), eσ1, gI_ne _ _ _ (by decide)]) (by rw [fcσ2.1 18 (by decide) (by decide), eσ1, gI_ne _ _ _ (by decide)]) (by rw [fcσ2.2 20 (by decide), eσ1, gI_oth _ _ _ (by decide)]) (by rw [fcσ2.2 21 (by decide), eσ1, gI_oth _ _ _ (by decide)]) (by rw [fcσ2.2 28 (by decide), eσ1, gI_oth _ _ _ (by decide)]) (by rw [fcσ2.2 64 (by decide), eσ1, gI_oth _ _ _ (by decide)]) (by rw [fcσ2.2 65 (by decide), eσ1, gI_oth _ _ _ (by decide)]) (by rw [fcσ2.2 68 (by decide), eσ1, gI_oth _ _ _ (by decide)])), (by unfold dkP; rw [if_pos c_1, fcσ2.2 31 (by decide), eσ1, gI_oth _ _ _ (by decide)])⟩⟩, ⟨by rw [ht]; exact hP, hD⟩⟩, hS.F ht⟩) hS.2.2 dX12_desk_22
  · refine lv_iload_n hx hb dX12_desk_9 rfl (lv_at hl 1 rfl) ?_
    refine lv_aload_n hx hb dX12_desk_10 rfl (lv_at hl 0 rfl) ?_
    have bd_5 := mrd_11_31 (c := 0) hI rfl
    refine va_get (D := (dC, dI)) (ci := 11) (v := .int ((σ 0).1 31)) (C := RX12) (T := TX12) (N := 69) hx hb hts hinX12 hown hK hP 0 (mat_11 rfl) rfl 31 (by decide) (hts (.fieldLink RX12 349 "BondCalendarsModel" "taped" "I") (by decide +kernel)) (fun _ h9 => h9) (congrArg (fun z => some (Value.int z)) (show (σ1 0).1 31 = ((σ 0).1 31) from by rw [eσ1, gI_oth _ _ _ (by decide)])) dX12_desk_11 ?_
    refine lv_icmp_le (tgt := 23) hx hb dX12_desk_14 (by decide) (fun c_6 => ?_) (fun c_6 => ?_)
    · refine lv_aload_n hx hb dX12_desk_23 rfl (lv_at hl 0 rfl) ?_
      refine lv_iload_n hx hb dX12_desk_24 rfl (lv_at hl 1 rfl) ?_
      refine va_put (D := (dC, dI)) (ci := 11) (v := .int p0) (C := RX12) (T := TX12) (N := 69) hx hb hts hinX12 tyX12 tyX12_ok nmX12 hown hK hP hD hS 0 (mat_11 rfl) rfl 32 (by decide) (hts (.fieldLink RX12 189 "BondCalendarsModel" "size" "I") (by decide +kernel)) (fun _ h9 => h9) rfl (ty := .int) (by decide +kernel) rfl rfl (Nat.le_of_ble_eq_true rfl) dX12_desk_25 (fun H locs hP hD hS => ?_)
      obtain ⟨σ3, eσ3, hP, hD⟩ := gPut (mse_11_32 rfl) hP hD
      have hIσ3 : InvM σ3 := by rw [eσ3]; exact minv_I hIσ1 (mok_11_32 rfl _ ⟨(Int32.not_lt.mp c_1), (Int32.le_trans c_6 bd_5.2)⟩)
      have frσ3 : mFr [41, 42, 43, 44, 45, 46, 47, 48, 49, 50, 51, 52, 53, 54, 55, 57, 58, 59, 60, 61, 62, 65, 66] [0, 1, 2, 20, 21, 22, 23, 24, 25, 26, 27, 28, 29, 31, 32, 33, 34, 35, 36, 37, 64, 68] σ σ3 := by rw [eσ3]; exact mFr.oI frσ1 (by decide)
      refine lv_aload_n hx hb dX12_desk_28 rfl (lv_at hl 0 rfl) ?_
      refine lv_iconst (v := 0) hx hb dX12_desk_29 (by decide) ?_
      refine va_put (D := (dC, dI)) (ci := 11) (v := .int 0) (C := RX12) (T := TX12) (N := 69) hx hb hts hinX12 tyX12 tyX12_ok nmX12 hown hK hP hD hS 0 (mat_11 rfl) rfl 31 (by decide) (hts (.fieldLink RX12 349 "BondCalendarsModel" "taped" "I") (by decide +kernel)) (fun _ h9 => h9) rfl (ty := .int) (by decide +kernel) rfl rfl (Nat.le_of_ble_eq_true rfl) dX12_desk_30 (fun H locs hP hD hS => ?_)
      obtain ⟨σ4, eσ4, hP, hD⟩ := gPut (mse_11_31 rfl) hP hD
      have hIσ4 : InvM σ4 := by rw [eσ4]; exact minv_I hIσ3 (mok_11_31 rfl _ ⟨(show (0 : Int32) ≤ 0 by decide), (show (0 : Int32) ≤ 900 by decide)⟩)
      have frσ4 : mFr [41, 42, 43, 44, 45, 46, 47, 48, 49, 50, 51, 52, 53, 54, 55, 57, 58, 59, 60, 61, 62, 65, 66] [0, 1, 2, 20, 21, 22, 23, 24, 25, 26, 27, 28, 29, 31, 32, 33, 34, 35, 36, 37, 64, 68] σ σ4 := by rw [eσ4]; exact mFr.oI frσ3 (by decide)
      refine lv_aload_n hx hb dX12_desk_33 rfl (lv_at hl 0 rfl) ?_
      refine lv_iconst (v := 0) hx hb dX12_desk_34 (by decide) ?_
      refine va_put (D := (dC, dI)) (ci := 11) (v := .int 0) (C := RX12) (T := TX12) (N := 69) hx hb hts hinX12 tyX12 tyX12_ok nmX12 hown hK hP hD hS 0 (mat_11 rfl) rfl 33 (by decide) (hts (.fieldLink RX12 195 "BondCalendarsModel" "spot" "I") (by decide +kernel)) (fun _ h9 => h9) rfl (ty := .int) (by decide +kernel) rfl rfl (Nat.le_of_ble_eq_true rfl) dX12_desk_35 (fun H locs hP hD hS => ?_)
      obtain ⟨σ5, eσ5, hP, hD⟩ := gPut (mse_11_33 rfl) hP hD
      have hIσ5 : InvM σ5 := by rw [eσ5]; exact minv_I hIσ4 (mok_11_33 rfl _ ⟨(show (0 : Int32) ≤ 0 by decide), (show (0 : Int32) ≤ 900 by decide)⟩)
      have frσ5 : mFr [41, 42, 43, 44, 45, 46, 47, 48, 49, 50, 51, 52, 53, 54, 55, 57, 58, 59, 60, 61, 62, 65, 66] [0, 1, 2, 20, 21, 22, 23, 24, 25, 26, 27, 28, 29, 31, 32, 33, 34, 35, 36, 37, 64, 68] σ σ5 := by rw [eσ5]; exact mFr.oI frσ4 (by decide)
      refine lv_aload_n hx hb dX12_desk_38 rfl (lv_at hl 0 rfl) ?_
      refine lv_iconst (v := 0) hx hb dX12_desk_39 (by decide) ?_
      refine va_put (D := (dC, dI)) (ci := 11) (v := .int 0) (C := RX12) (T := TX12) (N := 69) hx hb hts hinX12 tyX12 tyX12_ok nmX12 hown hK hP hD hS 0 (mat_11 rfl) rfl 37 (by decide) (hts (.fieldLink RX12 192 "BondCalendarsModel" "fault" "I") (by decide +kernel)) (fun _ h9 => h9) rfl (ty := .int) (by decide +kernel) rfl rfl (Nat.le_of_ble_eq_true rfl) dX12_desk_40 (fun H locs hP hD hS => ?_)
      obtain ⟨σ6, eσ6, hP, hD⟩ := gPut (mse_11_37 rfl) hP hD
      have hIσ6 : InvM σ6 := by rw [eσ6]; exact minv_I hIσ5 (mok_11_37 rfl _ (show (0 : Int32) ≤ 0 by decide))
      have frσ6 : mFr [41, 42, 43, 44, 45, 46, 47, 48, 49, 50, 51, 52, 53, 54, 55, 57, 58, 59, 60, 61, 62, 65, 66] [0, 1, 2, 20, 21, 22, 23, 24, 25, 26, 27, 28, 29, 31, 32, 33, 34, 35, 36, 37, 64, 68] σ σ6 := by rw [eσ6]; exact mFr.oI frσ5 (by decide)
      refine lv_aload_n hx hb dX12_desk_43 rfl (lv_at hl 0 rfl) ?_
      have hF := gFree hD hS hA
      refine va_callvD hd0 (va_runV_D (As := []) (rest := []) ⟨hx, hb, hml, hown, hts⟩ (n_X12_readAll l dC dI ad cA adK adV H.size σ6 hIσ6 (le_ch (show ((σ6 0).1 37 : Int32) = (0 : Int32) from by rw [eσ6, gI_self]) (Eq.refl _) (show (0 : Int32) ≤ 0 by decide))) (cwV 0 hts gX12_desk_X12_readAll rfl rfl rfl (by decide +kernel) ⟨Nat.le_of_ble_eq_true rfl, Nat.le_of_ble_eq_true rfl⟩) ⟨gBlind, va_recv hK hP (ci := 11) (q0 := 0) rfl (mat_11 rfl), gStart (As := [.ref (ad 0)]) hP hD hK0 hT hS hF (s.drawn)⟩ rfl rfl hl.1 rfl (lv_room (Nat.le_of_ble_eq_true rfl)) dX12_desk_44 ⟨Nat.le_of_ble_eq_true rfl, Nat.le_of_ble_eq_true rfl⟩) hS (fun q _ h => hF q h) hF (fun σ7 t H locs ht hvm hw hB hz1 hk1 hS d_8 hd0 => ?_)
      have hts := dr_words hts0 (d_8)
      have hK := gKd hK0 (d_8)
      have hown : (s.setDrawn (d_8)).vm.findClass RX12 = some m.cls := hown0
      obtain ⟨hP, hD⟩ := gBack hF ht hB
      obtain ⟨hIσ7, fcσ7, hp_9⟩ := hw
      have lw_10 : LOW σ σ7 := LOW.tr (LOW.cells (by rw [eσ6, gI_ne _ _ _ (by decide), eσ5, gI_ne _ _ _ (by decide), eσ4, gI_ne _ _ _ (by decide), eσ3, gI_ne _ _ _ (by decide), eσ1, gI_ne _ _ _ (by decide)]) (by rw [eσ6, gI_ne _ _ _ (by decide), eσ5, gI_ne _ _ _ (by decide), eσ4, gI_ne _ _ _ (by decide), eσ3, gI_ne _ _ _ (by decide), eσ1, gI_ne _ _ _ (by decide)]) (by rw [eσ6, gI_ne _ _ _ (by decide), eσ5, gI_ne _ _ _ (by decide), eσ4, gI_ne _ _ _ (by decide), eσ3, gI_ne _ _ _ (by decide), eσ1, gI_ne _ _ _ (by decide)]) (by rw [eσ6, gI_ne _ _ _ (by decide), eσ5, gI_ne _ _ _ (by decide), eσ4, gI_ne _ _ _ (by decide), eσ3, gI_ne _ _ _ (by decide), eσ1, gI_ne _ _ _ (by decide)])) hp_9.2.1
      refine lv_aload_n hx hb dX12_desk_47 rfl (lv_at hl 0 rfl) ?_
      have bd_11 := mrd_11_37 (c := 0) hIσ7 rfl
      refine va_get (D := (dC, dI)) (ci := 11) (v := .int ((σ7 0).1 37)) (C := RX12) (T := TX12) (N := 69) hx hb hts hinX12 hown hK hP 0 (mat_11 rfl) rfl 37 (by decide) (hts (.fieldLink RX12 192 "BondCalendarsModel" "fault" "I") (by decide +kernel)) (fun _ h9 => h9) rfl dX12_desk_48 ?_
      refine lv_if_le (tgt := 69) hx hb dX12_desk_51 (by decide) (fun c_12 => ?_) (fun c_12 => ?_)
      · refine lv_aload_n hx hb dX12_desk_69 rfl (lv_at hl 0 rfl) ?_
        have hF := gFree hD hS hA
        refine va_callvD hd0 (va_runV_D (As := []) (rest := []) ⟨hx, hb, hml, hown, hts⟩ (n_X12_takesOver l dC dI ad cA adK adV H.size σ7 hIσ7 hp_9.1 c_12 ((hp_9.2.2) c_12)) (cwV 0 hts gX12_desk_X12_takesOver rfl rfl rfl (by decide +kernel) ⟨Nat.le_of_ble_eq_true rfl, Nat.le_of_ble_eq_true rfl⟩) ⟨gBlind, va_recv hK hP (ci := 11) (q0 := 0) rfl (mat_11 rfl), gStart (As := [.ref (ad 0)]) hP hD hK0 hT hS hF (d_8)⟩ rfl rfl hl.1 rfl (lv_room (Nat.le_of_ble_eq_true rfl)) dX12_desk_70 ⟨Nat.le_of_ble_eq_true rfl, Nat.le_of_ble_eq_true rfl⟩) hS (fun q _ h => hF q h) hF (fun σ8 t H locs ht hvm hw hB hz1 hk1 hS d_14 hd0 => ?_)
        have hts := dr_words hts0 (d_14)
        have hK := gKd hK0 (d_14)
        have hown : (s.setDrawn (d_14)).vm.findClass RX12 = some m.cls := hown0
        obtain ⟨hP, hD⟩ := gBack hF ht hB
        obtain ⟨hIσ8, fcσ8, hp_15⟩ := hw
        refine lv_aload_n hx hb dX12_desk_73 rfl (lv_at hl 0 rfl) ?_
        refine lv_aload_n hx hb dX12_desk_74 rfl (lv_at hl 0 rfl) ?_
        have bd_16 := mrd_11_20 (c := 0) hIσ8 rfl
        refine va_get (D := (dC, dI)) (ci := 11) (v := .int ((σ8 0).1 20)) (C := RX12) (T := TX12) (N := 69) hx hb hts hinX12 hown hK hP 0 (mat_11 rfl) rfl 20 (by decide) (hts (.fieldLink RX12 358 "BondCalendarsModel" "bonds" "I") (by decide +kernel)) (fun _ h9 => h9) rfl dX12_desk_75 ?_
        have hF := gFree hD hS hA
        refine va_calliD hd0 (va_runV_D (As := [.int ((σ8 0).1 20)]) (rest := []) ⟨hx, hb, hml, hown, hts⟩ (n_X12_good l dC dI ad cA adK adV H.size σ8 hIσ8 ((σ8 0).1 20)) (cwV 1 hts gX12_desk_X12_good rfl rfl rfl (by decide +kernel) ⟨Nat.le_of_ble_eq_true rfl, Nat.le_of_ble_eq_true rfl⟩) ⟨gBlind, va_recv hK hP (ci := 11) (q0 := 0) rfl (mat_11 rfl), gStart (As := [.ref (ad 0), .int ((σ8 0).1 20)]) hP hD hK0 hT hS hF (d_14)⟩ rfl rfl hl.1 rfl (lv_room (Nat.le_of_ble_eq_true rfl)) dX12_desk_78 ⟨Nat.le_of_ble_eq_true rfl, Nat.le_of_ble_eq_true rfl⟩) hS (fun q _ h => hF q h) hF (fun r_17 σ9 t H locs ht hvm hw hB hz1 hk1 hS d_18 hd0 => ?_)
        have hts := dr_words hts0 (d_18)
        have hK := gKd hK0 (d_18)
        have hown : (s.setDrawn (d_18)).vm.findClass RX12 = some m.cls := hown0
        obtain ⟨hP, hD⟩ := gBack hF ht hB
        obtain ⟨hIσ9, fcσ9, hp_19⟩ := hw
        refine W.endD hd0 ?_
        exact W.iret (v := r_17) hx hb hr (fun t ht hW => ⟨⟨r_17, σ9, rfl, ⟨hIσ9, (mFr.tr (mFr.tr (mFr.tr frσ6 fcσ7 (by decide) (by decide)) fcσ8 (by decide) (by decide)) fcσ9 (by decide) (by decide)), ⟨(Deep.fr hp_15 (by rw [fcσ9.1 2 (by decide) (by decide)]) (by rw [fcσ9.1 4 (by decide) (by decide)]) (by rw [fcσ9.1 9 (by decide) (by decide)]) (by rw [fcσ9.1 11 (by decide) (by decide)]) (by rw [fcσ9.1 12 (by decide) (by decide)]) (by rw [fcσ9.1 17 (by decide) (by decide)]) (by rw [fcσ9.1 18 (by decide) (by decide)]) (by rw [fcσ9.2 20 (by decide)]) (by rw [fcσ9.2 21 (by decide)]) (by rw [fcσ9.2 28 (by decide)]) (by rw [fcσ9.2 64 (by decide)]) (by rw [fcσ9.2 65 (by decide)]) (by rw [fcσ9.2 68 (by decide)])), (by unfold dkP; rw [if_neg (Int32.not_lt.mpr (Int32.not_lt.mp c_1)), if_neg (Int32.not_lt.mpr c_6), fcσ9.2 31 (by decide), fcσ8.2 31 (by decide), fcσ7.2 31 (by decide), eσ6, gI_oth _ _ _ (by decide), eσ5, gI_oth _ _ _ (by decide), eσ4, gI_self])⟩⟩, ⟨by rw [ht]; exact hP, hD⟩⟩, hS.F ht⟩) hS.2.2 dX12_desk_81
      · refine lv_aload_n hx hb dX12_desk_54 rfl (lv_at hl 0 rfl) ?_
        refine lv_iconst (v := 4) hx hb dX12_desk_55 (by decide) ?_
        refine va_put (D := (dC, dI)) (ci := 11) (v := .int 4) (C := RX12) (T := TX12) (N := 69) hx hb hts hinX12 tyX12 tyX12_ok nmX12 hown hK hP hD hS 0 (mat_11 rfl) rfl 1 (by decide) (hts (.fieldLink RX12 110 "BondCalendarsModel" "trouble" "I") (by decide +kernel)) (fun _ h9 => h9) rfl (ty := .int) (by decide +kernel) rfl rfl (Nat.le_of_ble_eq_true rfl) dX12_desk_56 (fun H locs hP hD hS => ?_)
        obtain ⟨σ10, eσ10, hP, hD⟩ := gPut (mse_11_1 rfl) hP hD
        have hIσ10 : InvM σ10 := by rw [eσ10]; exact minv_I hIσ7 (mok_11_1 rfl _)
        have frσ10 : mFr [41, 42, 43, 44, 45, 46, 47, 48, 49, 50, 51, 52, 53, 54, 55, 57, 58, 59, 60, 61, 62, 65, 66] [0, 1, 2, 20, 21, 22, 23, 24, 25, 26, 27, 28, 29, 31, 32, 33, 34, 35, 36, 37, 64, 68] σ σ10 := by rw [eσ10]; exact mFr.oI (mFr.tr frσ6 fcσ7 (by decide) (by decide)) (by decide)
        refine lv_aload_n hx hb dX12_desk_59 rfl (lv_at hl 0 rfl) ?_
        refine lv_aload_n hx hb dX12_desk_60 rfl (lv_at hl 0 rfl) ?_
        refine va_get (D := (dC, dI)) (ci := 11) (v := .int ((σ7 0).1 35)) (C := RX12) (T := TX12) (N := 69) hx hb hts hinX12 hown hK hP 0 (mat_11 rfl) rfl 35 (by decide) (hts (.fieldLink RX12 201 "BondCalendarsModel" "at" "I") (by decide +kernel)) (fun _ h9 => h9) (congrArg (fun z => some (Value.int z)) (show (σ10 0).1 35 = ((σ7 0).1 35) from by rw [eσ10, gI_oth _ _ _ (by decide)])) dX12_desk_61 ?_
        refine va_put (D := (dC, dI)) (ci := 11) (v := .int ((σ7 0).1 35)) (C := RX12) (T := TX12) (N := 69) hx hb hts hinX12 tyX12 tyX12_ok nmX12 hown hK hP hD hS 0 (mat_11 rfl) rfl 2 (by decide) (hts (.fieldLink RX12 9 "BondCalendarsModel" "wrongAt" "I") (by decide +kernel)) (fun _ h9 => h9) rfl (ty := .int) (by decide +kernel) rfl rfl (Nat.le_of_ble_eq_true rfl) dX12_desk_64 (fun H locs hP hD hS => ?_)
        obtain ⟨σ11, eσ11, hP, hD⟩ := gPut (mse_11_2 rfl) hP hD
        have hIσ11 : InvM σ11 := by rw [eσ11]; exact minv_I hIσ10 (mok_11_2 rfl _)
        have frσ11 : mFr [41, 42, 43, 44, 45, 46, 47, 48, 49, 50, 51, 52, 53, 54, 55, 57, 58, 59, 60, 61, 62, 65, 66] [0, 1, 2, 20, 21, 22, 23, 24, 25, 26, 27, 28, 29, 31, 32, 33, 34, 35, 36, 37, 64, 68] σ σ11 := by rw [eσ11]; exact mFr.oI frσ10 (by decide)
        refine lv_iconst (v := (-1)) hx hb dX12_desk_67 (by decide) ?_
        refine W.endD hd0 ?_
        exact W.iret (v := (-1)) hx hb hr (fun t ht hW => ⟨⟨(-1), σ11, rfl, ⟨hIσ11, frσ11, ⟨(Deep.low hh0 hI (LOW.tr lw_10 (LOW.cells (by rw [eσ11, gI_ne _ _ _ (by decide), eσ10, gI_ne _ _ _ (by decide)]) (by rw [eσ11, gI_ne _ _ _ (by decide), eσ10, gI_ne _ _ _ (by decide)]) (by rw [eσ11, gI_ne _ _ _ (by decide), eσ10, gI_ne _ _ _ (by decide)]) (by rw [eσ11, gI_ne _ _ _ (by decide), eσ10, gI_ne _ _ _ (by decide)]))) (by rw [eσ11, gI_ne _ _ _ (by decide), eσ10, gI_ne _ _ _ (by decide), fcσ7.1 9 (by decide) (by decide), eσ6, gI_ne _ _ _ (by decide), eσ5, gI_ne _ _ _ (by decide), eσ4, gI_ne _ _ _ (by decide), eσ3, gI_ne _ _ _ (by decide), eσ1, gI_ne _ _ _ (by decide)]) (by rw [eσ11, gI_ne _ _ _ (by decide), eσ10, gI_ne _ _ _ (by decide), fcσ7.1 17 (by decide) (by decide), eσ6, gI_ne _ _ _ (by decide), eσ5, gI_ne _ _ _ (by decide), eσ4, gI_ne _ _ _ (by decide), eσ3, gI_ne _ _ _ (by decide), eσ1, gI_ne _ _ _ (by decide)]) (by rw [eσ11, gI_ne _ _ _ (by decide), eσ10, gI_ne _ _ _ (by decide), fcσ7.1 18 (by decide) (by decide), eσ6, gI_ne _ _ _ (by decide), eσ5, gI_ne _ _ _ (by decide), eσ4, gI_ne _ _ _ (by decide), eσ3, gI_ne _ _ _ (by decide), eσ1, gI_ne _ _ _ (by decide)]) (by rw [eσ11, gI_oth _ _ _ (by decide), eσ10, gI_oth _ _ _ (by decide), fcσ7.2 20 (by decide), eσ6, gI_oth _ _ _ (by decide), eσ5, gI_oth _ _ _ (by decide), eσ4, gI_oth _ _ _ (by decide), eσ3, gI_oth _ _ _ (by decide), eσ1, gI_oth _ _ _ (by decide)]) (by rw [eσ11, gI_oth _ _ _ (by decide), eσ10, gI_oth _ _ _ (by decide), fcσ7.2 21 (by decide), eσ6, gI_oth _ _ _ (by decide), eσ5, gI_oth _ _ _ (by decide), eσ4, gI_oth _ _ _ (by decide), eσ3, gI_oth _ _ _ (by decide), eσ1, gI_oth _ _ _ (by decide)]) (by rw [eσ11, gI_oth _ _ _ (by decide), eσ10, gI_oth _ _ _ (by decide), fcσ7.2 28 (by decide), eσ6, gI_oth _ _ _ (by decide), eσ5, gI_oth _ _ _ (by decide), eσ4, gI_oth _ _ _ (by decide), eσ3, gI_oth _ _ _ (by decide), eσ1, gI_oth _ _ _ (by decide)]) (by rw [eσ11, gI_oth _ _ _ (by decide), eσ10, gI_oth _ _ _ (by decide), fcσ7.2 64 (by decide), eσ6, gI_oth _ _ _ (by decide), eσ5, gI_oth _ _ _ (by decide), eσ4, gI_oth _ _ _ (by decide), eσ3, gI_oth _ _ _ (by decide), eσ1, gI_oth _ _ _ (by decide)]) (by rw [eσ11, gI_oth _ _ _ (by decide), eσ10, gI_oth _ _ _ (by decide), fcσ7.2 65 (by decide), eσ6, gI_oth _ _ _ (by decide), eσ5, gI_oth _ _ _ (by decide), eσ4, gI_oth _ _ _ (by decide), eσ3, gI_oth _ _ _ (by decide), eσ1, gI_oth _ _ _ (by decide)]) (by rw [eσ11, gI_oth _ _ _ (by decide), eσ10, gI_oth _ _ _ (by decide), fcσ7.2 68 (by decide), eσ6, gI_oth _ _ _ (by decide), eσ5, gI_oth _ _ _ (by decide), eσ4, gI_oth _ _ _ (by decide), eσ3, gI_oth _ _ _ (by decide), eσ1, gI_oth _ _ _ (by decide)])), (by unfold dkP; rw [if_neg (Int32.not_lt.mpr (Int32.not_lt.mp c_1)), if_neg (Int32.not_lt.mpr c_6), eσ11, gI_oth _ _ _ (by decide), eσ10, gI_oth _ _ _ (by decide), fcσ7.2 31 (by decide), eσ6, gI_oth _ _ _ (by decide), eσ5, gI_oth _ _ _ (by decide), eσ4, gI_self])⟩⟩, ⟨by rw [ht]; exact hP, hD⟩⟩, hS.F ht⟩) hS.2.2 dX12_desk_68
    · refine lv_aload_n hx hb dX12_desk_17 rfl (lv_at hl 0 rfl) ?_
      refine lv_iconst (v := 2) hx hb dX12_desk_18 (by decide) ?_
      have hF := gFree hD hS hA
      refine va_calliD hd0 (va_runV_D (As := [.int 2]) (rest := []) ⟨hx, hb, hml, hown, hts⟩ (n_X12_refused l dC dI ad cA adK adV H.size σ1 hIσ1 2) (cwV 1 hts gX12_desk_X12_refused rfl rfl rfl (by decide +kernel) ⟨Nat.le_of_ble_eq_true rfl, Nat.le_of_ble_eq_true rfl⟩) ⟨gBlind, va_recv hK hP (ci := 11) (q0 := 0) rfl (mat_11 rfl), gStart (As := [.ref (ad 0), .int 2]) hP hD hK0 hT hS hF (s.drawn)⟩ rfl rfl hl.1 rfl (lv_room (Nat.le_of_ble_eq_true rfl)) dX12_desk_19 ⟨Nat.le_of_ble_eq_true rfl, Nat.le_of_ble_eq_true rfl⟩) hS (fun q _ h => hF q h) hF (fun r_20 σ12 t H locs ht hvm hw hB hz1 hk1 hS d_21 hd0 => ?_)
      have hts := dr_words hts0 (d_21)
      have hK := gKd hK0 (d_21)
      have hown : (s.setDrawn (d_21)).vm.findClass RX12 = some m.cls := hown0
      obtain ⟨hP, hD⟩ := gBack hF ht hB
      obtain ⟨hIσ12, fcσ12, hp_22⟩ := hw
      refine W.endD hd0 ?_
      exact W.iret (v := r_20) hx hb hr (fun t ht hW => ⟨⟨r_20, σ12, rfl, ⟨hIσ12, (mFr.tr frσ1 fcσ12 (by decide) (by decide)), ⟨(Deep.fr hh0 (by rw [fcσ12.1 2 (by decide) (by decide), eσ1, gI_ne _ _ _ (by decide)]) (by rw [fcσ12.1 4 (by decide) (by decide), eσ1, gI_ne _ _ _ (by decide)]) (by rw [fcσ12.1 9 (by decide) (by decide), eσ1, gI_ne _ _ _ (by decide)]) (by rw [fcσ12.1 11 (by decide) (by decide), eσ1, gI_ne _ _ _ (by decide)]) (by rw [fcσ12.1 12 (by decide) (by decide), eσ1, gI_ne _ _ _ (by decide)]) (by rw [fcσ12.1 17 (by decide) (by decide), eσ1, gI_ne _ _ _ (by decide)]) (by rw [fcσ12.1 18 (by decide) (by decide), eσ1, gI_ne _ _ _ (by decide)]) (by rw [fcσ12.2 20 (by decide), eσ1, gI_oth _ _ _ (by decide)]) (by rw [fcσ12.2 21 (by decide), eσ1, gI_oth _ _ _ (by decide)]) (by rw [fcσ12.2 28 (by decide), eσ1, gI_oth _ _ _ (by decide)]) (by rw [fcσ12.2 64 (by decide), eσ1, gI_oth _ _ _ (by decide)]) (by rw [fcσ12.2 65 (by decide), eσ1, gI_oth _ _ _ (by decide)]) (by rw [fcσ12.2 68 (by decide), eσ1, gI_oth _ _ _ (by decide)])), (by unfold dkP; rw [if_neg (Int32.not_lt.mpr (Int32.not_lt.mp c_1)), if_pos (Int32.not_le.mp c_6), fcσ12.2 31 (by decide), eσ1, gI_oth _ _ _ (by decide)])⟩⟩, ⟨by rw [ht]; exact hP, hD⟩⟩, hS.F ht⟩) hS.2.2 dX12_desk_22
