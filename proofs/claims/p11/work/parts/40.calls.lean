set_option maxHeartbeats 8000000 in
set_option maxRecDepth 100000 in
theorem n_X11_feed (l : Launch) (dC : Nat → ClassId) (dI : Nat → Nat → Nat) (ad : Nat → Nat) (cA : Nat → ClassId) (adK adV : Nat → Nat) (sz : Nat) (σ : gs) (hI : InvX σ) (p0 : Int32) (p1 : Int32) (p2 : Int32) (p3 : Int32) (p4 : Int32) : MetD lw_cs l yX11_feed wsX11_feed ({ frames := 1, cells := 0, slots := 0, locals := 22 }) (va_Pc [.ref (ad 0), .int p0, .int p1, .int p2, .int p3, .int p4] (gPre adK adV (dC, dI) (wX ad cA σ) (tX cA) sz)) (va_Qi (fun (r : Int32) (τ : gs) => InvX τ ∧ gFr [9, 20] σ τ ∧ (True)) (fun τ t => gPost (dC, dI) (va_A (wX ad cA σ) sz) (wX ad cA τ) t) (va_A (wX ad cA σ) sz)) 0 0 (va_A (wX ad cA σ) sz) := by
  refine MetD.ofW (cc := cX11_feed) (maxL := 7) (ret := (some .int)) (by decide) rfl ?_
  intro p e s m args below meth c s₁ B hml hv hd0
  obtain ⟨rfl, hsz, hP, hK, hD0, hT⟩ := hv
  have hx := B.exec
  have hb := B.bytes
  have hr := B.returns
  have hts0 := atoms_spec (ws := wsX11_feed) B.pre
  have hK0 := hK
  have hown0 : s.vm.findClass RX11 = some m.cls := findClass_of_methodNamed B.named
  have hlocks := B.notSynchronized
  have hinX11 : ∀ w ∈ u_ws RX11 TX11 15, w ∈ wsX11_feed := (fun _ h9 => List.mem_cons_of_mem _ (List.mem_append_left _ (List.mem_append_left _ (List.mem_append_right _ h9))))
  have hinX7 : ∀ w ∈ u_ws RX7 TX7 5, w ∈ wsX11_feed := (fun _ h9 => List.mem_cons_of_mem _ (List.mem_append_left _ (List.mem_append_right _ h9)))
  have hinX10 : ∀ w ∈ u_ws RX10 TX10 7, w ∈ wsX11_feed := (fun _ h9 => List.mem_cons_of_mem _ (List.mem_append_right _ h9))
  subst hsz
  have hD := hD0.self (sz := s.heap.size)
  generalize hAe : va_A (wX ad cA σ) s.heap.size = A at hD hT ⊢
  have hA : ∀ q : Nat, s.heap.size ≤ q → A q := fun q h => by rw [← hAe]; exact Or.inr h
  have hS : va_S A s.heap s.heap [] := va_S.rf
  have hl := lv_entry ([.ref (ad 0), .int p0, .int p1, .int p2, .int p3, .int p4]) (n := 7) (Nat.le_of_ble_eq_true rfl)
  rw [lg_entry_eq]
  generalize (lg_sl ([.ref (ad 0), .int p0, .int p1, .int p2, .int p3, .int p4]) ++ List.replicate (7 - (lg_sl ([.ref (ad 0), .int p0, .int p1, .int p2, .int p3, .int p4])).length) Slot.unset).toArray = ls at hl ⊢
  have hl : lv_has ls 7 [(0, .ref (ad 0)), (1, .int p0), (2, .int p1), (3, .int p2), (4, .int p3), (5, .int p4)] := hl
  have hts := dr_words hts0 (s.drawn)
  have hK := gKd hK0 (s.drawn)
  have hown : (s.setDrawn (s.drawn)).vm.findClass RX11 = some m.cls := hown0
  refine lv_aload_n hx hb dX11_feed_0 rfl (lv_at hl 0 rfl) ?_
  refine va_get (D := (dC, dI)) (ci := 10) (v := .ref (ad 1)) (C := RX11) (T := TX11) (N := 15) hx hb hts hinX11 hown hK hP 0 (at_10 rfl) rfl 0 (by decide) (hts (.fieldLink RX11 10 "BondCalendars" "reader" "LBondCalendars$Reader;") (by decide +kernel)) (fun _ h9 => h9) rfl dX11_feed_1 ?_
  refine va_get (D := (dC, dI)) (ci := 6) (v := .ref (ad 2)) (C := RX7) (T := TX7) (N := 5) hx hb hts hinX7 hown hK hP 1 (at_6 rfl) rfl 0 (by decide) (hts (.fieldLink RX11 84 "BondCalendars$Reader" "tape" "LBondCalendars$Tape;") (by decide +kernel)) (fun _ h9 => h9) rfl dX11_feed_4 ?_
  refine lv_astore (lv' := [(6, .ref (ad 2)), (0, .ref (ad 0)), (1, .int p0), (2, .int p1), (3, .int p2), (4, .int p3), (5, .int p4)]) hx hb dX11_feed_7 hl (by decide) rfl (fun ls hl => ?_)
  refine lv_aload hx hb dX11_feed_9 (lv_at hl 0 rfl) ?_
  have bd_1 := rd_9_1 (c := 2) hI rfl
  refine va_get (D := (dC, dI)) (ci := 9) (v := .int ((σ 2).1 1)) (C := RX10) (T := TX10) (N := 7) hx hb hts hinX10 hown hK hP 2 (at_9 rfl) rfl 1 (by decide) (hts (.fieldLink RX11 88 "BondCalendars$Tape" "length" "I") (by decide +kernel)) (fun _ h9 => h9) rfl dX11_feed_11 ?_
  refine lv_sipush (v := 880) hx hb dX11_feed_14 (by decide) ?_
  refine lv_icmp_le (tgt := 22) hx hb dX11_feed_17 (by decide) (fun c_2 => ?_) (fun c_2 => ?_)
  · refine lv_aload hx hb dX11_feed_22 (lv_at hl 0 rfl) ?_
    refine lv_iload_n hx hb dX11_feed_24 rfl (lv_at hl 2 rfl) ?_
    have hF := gFree hD hS hA
    refine va_callvD hd0 (va_runV_D (As := [.int p0]) (rest := []) ⟨hx, hb, hml, hown, hts⟩ (n_X10_append l dC dI ad cA adK adV s.heap.size σ hI p0) (cwV 1 hts gX11_feed_X10_append rfl rfl rfl (by decide +kernel) ⟨Nat.le_of_ble_eq_true rfl, Nat.le_of_ble_eq_true rfl⟩) ⟨gBlind, va_recv hK hP (ci := 9) (q0 := 2) rfl (at_9 rfl), gStart (As := [.ref (ad 2), .int p0]) hP hD hK0 hT hS hF (s.drawn)⟩ rfl rfl hl.1 rfl (lv_room (Nat.le_of_ble_eq_true rfl)) dX11_feed_25 ⟨Nat.le_of_ble_eq_true rfl, Nat.le_of_ble_eq_true rfl⟩) hS (fun q _ h => hF q h) hF (fun σ1 t H locs ht hvm hw hB hz1 hk1 hS d_4 hd0 => ?_)
    have hts := dr_words hts0 (d_4)
    have hK := gKd hK0 (d_4)
    have hown : (s.setDrawn (d_4)).vm.findClass RX11 = some m.cls := hown0
    obtain ⟨hP, hD⟩ := gBack hF ht hB
    obtain ⟨hIσ1, fcσ1, hp_5⟩ := hw
    refine lv_aload hx hb dX11_feed_28 (lv_at hl 0 rfl) ?_
    refine lv_iload_n hx hb dX11_feed_30 rfl (lv_at hl 3 rfl) ?_
    have hF := gFree hD hS hA
    refine va_callvD hd0 (va_runV_D (As := [.int p1]) (rest := []) ⟨hx, hb, hml, hown, hts⟩ (n_X10_append l dC dI ad cA adK adV H.size σ1 hIσ1 p1) (cwV 1 hts gX11_feed_X10_append rfl rfl rfl (by decide +kernel) ⟨Nat.le_of_ble_eq_true rfl, Nat.le_of_ble_eq_true rfl⟩) ⟨gBlind, va_recv hK hP (ci := 9) (q0 := 2) rfl (at_9 rfl), gStart (As := [.ref (ad 2), .int p1]) hP hD hK0 hT hS hF (d_4)⟩ rfl rfl hl.1 rfl (lv_room (Nat.le_of_ble_eq_true rfl)) dX11_feed_31 ⟨Nat.le_of_ble_eq_true rfl, Nat.le_of_ble_eq_true rfl⟩) hS (fun q _ h => hF q h) hF (fun σ2 t H locs ht hvm hw hB hz1 hk1 hS d_7 hd0 => ?_)
    have hts := dr_words hts0 (d_7)
    have hK := gKd hK0 (d_7)
    have hown : (s.setDrawn (d_7)).vm.findClass RX11 = some m.cls := hown0
    obtain ⟨hP, hD⟩ := gBack hF ht hB
    obtain ⟨hIσ2, fcσ2, hp_8⟩ := hw
    refine lv_aload hx hb dX11_feed_34 (lv_at hl 0 rfl) ?_
    refine lv_iload_n hx hb dX11_feed_36 rfl (lv_at hl 4 rfl) ?_
    have hF := gFree hD hS hA
    refine va_callvD hd0 (va_runV_D (As := [.int p2]) (rest := []) ⟨hx, hb, hml, hown, hts⟩ (n_X10_append l dC dI ad cA adK adV H.size σ2 hIσ2 p2) (cwV 1 hts gX11_feed_X10_append rfl rfl rfl (by decide +kernel) ⟨Nat.le_of_ble_eq_true rfl, Nat.le_of_ble_eq_true rfl⟩) ⟨gBlind, va_recv hK hP (ci := 9) (q0 := 2) rfl (at_9 rfl), gStart (As := [.ref (ad 2), .int p2]) hP hD hK0 hT hS hF (d_7)⟩ rfl rfl hl.1 rfl (lv_room (Nat.le_of_ble_eq_true rfl)) dX11_feed_37 ⟨Nat.le_of_ble_eq_true rfl, Nat.le_of_ble_eq_true rfl⟩) hS (fun q _ h => hF q h) hF (fun σ3 t H locs ht hvm hw hB hz1 hk1 hS d_10 hd0 => ?_)
    have hts := dr_words hts0 (d_10)
    have hK := gKd hK0 (d_10)
    have hown : (s.setDrawn (d_10)).vm.findClass RX11 = some m.cls := hown0
    obtain ⟨hP, hD⟩ := gBack hF ht hB
    obtain ⟨hIσ3, fcσ3, hp_11⟩ := hw
    refine lv_aload hx hb dX11_feed_40 (lv_at hl 0 rfl) ?_
    refine lv_iload hx hb dX11_feed_42 (lv_at hl 5 rfl) ?_
    have hF := gFree hD hS hA
    refine va_callvD hd0 (va_runV_D (As := [.int p3]) (rest := []) ⟨hx, hb, hml, hown, hts⟩ (n_X10_append l dC dI ad cA adK adV H.size σ3 hIσ3 p3) (cwV 1 hts gX11_feed_X10_append rfl rfl rfl (by decide +kernel) ⟨Nat.le_of_ble_eq_true rfl, Nat.le_of_ble_eq_true rfl⟩) ⟨gBlind, va_recv hK hP (ci := 9) (q0 := 2) rfl (at_9 rfl), gStart (As := [.ref (ad 2), .int p3]) hP hD hK0 hT hS hF (d_10)⟩ rfl rfl hl.1 rfl (lv_room (Nat.le_of_ble_eq_true rfl)) dX11_feed_44 ⟨Nat.le_of_ble_eq_true rfl, Nat.le_of_ble_eq_true rfl⟩) hS (fun q _ h => hF q h) hF (fun σ4 t H locs ht hvm hw hB hz1 hk1 hS d_13 hd0 => ?_)
    have hts := dr_words hts0 (d_13)
    have hK := gKd hK0 (d_13)
    have hown : (s.setDrawn (d_13)).vm.findClass RX11 = some m.cls := hown0
    obtain ⟨hP, hD⟩ := gBack hF ht hB
    obtain ⟨hIσ4, fcσ4, hp_14⟩ := hw
    refine lv_aload hx hb dX11_feed_47 (lv_at hl 0 rfl) ?_
    refine lv_iload hx hb dX11_feed_49 (lv_at hl 6 rfl) ?_
    have hF := gFree hD hS hA
    refine va_callvD hd0 (va_runV_D (As := [.int p4]) (rest := []) ⟨hx, hb, hml, hown, hts⟩ (n_X10_append l dC dI ad cA adK adV H.size σ4 hIσ4 p4) (cwV 1 hts gX11_feed_X10_append rfl rfl rfl (by decide +kernel) ⟨Nat.le_of_ble_eq_true rfl, Nat.le_of_ble_eq_true rfl⟩) ⟨gBlind, va_recv hK hP (ci := 9) (q0 := 2) rfl (at_9 rfl), gStart (As := [.ref (ad 2), .int p4]) hP hD hK0 hT hS hF (d_13)⟩ rfl rfl hl.1 rfl (lv_room (Nat.le_of_ble_eq_true rfl)) dX11_feed_51 ⟨Nat.le_of_ble_eq_true rfl, Nat.le_of_ble_eq_true rfl⟩) hS (fun q _ h => hF q h) hF (fun σ5 t H locs ht hvm hw hB hz1 hk1 hS d_16 hd0 => ?_)
    have hts := dr_words hts0 (d_16)
    have hK := gKd hK0 (d_16)
    have hown : (s.setDrawn (d_16)).vm.findClass RX11 = some m.cls := hown0
    obtain ⟨hP, hD⟩ := gBack hF ht hB
    obtain ⟨hIσ5, fcσ5, hp_17⟩ := hw
    refine lv_aload hx hb dX11_feed_54 (lv_at hl 0 rfl) ?_
    have bd_18 := rd_9_1 (c := 2) hIσ5 rfl
    refine va_get (D := (dC, dI)) (ci := 9) (v := .int ((σ5 2).1 1)) (C := RX10) (T := TX10) (N := 7) hx hb hts hinX10 hown hK hP 2 (at_9 rfl) rfl 1 (by decide) (hts (.fieldLink RX11 88 "BondCalendars$Tape" "length" "I") (by decide +kernel)) (fun _ h9 => h9) rfl dX11_feed_56 ?_
    refine W.endD hd0 ?_
    exact W.iret (v := ((σ5 2).1 1)) hx hb hr (fun t ht hW => ⟨⟨((σ5 2).1 1), σ5, rfl, ⟨hIσ5, (gFr.tr (gFr.tr (gFr.tr (gFr.tr (gFr.tr (gFr.rfl (L := [9, 20]) (σ := σ)) fcσ1 (by decide)) fcσ2 (by decide)) fcσ3 (by decide)) fcσ4 (by decide)) fcσ5 (by decide)), trivial⟩, ⟨by rw [ht]; exact hP, hD⟩⟩, hS.F ht⟩) hS.2.2 dX11_feed_59
  · refine lv_iconst (v := (-1)) hx hb dX11_feed_20 (by decide) ?_
    refine W.endD hd0 ?_
    exact W.iret (v := (-1)) hx hb hr (fun t ht hW => ⟨⟨(-1), σ, rfl, ⟨hI, (gFr.rfl (L := [9, 20]) (σ := σ)), trivial⟩, ⟨by rw [ht]; exact hP, hD⟩⟩, hS.F ht⟩) hS.2.2 dX11_feed_21
set_option maxHeartbeats 8000000 in
set_option maxRecDepth 100000 in
theorem n_X11_fault (l : Launch) (dC : Nat → ClassId) (dI : Nat → Nat → Nat) (ad : Nat → Nat) (cA : Nat → ClassId) (adK adV : Nat → Nat) (sz : Nat) (σ : gs) (hI : InvX σ)  : MetD lw_cs l yX11_fault wsX11_fault ({ frames := 0, cells := 0, slots := 0, locals := 0 }) (va_Pc [.ref (ad 0)] (gPre adK adV (dC, dI) (wX ad cA σ) (tX cA) sz)) (va_Qi (fun (r : Int32) (τ : gs) => InvX τ ∧ σ = τ ∧ (True)) (fun τ t => gPost (dC, dI) (va_A (wX ad cA σ) sz) (wX ad cA τ) t) (va_A (wX ad cA σ) sz)) 0 0 (va_A (wX ad cA σ) sz) := by
  refine MetD.ofW (cc := cX11_fault) (maxL := 1) (ret := (some .int)) (by decide) rfl ?_
  intro p e s m args below meth c s₁ B hml hv hd0
  obtain ⟨rfl, hsz, hP, hK, hD0, hT⟩ := hv
  have hx := B.exec
  have hb := B.bytes
  have hr := B.returns
  have hts0 := atoms_spec (ws := wsX11_fault) B.pre
  have hK0 := hK
  have hown0 : s.vm.findClass RX11 = some m.cls := findClass_of_methodNamed B.named
  have hlocks := B.notSynchronized
  have hinX11 : ∀ w ∈ u_ws RX11 TX11 15, w ∈ wsX11_fault := (fun _ h9 => List.mem_cons_of_mem _ (List.mem_append_right _ h9))
  subst hsz
  have hD := hD0.self (sz := s.heap.size)
  generalize hAe : va_A (wX ad cA σ) s.heap.size = A at hD hT ⊢
  have hA : ∀ q : Nat, s.heap.size ≤ q → A q := fun q h => by rw [← hAe]; exact Or.inr h
  have hS : va_S A s.heap s.heap [] := va_S.rf
  have hl := lv_entry ([.ref (ad 0)]) (n := 1) (Nat.le_of_ble_eq_true rfl)
  rw [lg_entry_eq]
  generalize (lg_sl ([.ref (ad 0)]) ++ List.replicate (1 - (lg_sl ([.ref (ad 0)])).length) Slot.unset).toArray = ls at hl ⊢
  have hl : lv_has ls 1 [(0, .ref (ad 0))] := hl
  have hts := dr_words hts0 (s.drawn)
  have hK := gKd hK0 (s.drawn)
  have hown : (s.setDrawn (s.drawn)).vm.findClass RX11 = some m.cls := hown0
  refine lv_aload_n hx hb dX11_fault_0 rfl (lv_at hl 0 rfl) ?_
  refine va_get (D := (dC, dI)) (ci := 10) (v := .int ((σ 0).1 13)) (C := RX11) (T := TX11) (N := 15) hx hb hts hinX11 hown hK hP 0 (at_10 rfl) rfl 13 (by decide) (hts (.fieldLink RX11 78 "BondCalendars" "latestFault" "I") (by decide +kernel)) (fun _ h9 => h9) rfl dX11_fault_1 ?_
  refine W.endD hd0 ?_
  exact W.iret (v := ((σ 0).1 13)) hx hb hr (fun t ht hW => ⟨⟨((σ 0).1 13), σ, rfl, ⟨hI, rfl, trivial⟩, ⟨by rw [ht]; exact hP, hD⟩⟩, hS.F ht⟩) hS.2.2 dX11_fault_4
set_option maxHeartbeats 8000000 in
set_option maxRecDepth 100000 in
theorem n_X11_where (l : Launch) (dC : Nat → ClassId) (dI : Nat → Nat → Nat) (ad : Nat → Nat) (cA : Nat → ClassId) (adK adV : Nat → Nat) (sz : Nat) (σ : gs) (hI : InvX σ)  : MetD lw_cs l yX11_where wsX11_where ({ frames := 0, cells := 0, slots := 0, locals := 0 }) (va_Pc [.ref (ad 0)] (gPre adK adV (dC, dI) (wX ad cA σ) (tX cA) sz)) (va_Qi (fun (r : Int32) (τ : gs) => InvX τ ∧ σ = τ ∧ (True)) (fun τ t => gPost (dC, dI) (va_A (wX ad cA σ) sz) (wX ad cA τ) t) (va_A (wX ad cA σ) sz)) 0 0 (va_A (wX ad cA σ) sz) := by
  refine MetD.ofW (cc := cX11_where) (maxL := 1) (ret := (some .int)) (by decide) rfl ?_
  intro p e s m args below meth c s₁ B hml hv hd0
  obtain ⟨rfl, hsz, hP, hK, hD0, hT⟩ := hv
  have hx := B.exec
  have hb := B.bytes
  have hr := B.returns
  have hts0 := atoms_spec (ws := wsX11_where) B.pre
  have hK0 := hK
  have hown0 : s.vm.findClass RX11 = some m.cls := findClass_of_methodNamed B.named
  have hlocks := B.notSynchronized
  have hinX11 : ∀ w ∈ u_ws RX11 TX11 15, w ∈ wsX11_where := (fun _ h9 => List.mem_cons_of_mem _ (List.mem_append_right _ h9))
  subst hsz
  have hD := hD0.self (sz := s.heap.size)
  generalize hAe : va_A (wX ad cA σ) s.heap.size = A at hD hT ⊢
  have hA : ∀ q : Nat, s.heap.size ≤ q → A q := fun q h => by rw [← hAe]; exact Or.inr h
  have hS : va_S A s.heap s.heap [] := va_S.rf
  have hl := lv_entry ([.ref (ad 0)]) (n := 1) (Nat.le_of_ble_eq_true rfl)
  rw [lg_entry_eq]
  generalize (lg_sl ([.ref (ad 0)]) ++ List.replicate (1 - (lg_sl ([.ref (ad 0)])).length) Slot.unset).toArray = ls at hl ⊢
  have hl : lv_has ls 1 [(0, .ref (ad 0))] := hl
  have hts := dr_words hts0 (s.drawn)
  have hK := gKd hK0 (s.drawn)
  have hown : (s.setDrawn (s.drawn)).vm.findClass RX11 = some m.cls := hown0
  refine lv_aload_n hx hb dX11_where_0 rfl (lv_at hl 0 rfl) ?_
  refine va_get (D := (dC, dI)) (ci := 10) (v := .int ((σ 0).1 12)) (C := RX11) (T := TX11) (N := 15) hx hb hts hinX11 hown hK hP 0 (at_10 rfl) rfl 12 (by decide) (hts (.fieldLink RX11 74 "BondCalendars" "refusal" "I") (by decide +kernel)) (fun _ h9 => h9) rfl dX11_where_1 ?_
  refine lv_iconst (v := 4) hx hb dX11_where_4 (by decide) ?_
  refine lv_icmp_ne (tgt := 15) hx hb dX11_where_5 (by decide) (fun c_1 => ?_) (fun c_1 => ?_)
  · refine lv_iconst (v := (-1)) hx hb dX11_where_15 (by decide) ?_
    refine W.endD hd0 ?_
    exact W.iret (v := (-1)) hx hb hr (fun t ht hW => ⟨⟨(-1), σ, rfl, ⟨hI, rfl, trivial⟩, ⟨by rw [ht]; exact hP, hD⟩⟩, hS.F ht⟩) hS.2.2 dX11_where_16
  · refine lv_aload_n hx hb dX11_where_8 rfl (lv_at hl 0 rfl) ?_
    refine va_get (D := (dC, dI)) (ci := 10) (v := .int ((σ 0).1 14)) (C := RX11) (T := TX11) (N := 15) hx hb hts hinX11 hown hK hP 0 (at_10 rfl) rfl 14 (by decide) (hts (.fieldLink RX11 81 "BondCalendars" "latestPlace" "I") (by decide +kernel)) (fun _ h9 => h9) rfl dX11_where_9 ?_
    refine lv_goto (tgt := 16) hx hb dX11_where_12 (by decide) ?_
    refine W.endD hd0 ?_
    exact W.iret (v := ((σ 0).1 14)) hx hb hr (fun t ht hW => ⟨⟨((σ 0).1 14), σ, rfl, ⟨hI, rfl, trivial⟩, ⟨by rw [ht]; exact hP, hD⟩⟩, hS.F ht⟩) hS.2.2 dX11_where_16
set_option maxHeartbeats 8000000 in
set_option maxRecDepth 100000 in
theorem n_X11_days (l : Launch) (dC : Nat → ClassId) (dI : Nat → Nat → Nat) (ad : Nat → Nat) (cA : Nat → ClassId) (adK adV : Nat → Nat) (sz : Nat) (σ : gs) (hI : InvX σ) (p0 : Int32) (p1 : Int32) : MetD lw_cs l yX11_days wsX11_days ({ frames := 2, cells := 0, slots := 0, locals := 44 }) (va_Pc [.ref (ad 0), .int p0, .int p1] (gPre adK adV (dC, dI) (wX ad cA σ) (tX cA) sz)) (va_Qi (fun (r : Int32) (τ : gs) => InvX τ ∧ gFr [10] σ τ ∧ (True)) (fun τ t => gPost (dC, dI) (va_A (wX ad cA σ) sz) (wX ad cA τ) t) (va_A (wX ad cA σ) sz)) 0 0 (va_A (wX ad cA σ) sz) := by
  refine MetD.ofW (cc := cX11_days) (maxL := 3) (ret := (some .int)) (by decide) rfl ?_
  intro p e s m args below meth c s₁ B hml hv hd0
  obtain ⟨rfl, hsz, hP, hK, hD0, hT⟩ := hv
  have hx := B.exec
  have hb := B.bytes
  have hr := B.returns
  have hts0 := atoms_spec (ws := wsX11_days) B.pre
  have hK0 := hK
  have hown0 : s.vm.findClass RX11 = some m.cls := findClass_of_methodNamed B.named
  have hlocks := B.notSynchronized
  have hinX11 : ∀ w ∈ u_ws RX11 TX11 15, w ∈ wsX11_days := (fun _ h9 => List.mem_cons_of_mem _ (List.mem_append_right _ h9))
  subst hsz
  have hD := hD0.self (sz := s.heap.size)
  generalize hAe : va_A (wX ad cA σ) s.heap.size = A at hD hT ⊢
  have hA : ∀ q : Nat, s.heap.size ≤ q → A q := fun q h => by rw [← hAe]; exact Or.inr h
  have hS : va_S A s.heap s.heap [] := va_S.rf
  have hl := lv_entry ([.ref (ad 0), .int p0, .int p1]) (n := 3) (Nat.le_of_ble_eq_true rfl)
  rw [lg_entry_eq]
  generalize (lg_sl ([.ref (ad 0), .int p0, .int p1]) ++ List.replicate (3 - (lg_sl ([.ref (ad 0), .int p0, .int p1])).length) Slot.unset).toArray = ls at hl ⊢
  have hl : lv_has ls 3 [(0, .ref (ad 0)), (1, .int p0), (2, .int p1)] := hl
  have hts := dr_words hts0 (s.drawn)
  have hK := gKd hK0 (s.drawn)
  have hown : (s.setDrawn (s.drawn)).vm.findClass RX11 = some m.cls := hown0
  refine lv_iload_n hx hb dX11_days_0 rfl (lv_at hl 1 rfl) ?_
  have hF := gFree (w := []) (hx_D0 (A := A)) hS hA
  have hKe := hK.sub (tys' := []) [] rfl
  refine va_calli (va_runS (As := [.int p0]) (rest := []) ⟨hx, hb, hml, hown, hts⟩ (k_X3_isDate l dC dI s.heap.size p0 ) (va_cwS 1 hts gX11_days_X3_isDate rfl rfl rfl (by decide +kernel) ⟨Nat.le_of_ble_eq_true rfl, Nat.le_of_ble_eq_true rfl⟩) ⟨fun a U g mk q => by obtain ⟨q0, q1, qP, qK, qD⟩ := q; exact ⟨q0, q1, qP, va_K.moved (u := U) (U := U.calling g mk a) (Vm.Alike.refl U.vm) qK, qD⟩, fun U hU hW => ⟨rfl, by rw [hU], hx_P0, va_K.moved hW.alike hKe, hx_D0⟩⟩ rfl rfl hl.1 rfl (lv_room (Nat.le_of_ble_eq_true rfl)) dX11_days_1 ⟨Nat.le_of_ble_eq_true rfl, Nat.le_of_ble_eq_true rfl⟩) hS (fun q _ h => hF q h) hF (fun r_1 u t H locs ht hvm hw hB hz1 hk1 hS => ?_)
  have hP := gKeep hP hk1
  refine lv_if_eq (tgt := 14) hx hb dX11_days_4 (by decide) (fun c_2 => ?_) (fun c_2 => ?_)
  · refine lv_aload_n hx hb dX11_days_14 rfl (lv_at hl 0 rfl) ?_
    refine lv_iconst (v := 2) hx hb dX11_days_15 (by decide) ?_
    refine va_put (D := (dC, dI)) (ci := 10) (v := .int 2) (C := RX11) (T := TX11) (N := 15) hx hb hts hinX11 tyX11 tyX11_ok nmX11 hown hK hP hD hS 0 (at_10 rfl) rfl 12 (by decide) (hts (.fieldLink RX11 74 "BondCalendars" "refusal" "I") (by decide +kernel)) (fun _ h9 => h9) rfl (ty := .int) (by decide +kernel) rfl rfl (Nat.le_of_ble_eq_true rfl) dX11_days_16 (fun H locs hP hD hS => ?_)
    obtain ⟨σ1, eσ1, hP, hD⟩ := gPut (se_10_12 rfl) hP hD
    have hIσ1 : InvX σ1 := by rw [eσ1]; exact inv_I hI (ok_10_12 rfl _)
    have frσ1 : gFr [10] σ σ1 := by rw [eσ1]; exact gFr.pI (gFr.rfl (L := [10]) (σ := σ)) rfl (by decide)
    refine lv_ldc (v := (-2147483648)) hx hb hown (hts (.constant RX11 135 (-2147483648)) (by decide +kernel)) dX11_days_19 ?_
    refine W.endD hd0 ?_
    exact W.iret (v := (-2147483648)) hx hb hr (fun t ht hW => ⟨⟨(-2147483648), σ1, rfl, ⟨hIσ1, frσ1, trivial⟩, ⟨by rw [ht]; exact hP, hD⟩⟩, hS.F ht⟩) hS.2.2 dX11_days_21
  · refine lv_iload_n hx hb dX11_days_7 rfl (lv_at hl 2 rfl) ?_
    have hF := gFree (w := []) (hx_D0 (A := A)) hS hA
    have hKe := hK.sub (tys' := []) [] rfl
    refine va_calli (va_runS (As := [.int p1]) (rest := []) ⟨hx, hb, hml, hown, hts⟩ (k_X3_isDate l dC dI H.size p1 ) (va_cwS 1 hts gX11_days_X3_isDate rfl rfl rfl (by decide +kernel) ⟨Nat.le_of_ble_eq_true rfl, Nat.le_of_ble_eq_true rfl⟩) ⟨fun a U g mk q => by obtain ⟨q0, q1, qP, qK, qD⟩ := q; exact ⟨q0, q1, qP, va_K.moved (u := U) (U := U.calling g mk a) (Vm.Alike.refl U.vm) qK, qD⟩, fun U hU hW => ⟨rfl, by rw [hU], hx_P0, va_K.moved hW.alike hKe, hx_D0⟩⟩ rfl rfl hl.1 rfl (lv_room (Nat.le_of_ble_eq_true rfl)) dX11_days_8 ⟨Nat.le_of_ble_eq_true rfl, Nat.le_of_ble_eq_true rfl⟩) hS (fun q _ h => hF q h) hF (fun r_3 u t H locs ht hvm hw hB hz1 hk1 hS => ?_)
    have hP := gKeep hP hk1
    refine lv_if_ne (tgt := 22) hx hb dX11_days_11 (by decide) (fun c_4 => ?_) (fun c_4 => ?_)
    · refine lv_aload_n hx hb dX11_days_22 rfl (lv_at hl 0 rfl) ?_
      refine lv_iconst (v := 0) hx hb dX11_days_23 (by decide) ?_
      refine va_put (D := (dC, dI)) (ci := 10) (v := .int 0) (C := RX11) (T := TX11) (N := 15) hx hb hts hinX11 tyX11 tyX11_ok nmX11 hown hK hP hD hS 0 (at_10 rfl) rfl 12 (by decide) (hts (.fieldLink RX11 74 "BondCalendars" "refusal" "I") (by decide +kernel)) (fun _ h9 => h9) rfl (ty := .int) (by decide +kernel) rfl rfl (Nat.le_of_ble_eq_true rfl) dX11_days_24 (fun H locs hP hD hS => ?_)
      obtain ⟨σ2, eσ2, hP, hD⟩ := gPut (se_10_12 rfl) hP hD
      have hIσ2 : InvX σ2 := by rw [eσ2]; exact inv_I hI (ok_10_12 rfl _)
      have frσ2 : gFr [10] σ σ2 := by rw [eσ2]; exact gFr.pI (gFr.rfl (L := [10]) (σ := σ)) rfl (by decide)
      refine lv_iload_n hx hb dX11_days_27 rfl (lv_at hl 2 rfl) ?_
      have hF := gFree (w := []) (hx_D0 (A := A)) hS hA
      have hKe := hK.sub (tys' := []) [] rfl
      refine va_calli (va_runS (As := [.int p1]) (rest := []) ⟨hx, hb, hml, hown, hts⟩ (k_X3_dayOf l dC dI H.size p1 ) (va_cwS 1 hts gX11_days_X3_dayOf rfl rfl rfl (by decide +kernel) ⟨Nat.le_of_ble_eq_true rfl, Nat.le_of_ble_eq_true rfl⟩) ⟨fun a U g mk q => by obtain ⟨q0, q1, qP, qK, qD⟩ := q; exact ⟨q0, q1, qP, va_K.moved (u := U) (U := U.calling g mk a) (Vm.Alike.refl U.vm) qK, qD⟩, fun U hU hW => ⟨rfl, by rw [hU], hx_P0, va_K.moved hW.alike hKe, hx_D0⟩⟩ rfl rfl hl.1 rfl (lv_room (Nat.le_of_ble_eq_true rfl)) dX11_days_28 ⟨Nat.le_of_ble_eq_true rfl, Nat.le_of_ble_eq_true rfl⟩) hS (fun q _ h => hF q h) hF (fun r_5 u t H locs ht hvm hw hB hz1 hk1 hS => ?_)
      have hP := gKeep hP hk1
      refine lv_iload_n hx hb dX11_days_31 rfl (lv_at hl 1 rfl) ?_
      have hF := gFree (w := []) (hx_D0 (A := A)) hS hA
      have hKe := hK.sub (tys' := []) [] rfl
      refine va_calli (va_runS (As := [.int p0]) (rest := [.int r_5]) ⟨hx, hb, hml, hown, hts⟩ (k_X3_dayOf l dC dI H.size p0 ) (va_cwS 1 hts gX11_days_X3_dayOf rfl rfl rfl (by decide +kernel) ⟨Nat.le_of_ble_eq_true rfl, Nat.le_of_ble_eq_true rfl⟩) ⟨fun a U g mk q => by obtain ⟨q0, q1, qP, qK, qD⟩ := q; exact ⟨q0, q1, qP, va_K.moved (u := U) (U := U.calling g mk a) (Vm.Alike.refl U.vm) qK, qD⟩, fun U hU hW => ⟨rfl, by rw [hU], hx_P0, va_K.moved hW.alike hKe, hx_D0⟩⟩ rfl rfl hl.1 rfl (lv_room (Nat.le_of_ble_eq_true rfl)) dX11_days_32 ⟨Nat.le_of_ble_eq_true rfl, Nat.le_of_ble_eq_true rfl⟩) hS (fun q _ h => hF q h) hF (fun r_6 u t H locs ht hvm hw hB hz1 hk1 hS => ?_)
      have hP := gKeep hP hk1
      refine lv_isub hx hb dX11_days_35 ?_
      refine lv_topi (fun x_7 ex_7 => ?_)
      refine W.endD hd0 ?_
      exact W.iret (v := x_7) hx hb hr (fun t ht hW => ⟨⟨x_7, σ2, rfl, ⟨hIσ2, frσ2, trivial⟩, ⟨by rw [ht]; exact hP, hD⟩⟩, hS.F ht⟩) hS.2.2 dX11_days_36
    · refine lv_aload_n hx hb dX11_days_14 rfl (lv_at hl 0 rfl) ?_
      refine lv_iconst (v := 2) hx hb dX11_days_15 (by decide) ?_
      refine va_put (D := (dC, dI)) (ci := 10) (v := .int 2) (C := RX11) (T := TX11) (N := 15) hx hb hts hinX11 tyX11 tyX11_ok nmX11 hown hK hP hD hS 0 (at_10 rfl) rfl 12 (by decide) (hts (.fieldLink RX11 74 "BondCalendars" "refusal" "I") (by decide +kernel)) (fun _ h9 => h9) rfl (ty := .int) (by decide +kernel) rfl rfl (Nat.le_of_ble_eq_true rfl) dX11_days_16 (fun H locs hP hD hS => ?_)
      obtain ⟨σ3, eσ3, hP, hD⟩ := gPut (se_10_12 rfl) hP hD
      have hIσ3 : InvX σ3 := by rw [eσ3]; exact inv_I hI (ok_10_12 rfl _)
      have frσ3 : gFr [10] σ σ3 := by rw [eσ3]; exact gFr.pI (gFr.rfl (L := [10]) (σ := σ)) rfl (by decide)
      refine lv_ldc (v := (-2147483648)) hx hb hown (hts (.constant RX11 135 (-2147483648)) (by decide +kernel)) dX11_days_19 ?_
      refine W.endD hd0 ?_
      exact W.iret (v := (-2147483648)) hx hb hr (fun t ht hW => ⟨⟨(-2147483648), σ3, rfl, ⟨hIσ3, frσ3, trivial⟩, ⟨by rw [ht]; exact hP, hD⟩⟩, hS.F ht⟩) hS.2.2 dX11_days_21
set_option maxHeartbeats 8000000 in
set_option maxRecDepth 100000 in
theorem n_X11_weekday (l : Launch) (dC : Nat → ClassId) (dI : Nat → Nat → Nat) (ad : Nat → Nat) (cA : Nat → ClassId) (adK adV : Nat → Nat) (sz : Nat) (σ : gs) (hI : InvX σ) (p0 : Int32) : MetD lw_cs l yX11_weekday wsX11_weekday ({ frames := 2, cells := 0, slots := 0, locals := 44 }) (va_Pc [.ref (ad 0), .int p0] (gPre adK adV (dC, dI) (wX ad cA σ) (tX cA) sz)) (va_Qi (fun (r : Int32) (τ : gs) => InvX τ ∧ gFr [10] σ τ ∧ (True)) (fun τ t => gPost (dC, dI) (va_A (wX ad cA σ) sz) (wX ad cA τ) t) (va_A (wX ad cA σ) sz)) 0 0 (va_A (wX ad cA σ) sz) := by
  refine MetD.ofW (cc := cX11_weekday) (maxL := 2) (ret := (some .int)) (by decide) rfl ?_
  intro p e s m args below meth c s₁ B hml hv hd0
  obtain ⟨rfl, hsz, hP, hK, hD0, hT⟩ := hv
  have hx := B.exec
  have hb := B.bytes
  have hr := B.returns
  have hts0 := atoms_spec (ws := wsX11_weekday) B.pre
  have hK0 := hK
  have hown0 : s.vm.findClass RX11 = some m.cls := findClass_of_methodNamed B.named
  have hlocks := B.notSynchronized
  have hinX11 : ∀ w ∈ u_ws RX11 TX11 15, w ∈ wsX11_weekday := (fun _ h9 => List.mem_cons_of_mem _ (List.mem_append_right _ h9))
  subst hsz
  have hD := hD0.self (sz := s.heap.size)
  generalize hAe : va_A (wX ad cA σ) s.heap.size = A at hD hT ⊢
  have hA : ∀ q : Nat, s.heap.size ≤ q → A q := fun q h => by rw [← hAe]; exact Or.inr h
  have hS : va_S A s.heap s.heap [] := va_S.rf
  have hl := lv_entry ([.ref (ad 0), .int p0]) (n := 2) (Nat.le_of_ble_eq_true rfl)
  rw [lg_entry_eq]
  generalize (lg_sl ([.ref (ad 0), .int p0]) ++ List.replicate (2 - (lg_sl ([.ref (ad 0), .int p0])).length) Slot.unset).toArray = ls at hl ⊢
  have hl : lv_has ls 2 [(0, .ref (ad 0)), (1, .int p0)] := hl
  have hts := dr_words hts0 (s.drawn)
  have hK := gKd hK0 (s.drawn)
  have hown : (s.setDrawn (s.drawn)).vm.findClass RX11 = some m.cls := hown0
  refine lv_iload_n hx hb dX11_weekday_0 rfl (lv_at hl 1 rfl) ?_
  have hF := gFree (w := []) (hx_D0 (A := A)) hS hA
  have hKe := hK.sub (tys' := []) [] rfl
  refine va_calli (va_runS (As := [.int p0]) (rest := []) ⟨hx, hb, hml, hown, hts⟩ (k_X3_isDate l dC dI s.heap.size p0 ) (va_cwS 1 hts gX11_weekday_X3_isDate rfl rfl rfl (by decide +kernel) ⟨Nat.le_of_ble_eq_true rfl, Nat.le_of_ble_eq_true rfl⟩) ⟨fun a U g mk q => by obtain ⟨q0, q1, qP, qK, qD⟩ := q; exact ⟨q0, q1, qP, va_K.moved (u := U) (U := U.calling g mk a) (Vm.Alike.refl U.vm) qK, qD⟩, fun U hU hW => ⟨rfl, by rw [hU], hx_P0, va_K.moved hW.alike hKe, hx_D0⟩⟩ rfl rfl hl.1 rfl (lv_room (Nat.le_of_ble_eq_true rfl)) dX11_weekday_1 ⟨Nat.le_of_ble_eq_true rfl, Nat.le_of_ble_eq_true rfl⟩) hS (fun q _ h => hF q h) hF (fun r_1 u t H locs ht hvm hw hB hz1 hk1 hS => ?_)
  have hP := gKeep hP hk1
  refine lv_if_ne (tgt := 13) hx hb dX11_weekday_4 (by decide) (fun c_2 => ?_) (fun c_2 => ?_)
  · refine lv_aload_n hx hb dX11_weekday_13 rfl (lv_at hl 0 rfl) ?_
    refine lv_iconst (v := 0) hx hb dX11_weekday_14 (by decide) ?_
    refine va_put (D := (dC, dI)) (ci := 10) (v := .int 0) (C := RX11) (T := TX11) (N := 15) hx hb hts hinX11 tyX11 tyX11_ok nmX11 hown hK hP hD hS 0 (at_10 rfl) rfl 12 (by decide) (hts (.fieldLink RX11 74 "BondCalendars" "refusal" "I") (by decide +kernel)) (fun _ h9 => h9) rfl (ty := .int) (by decide +kernel) rfl rfl (Nat.le_of_ble_eq_true rfl) dX11_weekday_15 (fun H locs hP hD hS => ?_)
    obtain ⟨σ1, eσ1, hP, hD⟩ := gPut (se_10_12 rfl) hP hD
    have hIσ1 : InvX σ1 := by rw [eσ1]; exact inv_I hI (ok_10_12 rfl _)
    have frσ1 : gFr [10] σ σ1 := by rw [eσ1]; exact gFr.pI (gFr.rfl (L := [10]) (σ := σ)) rfl (by decide)
    refine lv_iload_n hx hb dX11_weekday_18 rfl (lv_at hl 1 rfl) ?_
    have hF := gFree (w := []) (hx_D0 (A := A)) hS hA
    have hKe := hK.sub (tys' := []) [] rfl
    refine va_calli (va_runS (As := [.int p0]) (rest := []) ⟨hx, hb, hml, hown, hts⟩ (k_X3_dayOf l dC dI H.size p0 ) (va_cwS 1 hts gX11_weekday_X3_dayOf rfl rfl rfl (by decide +kernel) ⟨Nat.le_of_ble_eq_true rfl, Nat.le_of_ble_eq_true rfl⟩) ⟨fun a U g mk q => by obtain ⟨q0, q1, qP, qK, qD⟩ := q; exact ⟨q0, q1, qP, va_K.moved (u := U) (U := U.calling g mk a) (Vm.Alike.refl U.vm) qK, qD⟩, fun U hU hW => ⟨rfl, by rw [hU], hx_P0, va_K.moved hW.alike hKe, hx_D0⟩⟩ rfl rfl hl.1 rfl (lv_room (Nat.le_of_ble_eq_true rfl)) dX11_weekday_19 ⟨Nat.le_of_ble_eq_true rfl, Nat.le_of_ble_eq_true rfl⟩) hS (fun q _ h => hF q h) hF (fun r_3 u t H locs ht hvm hw hB hz1 hk1 hS => ?_)
    have hP := gKeep hP hk1
    have hF := gFree (w := []) (hx_D0 (A := A)) hS hA
    have hKe := hK.sub (tys' := []) [] rfl
    refine va_calli (va_runS (As := [.int r_3]) (rest := []) ⟨hx, hb, hml, hown, hts⟩ (k_X3_weekdayOf l dC dI H.size r_3 ) (va_cwS 1 hts gX11_weekday_X3_weekdayOf rfl rfl rfl (by decide +kernel) ⟨Nat.le_of_ble_eq_true rfl, Nat.le_of_ble_eq_true rfl⟩) ⟨fun a U g mk q => by obtain ⟨q0, q1, qP, qK, qD⟩ := q; exact ⟨q0, q1, qP, va_K.moved (u := U) (U := U.calling g mk a) (Vm.Alike.refl U.vm) qK, qD⟩, fun U hU hW => ⟨rfl, by rw [hU], hx_P0, va_K.moved hW.alike hKe, hx_D0⟩⟩ rfl rfl hl.1 rfl (lv_room (Nat.le_of_ble_eq_true rfl)) dX11_weekday_22 ⟨Nat.le_of_ble_eq_true rfl, Nat.le_of_ble_eq_true rfl⟩) hS (fun q _ h => hF q h) hF (fun r_4 u t H locs ht hvm hw hB hz1 hk1 hS => ?_)
    have hP := gKeep hP hk1
    refine W.endD hd0 ?_
    exact W.iret (v := r_4) hx hb hr (fun t ht hW => ⟨⟨r_4, σ1, rfl, ⟨hIσ1, frσ1, trivial⟩, ⟨by rw [ht]; exact hP, hD⟩⟩, hS.F ht⟩) hS.2.2 dX11_weekday_25
  · refine lv_aload_n hx hb dX11_weekday_7 rfl (lv_at hl 0 rfl) ?_
    refine lv_iconst (v := 2) hx hb dX11_weekday_8 (by decide) ?_
    have hF := gFree hD hS hA
    refine va_calliD hd0 (va_runV_D (As := [.int 2]) (rest := []) ⟨hx, hb, hml, hown, hts⟩ (n_X11_refuse l dC dI ad cA adK adV H.size σ hI 2) (cwV 1 hts gX11_weekday_X11_refuse rfl rfl rfl (by decide +kernel) ⟨Nat.le_of_ble_eq_true rfl, Nat.le_of_ble_eq_true rfl⟩) ⟨gBlind, va_recv hK hP (ci := 10) (q0 := 0) rfl (at_10 rfl), gStart (As := [.ref (ad 0), .int 2]) hP hD hK0 hT hS hF (s.drawn)⟩ rfl rfl hl.1 rfl (lv_room (Nat.le_of_ble_eq_true rfl)) dX11_weekday_9 ⟨Nat.le_of_ble_eq_true rfl, Nat.le_of_ble_eq_true rfl⟩) hS (fun q _ h => hF q h) hF (fun r_5 σ2 t H locs ht hvm hw hB hz1 hk1 hS d_6 hd0 => ?_)
    have hts := dr_words hts0 (d_6)
    have hK := gKd hK0 (d_6)
    have hown : (s.setDrawn (d_6)).vm.findClass RX11 = some m.cls := hown0
    obtain ⟨hP, hD⟩ := gBack hF ht hB
    obtain ⟨hIσ2, fcσ2, hp_7⟩ := hw
    refine W.endD hd0 ?_
    exact W.iret (v := r_5) hx hb hr (fun t ht hW => ⟨⟨r_5, σ2, rfl, ⟨hIσ2, (gFr.tr (gFr.rfl (L := [10]) (σ := σ)) fcσ2 (by decide)), trivial⟩, ⟨by rw [ht]; exact hP, hD⟩⟩, hS.F ht⟩) hS.2.2 dX11_weekday_12
set_option maxHeartbeats 8000000 in
set_option maxRecDepth 100000 in
theorem n_X11_months (l : Launch) (dC : Nat → ClassId) (dI : Nat → Nat → Nat) (ad : Nat → Nat) (cA : Nat → ClassId) (adK adV : Nat → Nat) (sz : Nat) (σ : gs) (hI : InvX σ) (p0 : Int32) (p1 : Int32) (p2 : Int32) : MetD lw_cs l yX11_months wsX11_months ({ frames := 2, cells := 0, slots := 0, locals := 52 }) (va_Pc [.ref (ad 0), .int p0, .int p1, .int p2] (gPre adK adV (dC, dI) (wX ad cA σ) (tX cA) sz)) (va_Qi (fun (r : Int32) (τ : gs) => InvX τ ∧ gFr [10] σ τ ∧ (True)) (fun τ t => gPost (dC, dI) (va_A (wX ad cA σ) sz) (wX ad cA τ) t) (va_A (wX ad cA σ) sz)) 0 0 (va_A (wX ad cA σ) sz) := by
  refine MetD.ofW (cc := cX11_months) (maxL := 4) (ret := (some .int)) (by decide) rfl ?_
  intro p e s m args below meth c s₁ B hml hv hd0
  obtain ⟨rfl, hsz, hP, hK, hD0, hT⟩ := hv
  have hx := B.exec
  have hb := B.bytes
  have hr := B.returns
  have hts0 := atoms_spec (ws := wsX11_months) B.pre
  have hK0 := hK
  have hown0 : s.vm.findClass RX11 = some m.cls := findClass_of_methodNamed B.named
  have hlocks := B.notSynchronized
  have hinX11 : ∀ w ∈ u_ws RX11 TX11 15, w ∈ wsX11_months := (fun _ h9 => List.mem_cons_of_mem _ (List.mem_append_right _ h9))
  subst hsz
  have hD := hD0.self (sz := s.heap.size)
  generalize hAe : va_A (wX ad cA σ) s.heap.size = A at hD hT ⊢
  have hA : ∀ q : Nat, s.heap.size ≤ q → A q := fun q h => by rw [← hAe]; exact Or.inr h
  have hS : va_S A s.heap s.heap [] := va_S.rf
  have hl := lv_entry ([.ref (ad 0), .int p0, .int p1, .int p2]) (n := 4) (Nat.le_of_ble_eq_true rfl)
  rw [lg_entry_eq]
  generalize (lg_sl ([.ref (ad 0), .int p0, .int p1, .int p2]) ++ List.replicate (4 - (lg_sl ([.ref (ad 0), .int p0, .int p1, .int p2])).length) Slot.unset).toArray = ls at hl ⊢
  have hl : lv_has ls 4 [(0, .ref (ad 0)), (1, .int p0), (2, .int p1), (3, .int p2)] := hl
  have hts := dr_words hts0 (s.drawn)
  have hK := gKd hK0 (s.drawn)
  have hown : (s.setDrawn (s.drawn)).vm.findClass RX11 = some m.cls := hown0
  refine lv_iload_n hx hb dX11_months_0 rfl (lv_at hl 1 rfl) ?_
  have hF := gFree (w := []) (hx_D0 (A := A)) hS hA
  have hKe := hK.sub (tys' := []) [] rfl
  refine va_calli (va_runS (As := [.int p0]) (rest := []) ⟨hx, hb, hml, hown, hts⟩ (k_X3_isDate l dC dI s.heap.size p0 ) (va_cwS 1 hts gX11_months_X3_isDate rfl rfl rfl (by decide +kernel) ⟨Nat.le_of_ble_eq_true rfl, Nat.le_of_ble_eq_true rfl⟩) ⟨fun a U g mk q => by obtain ⟨q0, q1, qP, qK, qD⟩ := q; exact ⟨q0, q1, qP, va_K.moved (u := U) (U := U.calling g mk a) (Vm.Alike.refl U.vm) qK, qD⟩, fun U hU hW => ⟨rfl, by rw [hU], hx_P0, va_K.moved hW.alike hKe, hx_D0⟩⟩ rfl rfl hl.1 rfl (lv_room (Nat.le_of_ble_eq_true rfl)) dX11_months_1 ⟨Nat.le_of_ble_eq_true rfl, Nat.le_of_ble_eq_true rfl⟩) hS (fun q _ h => hF q h) hF (fun r_1 u t H locs ht hvm hw hB hz1 hk1 hS => ?_)
  have hP := gKeep hP hk1
  refine lv_if_eq (tgt := 19) hx hb dX11_months_4 (by decide) (fun c_2 => ?_) (fun c_2 => ?_)
  · refine lv_aload_n hx hb dX11_months_19 rfl (lv_at hl 0 rfl) ?_
    refine lv_iconst (v := 2) hx hb dX11_months_20 (by decide) ?_
    have hF := gFree hD hS hA
    refine va_calliD hd0 (va_runV_D (As := [.int 2]) (rest := []) ⟨hx, hb, hml, hown, hts⟩ (n_X11_refuse l dC dI ad cA adK adV H.size σ hI 2) (cwV 1 hts gX11_months_X11_refuse rfl rfl rfl (by decide +kernel) ⟨Nat.le_of_ble_eq_true rfl, Nat.le_of_ble_eq_true rfl⟩) ⟨gBlind, va_recv hK hP (ci := 10) (q0 := 0) rfl (at_10 rfl), gStart (As := [.ref (ad 0), .int 2]) hP hD hK0 hT hS hF (s.drawn)⟩ rfl rfl hl.1 rfl (lv_room (Nat.le_of_ble_eq_true rfl)) dX11_months_21 ⟨Nat.le_of_ble_eq_true rfl, Nat.le_of_ble_eq_true rfl⟩) hS (fun q _ h => hF q h) hF (fun r_3 σ1 t H locs ht hvm hw hB hz1 hk1 hS d_4 hd0 => ?_)
    have hts := dr_words hts0 (d_4)
    have hK := gKd hK0 (d_4)
    have hown : (s.setDrawn (d_4)).vm.findClass RX11 = some m.cls := hown0
    obtain ⟨hP, hD⟩ := gBack hF ht hB
    obtain ⟨hIσ1, fcσ1, hp_5⟩ := hw
    refine W.endD hd0 ?_
    exact W.iret (v := r_3) hx hb hr (fun t ht hW => ⟨⟨r_3, σ1, rfl, ⟨hIσ1, (gFr.tr (gFr.rfl (L := [10]) (σ := σ)) fcσ1 (by decide)), trivial⟩, ⟨by rw [ht]; exact hP, hD⟩⟩, hS.F ht⟩) hS.2.2 dX11_months_24
  · refine lv_iload_n hx hb dX11_months_7 rfl (lv_at hl 2 rfl) ?_
    refine lv_bipush (v := (-120)) hx hb dX11_months_8 (by decide) ?_
    refine lv_icmp_lt (tgt := 19) hx hb dX11_months_10 (by decide) (fun c_6 => ?_) (fun c_6 => ?_)
    · refine lv_aload_n hx hb dX11_months_19 rfl (lv_at hl 0 rfl) ?_
      refine lv_iconst (v := 2) hx hb dX11_months_20 (by decide) ?_
      have hF := gFree hD hS hA
      refine va_calliD hd0 (va_runV_D (As := [.int 2]) (rest := []) ⟨hx, hb, hml, hown, hts⟩ (n_X11_refuse l dC dI ad cA adK adV H.size σ hI 2) (cwV 1 hts gX11_months_X11_refuse rfl rfl rfl (by decide +kernel) ⟨Nat.le_of_ble_eq_true rfl, Nat.le_of_ble_eq_true rfl⟩) ⟨gBlind, va_recv hK hP (ci := 10) (q0 := 0) rfl (at_10 rfl), gStart (As := [.ref (ad 0), .int 2]) hP hD hK0 hT hS hF (s.drawn)⟩ rfl rfl hl.1 rfl (lv_room (Nat.le_of_ble_eq_true rfl)) dX11_months_21 ⟨Nat.le_of_ble_eq_true rfl, Nat.le_of_ble_eq_true rfl⟩) hS (fun q _ h => hF q h) hF (fun r_7 σ2 t H locs ht hvm hw hB hz1 hk1 hS d_8 hd0 => ?_)
      have hts := dr_words hts0 (d_8)
      have hK := gKd hK0 (d_8)
      have hown : (s.setDrawn (d_8)).vm.findClass RX11 = some m.cls := hown0
      obtain ⟨hP, hD⟩ := gBack hF ht hB
      obtain ⟨hIσ2, fcσ2, hp_9⟩ := hw
      refine W.endD hd0 ?_
      exact W.iret (v := r_7) hx hb hr (fun t ht hW => ⟨⟨r_7, σ2, rfl, ⟨hIσ2, (gFr.tr (gFr.rfl (L := [10]) (σ := σ)) fcσ2 (by decide)), trivial⟩, ⟨by rw [ht]; exact hP, hD⟩⟩, hS.F ht⟩) hS.2.2 dX11_months_24
    · refine lv_iload_n hx hb dX11_months_13 rfl (lv_at hl 2 rfl) ?_
      refine lv_bipush (v := 120) hx hb dX11_months_14 (by decide) ?_
      refine lv_icmp_le (tgt := 25) hx hb dX11_months_16 (by decide) (fun c_10 => ?_) (fun c_10 => ?_)
      · refine lv_aload_n hx hb dX11_months_25 rfl (lv_at hl 0 rfl) ?_
        refine lv_iconst (v := 0) hx hb dX11_months_26 (by decide) ?_
        refine va_put (D := (dC, dI)) (ci := 10) (v := .int 0) (C := RX11) (T := TX11) (N := 15) hx hb hts hinX11 tyX11 tyX11_ok nmX11 hown hK hP hD hS 0 (at_10 rfl) rfl 12 (by decide) (hts (.fieldLink RX11 74 "BondCalendars" "refusal" "I") (by decide +kernel)) (fun _ h9 => h9) rfl (ty := .int) (by decide +kernel) rfl rfl (Nat.le_of_ble_eq_true rfl) dX11_months_27 (fun H locs hP hD hS => ?_)
        obtain ⟨σ3, eσ3, hP, hD⟩ := gPut (se_10_12 rfl) hP hD
        have hIσ3 : InvX σ3 := by rw [eσ3]; exact inv_I hI (ok_10_12 rfl _)
        have frσ3 : gFr [10] σ σ3 := by rw [eσ3]; exact gFr.pI (gFr.rfl (L := [10]) (σ := σ)) rfl (by decide)
        refine lv_iload_n hx hb dX11_months_30 rfl (lv_at hl 1 rfl) ?_
        refine lv_iload_n hx hb dX11_months_31 rfl (lv_at hl 2 rfl) ?_
        refine lv_iload_n hx hb dX11_months_32 rfl (lv_at hl 3 rfl) ?_
        have hF := gFree (w := []) (hx_D0 (A := A)) hS hA
        have hKe := hK.sub (tys' := []) [] rfl
        refine va_calli (va_runS (As := [.int p0, .int p1, .int p2]) (rest := []) ⟨hx, hb, hml, hown, hts⟩ (k_X3_monthsFrom l dC dI H.size p0 p1 p2 ) (va_cwS 3 hts gX11_months_X3_monthsFrom rfl rfl rfl (by decide +kernel) ⟨Nat.le_of_ble_eq_true rfl, Nat.le_of_ble_eq_true rfl⟩) ⟨fun a U g mk q => by obtain ⟨q0, q1, qP, qK, qD⟩ := q; exact ⟨q0, q1, qP, va_K.moved (u := U) (U := U.calling g mk a) (Vm.Alike.refl U.vm) qK, qD⟩, fun U hU hW => ⟨rfl, by rw [hU], hx_P0, va_K.moved hW.alike hKe, hx_D0⟩⟩ rfl rfl hl.1 rfl (lv_room (Nat.le_of_ble_eq_true rfl)) dX11_months_33 ⟨Nat.le_of_ble_eq_true rfl, Nat.le_of_ble_eq_true rfl⟩) hS (fun q _ h => hF q h) hF (fun r_11 u t H locs ht hvm hw hB hz1 hk1 hS => ?_)
        have hP := gKeep hP hk1
        refine W.endD hd0 ?_
        exact W.iret (v := r_11) hx hb hr (fun t ht hW => ⟨⟨r_11, σ3, rfl, ⟨hIσ3, frσ3, trivial⟩, ⟨by rw [ht]; exact hP, hD⟩⟩, hS.F ht⟩) hS.2.2 dX11_months_36
      · refine lv_aload_n hx hb dX11_months_19 rfl (lv_at hl 0 rfl) ?_
        refine lv_iconst (v := 2) hx hb dX11_months_20 (by decide) ?_
        have hF := gFree hD hS hA
        refine va_calliD hd0 (va_runV_D (As := [.int 2]) (rest := []) ⟨hx, hb, hml, hown, hts⟩ (n_X11_refuse l dC dI ad cA adK adV H.size σ hI 2) (cwV 1 hts gX11_months_X11_refuse rfl rfl rfl (by decide +kernel) ⟨Nat.le_of_ble_eq_true rfl, Nat.le_of_ble_eq_true rfl⟩) ⟨gBlind, va_recv hK hP (ci := 10) (q0 := 0) rfl (at_10 rfl), gStart (As := [.ref (ad 0), .int 2]) hP hD hK0 hT hS hF (s.drawn)⟩ rfl rfl hl.1 rfl (lv_room (Nat.le_of_ble_eq_true rfl)) dX11_months_21 ⟨Nat.le_of_ble_eq_true rfl, Nat.le_of_ble_eq_true rfl⟩) hS (fun q _ h => hF q h) hF (fun r_12 σ4 t H locs ht hvm hw hB hz1 hk1 hS d_13 hd0 => ?_)
        have hts := dr_words hts0 (d_13)
        have hK := gKd hK0 (d_13)
        have hown : (s.setDrawn (d_13)).vm.findClass RX11 = some m.cls := hown0
        obtain ⟨hP, hD⟩ := gBack hF ht hB
        obtain ⟨hIσ4, fcσ4, hp_14⟩ := hw
        refine W.endD hd0 ?_
        exact W.iret (v := r_12) hx hb hr (fun t ht hW => ⟨⟨r_12, σ4, rfl, ⟨hIσ4, (gFr.tr (gFr.rfl (L := [10]) (σ := σ)) fcσ4 (by decide)), trivial⟩, ⟨by rw [ht]; exact hP, hD⟩⟩, hS.F ht⟩) hS.2.2 dX11_months_24
set_option maxHeartbeats 8000000 in
set_option maxRecDepth 100000 in
theorem n_X11_business (l : Launch) (dC : Nat → ClassId) (dI : Nat → Nat → Nat) (ad : Nat → Nat) (cA : Nat → ClassId) (adK adV : Nat → Nat) (sz : Nat) (σ : gs) (hI : InvX σ) (p0 : Int32) : MetD lw_cs l yX11_business wsX11_business ({ frames := 3, cells := 0, slots := 0, locals := 63 }) (va_Pc [.ref (ad 0), .int p0] (gPre adK adV (dC, dI) (wX ad cA σ) (tX cA) sz)) (va_Qi (fun (r : Int32) (τ : gs) => InvX τ ∧ gFr [10] σ τ ∧ (True)) (fun τ t => gPost (dC, dI) (va_A (wX ad cA σ) sz) (wX ad cA τ) t) (va_A (wX ad cA σ) sz)) 0 0 (va_A (wX ad cA σ) sz) := by
  refine MetD.ofW (cc := cX11_business) (maxL := 2) (ret := (some .int)) (by decide) rfl ?_
  intro p e s m args below meth c s₁ B hml hv hd0
  obtain ⟨rfl, hsz, hP, hK, hD0, hT⟩ := hv
  have hx := B.exec
  have hb := B.bytes
  have hr := B.returns
  have hts0 := atoms_spec (ws := wsX11_business) B.pre
  have hK0 := hK
  have hown0 : s.vm.findClass RX11 = some m.cls := findClass_of_methodNamed B.named
  have hlocks := B.notSynchronized
  have hinX11 : ∀ w ∈ u_ws RX11 TX11 15, w ∈ wsX11_business := (fun _ h9 => List.mem_cons_of_mem _ (List.mem_append_left _ (List.mem_append_left _ (List.mem_append_right _ h9))))
  have hinX4 : ∀ w ∈ u_ws RX4 TX4 12, w ∈ wsX11_business := (fun _ h9 => List.mem_cons_of_mem _ (List.mem_append_left _ (List.mem_append_right _ h9)))
  subst hsz
  have hD := hD0.self (sz := s.heap.size)
  generalize hAe : va_A (wX ad cA σ) s.heap.size = A at hD hT ⊢
  have hA : ∀ q : Nat, s.heap.size ≤ q → A q := fun q h => by rw [← hAe]; exact Or.inr h
  have hS : va_S A s.heap s.heap [] := va_S.rf
  have hl := lv_entry ([.ref (ad 0), .int p0]) (n := 2) (Nat.le_of_ble_eq_true rfl)
  rw [lg_entry_eq]
  generalize (lg_sl ([.ref (ad 0), .int p0]) ++ List.replicate (2 - (lg_sl ([.ref (ad 0), .int p0])).length) Slot.unset).toArray = ls at hl ⊢
  have hl : lv_has ls 2 [(0, .ref (ad 0)), (1, .int p0)] := hl
  have hts := dr_words hts0 (s.drawn)
  have hK := gKd hK0 (s.drawn)
  have hown : (s.setDrawn (s.drawn)).vm.findClass RX11 = some m.cls := hown0
  refine lv_iload_n hx hb dX11_business_0 rfl (lv_at hl 1 rfl) ?_
  have hF := gFree (w := []) (hx_D0 (A := A)) hS hA
  have hKe := hK.sub (tys' := []) [] rfl
  refine va_calli (va_runS (As := [.int p0]) (rest := []) ⟨hx, hb, hml, hown, hts⟩ (k_X3_isDate l dC dI s.heap.size p0 ) (va_cwS 1 hts gX11_business_X3_isDate rfl rfl rfl (by decide +kernel) ⟨Nat.le_of_ble_eq_true rfl, Nat.le_of_ble_eq_true rfl⟩) ⟨fun a U g mk q => by obtain ⟨q0, q1, qP, qK, qD⟩ := q; exact ⟨q0, q1, qP, va_K.moved (u := U) (U := U.calling g mk a) (Vm.Alike.refl U.vm) qK, qD⟩, fun U hU hW => ⟨rfl, by rw [hU], hx_P0, va_K.moved hW.alike hKe, hx_D0⟩⟩ rfl rfl hl.1 rfl (lv_room (Nat.le_of_ble_eq_true rfl)) dX11_business_1 ⟨Nat.le_of_ble_eq_true rfl, Nat.le_of_ble_eq_true rfl⟩) hS (fun q _ h => hF q h) hF (fun r_1 u t H locs ht hvm hw hB hz1 hk1 hS => ?_)
  have hP := gKeep hP hk1
  refine lv_if_ne (tgt := 13) hx hb dX11_business_4 (by decide) (fun c_2 => ?_) (fun c_2 => ?_)
  · refine lv_aload_n hx hb dX11_business_13 rfl (lv_at hl 0 rfl) ?_
    refine lv_iconst (v := 0) hx hb dX11_business_14 (by decide) ?_
    refine va_put (D := (dC, dI)) (ci := 10) (v := .int 0) (C := RX11) (T := TX11) (N := 15) hx hb hts hinX11 tyX11 tyX11_ok nmX11 hown hK hP hD hS 0 (at_10 rfl) rfl 12 (by decide) (hts (.fieldLink RX11 74 "BondCalendars" "refusal" "I") (by decide +kernel)) (fun _ h9 => h9) rfl (ty := .int) (by decide +kernel) rfl rfl (Nat.le_of_ble_eq_true rfl) dX11_business_15 (fun H locs hP hD hS => ?_)
    obtain ⟨σ1, eσ1, hP, hD⟩ := gPut (se_10_12 rfl) hP hD
    have hIσ1 : InvX σ1 := by rw [eσ1]; exact inv_I hI (ok_10_12 rfl _)
    have frσ1 : gFr [10] σ σ1 := by rw [eσ1]; exact gFr.pI (gFr.rfl (L := [10]) (σ := σ)) rfl (by decide)
    refine lv_aload_n hx hb dX11_business_18 rfl (lv_at hl 0 rfl) ?_
    obtain ⟨b_3, hb_4, q_5⟩ := rq_10_8 (c := 0) hI rfl
    refine va_get (D := (dC, dI)) (ci := 10) (v := .ref (ad b_3)) (C := RX11) (T := TX11) (N := 15) hx hb hts hinX11 hown hK hP 0 (at_10 rfl) rfl 8 (by decide) (hts (.fieldLink RX11 60 "BondCalendars" "live" "LBondCalendars$Desk;") (by decide +kernel)) (fun _ h9 => h9) (by show some (va_re ad ((σ1 0).2.2.2 8)) = _; rw [eσ1, gI_q, q_5]; rfl) dX11_business_19 ?_
    refine va_get (D := (dC, dI)) (ci := 3) (v := .ref (ad (b_3 + 1))) (C := RX4) (T := TX4) (N := 12) hx hb hts hinX4 hown hK hP b_3 (at_3 hb_4) rfl 2 (by decide) (hts (.fieldLink RX11 146 "BondCalendars$Desk" "holidays" "LBondCalendars$Holidays;") (by decide +kernel)) (fun _ h9 => h9) rfl dX11_business_22 ?_
    refine lv_iload_n hx hb dX11_business_25 rfl (lv_at hl 1 rfl) ?_
    have hF := gFree (w := []) (hx_D0 (A := A)) hS hA
    have hKe := hK.sub (tys' := []) [] rfl
    refine va_calli (va_runS (As := [.int p0]) (rest := [.ref (ad (b_3 + 1))]) ⟨hx, hb, hml, hown, hts⟩ (k_X3_dayOf l dC dI H.size p0 ) (va_cwS 1 hts gX11_business_X3_dayOf rfl rfl rfl (by decide +kernel) ⟨Nat.le_of_ble_eq_true rfl, Nat.le_of_ble_eq_true rfl⟩) ⟨fun a U g mk q => by obtain ⟨q0, q1, qP, qK, qD⟩ := q; exact ⟨q0, q1, qP, va_K.moved (u := U) (U := U.calling g mk a) (Vm.Alike.refl U.vm) qK, qD⟩, fun U hU hW => ⟨rfl, by rw [hU], hx_P0, va_K.moved hW.alike hKe, hx_D0⟩⟩ rfl rfl hl.1 rfl (lv_room (Nat.le_of_ble_eq_true rfl)) dX11_business_26 ⟨Nat.le_of_ble_eq_true rfl, Nat.le_of_ble_eq_true rfl⟩) hS (fun q _ h => hF q h) hF (fun r_6 u t H locs ht hvm hw hB hz1 hk1 hS => ?_)
    have hP := gKeep hP hk1
    have hF := gFree hD hS hA
    refine va_calliD hd0 (va_runV_D (As := [.int r_6]) (rest := []) ⟨hx, hb, hml, hown, hts⟩ (n_X5_isBusinessDay l dC dI ad cA adK adV H.size σ1 hIσ1 ((b_3 + 1)) (kk_3_1 hb_4) r_6) (cwV 1 hts gX11_business_X5_isBusinessDay rfl rfl rfl (by decide +kernel) ⟨Nat.le_of_ble_eq_true rfl, Nat.le_of_ble_eq_true rfl⟩) ⟨gBlind, va_recv hK hP (ci := 4) (q0 := ((b_3 + 1))) rfl (at_4 (kk_3_1 hb_4)), gStart (As := [.ref (ad (b_3 + 1)), .int r_6]) hP hD hK0 hT hS hF (s.drawn)⟩ rfl rfl hl.1 rfl (lv_room (Nat.le_of_ble_eq_true rfl)) dX11_business_29 ⟨Nat.le_of_ble_eq_true rfl, Nat.le_of_ble_eq_true rfl⟩) hS (fun q _ h => hF q h) hF (fun r_7 σ2 t H locs ht hvm hw hB hz1 hk1 hS d_8 hd0 => ?_)
    have hts := dr_words hts0 (d_8)
    have hK := gKd hK0 (d_8)
    have hown : (s.setDrawn (d_8)).vm.findClass RX11 = some m.cls := hown0
    obtain ⟨hP, hD⟩ := gBack hF ht hB
    obtain ⟨hIσ2, hro, hp_9⟩ := hw
    subst hro
    refine lv_if_eq (tgt := 39) hx hb dX11_business_32 (by decide) (fun c_10 => ?_) (fun c_10 => ?_)
    · refine lv_iconst (v := 0) hx hb dX11_business_39 (by decide) ?_
      refine W.endD hd0 ?_
      exact W.iret (v := 0) hx hb hr (fun t ht hW => ⟨⟨0, σ1, rfl, ⟨hIσ1, frσ1, trivial⟩, ⟨by rw [ht]; exact hP, hD⟩⟩, hS.F ht⟩) hS.2.2 dX11_business_40
    · refine lv_iconst (v := 1) hx hb dX11_business_35 (by decide) ?_
      refine lv_goto (tgt := 40) hx hb dX11_business_36 (by decide) ?_
      refine W.endD hd0 ?_
      exact W.iret (v := 1) hx hb hr (fun t ht hW => ⟨⟨1, σ1, rfl, ⟨hIσ1, frσ1, trivial⟩, ⟨by rw [ht]; exact hP, hD⟩⟩, hS.F ht⟩) hS.2.2 dX11_business_40
  · refine lv_aload_n hx hb dX11_business_7 rfl (lv_at hl 0 rfl) ?_
    refine lv_iconst (v := 2) hx hb dX11_business_8 (by decide) ?_
    have hF := gFree hD hS hA
    refine va_calliD hd0 (va_runV_D (As := [.int 2]) (rest := []) ⟨hx, hb, hml, hown, hts⟩ (n_X11_refuse l dC dI ad cA adK adV H.size σ hI 2) (cwV 1 hts gX11_business_X11_refuse rfl rfl rfl (by decide +kernel) ⟨Nat.le_of_ble_eq_true rfl, Nat.le_of_ble_eq_true rfl⟩) ⟨gBlind, va_recv hK hP (ci := 10) (q0 := 0) rfl (at_10 rfl), gStart (As := [.ref (ad 0), .int 2]) hP hD hK0 hT hS hF (s.drawn)⟩ rfl rfl hl.1 rfl (lv_room (Nat.le_of_ble_eq_true rfl)) dX11_business_9 ⟨Nat.le_of_ble_eq_true rfl, Nat.le_of_ble_eq_true rfl⟩) hS (fun q _ h => hF q h) hF (fun r_11 σ3 t H locs ht hvm hw hB hz1 hk1 hS d_12 hd0 => ?_)
    have hts := dr_words hts0 (d_12)
    have hK := gKd hK0 (d_12)
    have hown : (s.setDrawn (d_12)).vm.findClass RX11 = some m.cls := hown0
    obtain ⟨hP, hD⟩ := gBack hF ht hB
    obtain ⟨hIσ3, fcσ3, hp_13⟩ := hw
    refine W.endD hd0 ?_
    exact W.iret (v := r_11) hx hb hr (fun t ht hW => ⟨⟨r_11, σ3, rfl, ⟨hIσ3, (gFr.tr (gFr.rfl (L := [10]) (σ := σ)) fcσ3 (by decide)), trivial⟩, ⟨by rw [ht]; exact hP, hD⟩⟩, hS.F ht⟩) hS.2.2 dX11_business_12
set_option maxHeartbeats 8000000 in
set_option maxRecDepth 100000 in
theorem n_X11_businessFrom (l : Launch) (dC : Nat → ClassId) (dI : Nat → Nat → Nat) (ad : Nat → Nat) (cA : Nat → ClassId) (adK adV : Nat → Nat) (sz : Nat) (σ : gs) (hI : InvX σ) (p0 : Int32) (p1 : Int32) : MetD lw_cs l yX11_businessFrom wsX11_businessFrom ({ frames := 4, cells := 0, slots := 0, locals := 89 }) (va_Pc [.ref (ad 0), .int p0, .int p1] (gPre adK adV (dC, dI) (wX ad cA σ) (tX cA) sz)) (va_Qi (fun (r : Int32) (τ : gs) => InvX τ ∧ gFr [10] σ τ ∧ (True)) (fun τ t => gPost (dC, dI) (va_A (wX ad cA σ) sz) (wX ad cA τ) t) (va_A (wX ad cA σ) sz)) 0 0 (va_A (wX ad cA σ) sz) := by
  refine MetD.ofW (cc := cX11_businessFrom) (maxL := 3) (ret := (some .int)) (by decide) rfl ?_
  intro p e s m args below meth c s₁ B hml hv hd0
  obtain ⟨rfl, hsz, hP, hK, hD0, hT⟩ := hv
  have hx := B.exec
  have hb := B.bytes
  have hr := B.returns
  have hts0 := atoms_spec (ws := wsX11_businessFrom) B.pre
  have hK0 := hK
  have hown0 : s.vm.findClass RX11 = some m.cls := findClass_of_methodNamed B.named
  have hlocks := B.notSynchronized
  have hinX11 : ∀ w ∈ u_ws RX11 TX11 15, w ∈ wsX11_businessFrom := (fun _ h9 => List.mem_cons_of_mem _ (List.mem_append_left _ (List.mem_append_left _ (List.mem_append_right _ h9))))
  have hinX4 : ∀ w ∈ u_ws RX4 TX4 12, w ∈ wsX11_businessFrom := (fun _ h9 => List.mem_cons_of_mem _ (List.mem_append_left _ (List.mem_append_right _ h9)))
  subst hsz
  have hD := hD0.self (sz := s.heap.size)
  generalize hAe : va_A (wX ad cA σ) s.heap.size = A at hD hT ⊢
  have hA : ∀ q : Nat, s.heap.size ≤ q → A q := fun q h => by rw [← hAe]; exact Or.inr h
  have hS : va_S A s.heap s.heap [] := va_S.rf
  have hl := lv_entry ([.ref (ad 0), .int p0, .int p1]) (n := 3) (Nat.le_of_ble_eq_true rfl)
  rw [lg_entry_eq]
  generalize (lg_sl ([.ref (ad 0), .int p0, .int p1]) ++ List.replicate (3 - (lg_sl ([.ref (ad 0), .int p0, .int p1])).length) Slot.unset).toArray = ls at hl ⊢
  have hl : lv_has ls 3 [(0, .ref (ad 0)), (1, .int p0), (2, .int p1)] := hl
  have hts := dr_words hts0 (s.drawn)
  have hK := gKd hK0 (s.drawn)
  have hown : (s.setDrawn (s.drawn)).vm.findClass RX11 = some m.cls := hown0
  refine lv_iload_n hx hb dX11_businessFrom_0 rfl (lv_at hl 1 rfl) ?_
  have hF := gFree (w := []) (hx_D0 (A := A)) hS hA
  have hKe := hK.sub (tys' := []) [] rfl
  refine va_calli (va_runS (As := [.int p0]) (rest := []) ⟨hx, hb, hml, hown, hts⟩ (k_X3_isDate l dC dI s.heap.size p0 ) (va_cwS 1 hts gX11_businessFrom_X3_isDate rfl rfl rfl (by decide +kernel) ⟨Nat.le_of_ble_eq_true rfl, Nat.le_of_ble_eq_true rfl⟩) ⟨fun a U g mk q => by obtain ⟨q0, q1, qP, qK, qD⟩ := q; exact ⟨q0, q1, qP, va_K.moved (u := U) (U := U.calling g mk a) (Vm.Alike.refl U.vm) qK, qD⟩, fun U hU hW => ⟨rfl, by rw [hU], hx_P0, va_K.moved hW.alike hKe, hx_D0⟩⟩ rfl rfl hl.1 rfl (lv_room (Nat.le_of_ble_eq_true rfl)) dX11_businessFrom_1 ⟨Nat.le_of_ble_eq_true rfl, Nat.le_of_ble_eq_true rfl⟩) hS (fun q _ h => hF q h) hF (fun r_1 u t H locs ht hvm hw hB hz1 hk1 hS => ?_)
  have hP := gKeep hP hk1
  refine lv_if_eq (tgt := 19) hx hb dX11_businessFrom_4 (by decide) (fun c_2 => ?_) (fun c_2 => ?_)
  · refine lv_aload_n hx hb dX11_businessFrom_19 rfl (lv_at hl 0 rfl) ?_
    refine lv_iconst (v := 2) hx hb dX11_businessFrom_20 (by decide) ?_
    have hF := gFree hD hS hA
    refine va_calliD hd0 (va_runV_D (As := [.int 2]) (rest := []) ⟨hx, hb, hml, hown, hts⟩ (n_X11_refuse l dC dI ad cA adK adV H.size σ hI 2) (cwV 1 hts gX11_businessFrom_X11_refuse rfl rfl rfl (by decide +kernel) ⟨Nat.le_of_ble_eq_true rfl, Nat.le_of_ble_eq_true rfl⟩) ⟨gBlind, va_recv hK hP (ci := 10) (q0 := 0) rfl (at_10 rfl), gStart (As := [.ref (ad 0), .int 2]) hP hD hK0 hT hS hF (s.drawn)⟩ rfl rfl hl.1 rfl (lv_room (Nat.le_of_ble_eq_true rfl)) dX11_businessFrom_21 ⟨Nat.le_of_ble_eq_true rfl, Nat.le_of_ble_eq_true rfl⟩) hS (fun q _ h => hF q h) hF (fun r_3 σ1 t H locs ht hvm hw hB hz1 hk1 hS d_4 hd0 => ?_)
    have hts := dr_words hts0 (d_4)
    have hK := gKd hK0 (d_4)
    have hown : (s.setDrawn (d_4)).vm.findClass RX11 = some m.cls := hown0
    obtain ⟨hP, hD⟩ := gBack hF ht hB
    obtain ⟨hIσ1, fcσ1, hp_5⟩ := hw
    refine W.endD hd0 ?_
    exact W.iret (v := r_3) hx hb hr (fun t ht hW => ⟨⟨r_3, σ1, rfl, ⟨hIσ1, (gFr.tr (gFr.rfl (L := [10]) (σ := σ)) fcσ1 (by decide)), trivial⟩, ⟨by rw [ht]; exact hP, hD⟩⟩, hS.F ht⟩) hS.2.2 dX11_businessFrom_24
  · refine lv_iload_n hx hb dX11_businessFrom_7 rfl (lv_at hl 2 rfl) ?_
    refine lv_bipush (v := (-60)) hx hb dX11_businessFrom_8 (by decide) ?_
    refine lv_icmp_lt (tgt := 19) hx hb dX11_businessFrom_10 (by decide) (fun c_6 => ?_) (fun c_6 => ?_)
    · refine lv_aload_n hx hb dX11_businessFrom_19 rfl (lv_at hl 0 rfl) ?_
      refine lv_iconst (v := 2) hx hb dX11_businessFrom_20 (by decide) ?_
      have hF := gFree hD hS hA
      refine va_calliD hd0 (va_runV_D (As := [.int 2]) (rest := []) ⟨hx, hb, hml, hown, hts⟩ (n_X11_refuse l dC dI ad cA adK adV H.size σ hI 2) (cwV 1 hts gX11_businessFrom_X11_refuse rfl rfl rfl (by decide +kernel) ⟨Nat.le_of_ble_eq_true rfl, Nat.le_of_ble_eq_true rfl⟩) ⟨gBlind, va_recv hK hP (ci := 10) (q0 := 0) rfl (at_10 rfl), gStart (As := [.ref (ad 0), .int 2]) hP hD hK0 hT hS hF (s.drawn)⟩ rfl rfl hl.1 rfl (lv_room (Nat.le_of_ble_eq_true rfl)) dX11_businessFrom_21 ⟨Nat.le_of_ble_eq_true rfl, Nat.le_of_ble_eq_true rfl⟩) hS (fun q _ h => hF q h) hF (fun r_7 σ2 t H locs ht hvm hw hB hz1 hk1 hS d_8 hd0 => ?_)
      have hts := dr_words hts0 (d_8)
      have hK := gKd hK0 (d_8)
      have hown : (s.setDrawn (d_8)).vm.findClass RX11 = some m.cls := hown0
      obtain ⟨hP, hD⟩ := gBack hF ht hB
      obtain ⟨hIσ2, fcσ2, hp_9⟩ := hw
      refine W.endD hd0 ?_
      exact W.iret (v := r_7) hx hb hr (fun t ht hW => ⟨⟨r_7, σ2, rfl, ⟨hIσ2, (gFr.tr (gFr.rfl (L := [10]) (σ := σ)) fcσ2 (by decide)), trivial⟩, ⟨by rw [ht]; exact hP, hD⟩⟩, hS.F ht⟩) hS.2.2 dX11_businessFrom_24
    · refine lv_iload_n hx hb dX11_businessFrom_13 rfl (lv_at hl 2 rfl) ?_
      refine lv_bipush (v := 60) hx hb dX11_businessFrom_14 (by decide) ?_
      refine lv_icmp_le (tgt := 25) hx hb dX11_businessFrom_16 (by decide) (fun c_10 => ?_) (fun c_10 => ?_)
      · refine lv_aload_n hx hb dX11_businessFrom_25 rfl (lv_at hl 0 rfl) ?_
        refine lv_iconst (v := 0) hx hb dX11_businessFrom_26 (by decide) ?_
        refine va_put (D := (dC, dI)) (ci := 10) (v := .int 0) (C := RX11) (T := TX11) (N := 15) hx hb hts hinX11 tyX11 tyX11_ok nmX11 hown hK hP hD hS 0 (at_10 rfl) rfl 12 (by decide) (hts (.fieldLink RX11 74 "BondCalendars" "refusal" "I") (by decide +kernel)) (fun _ h9 => h9) rfl (ty := .int) (by decide +kernel) rfl rfl (Nat.le_of_ble_eq_true rfl) dX11_businessFrom_27 (fun H locs hP hD hS => ?_)
        obtain ⟨σ3, eσ3, hP, hD⟩ := gPut (se_10_12 rfl) hP hD
        have hIσ3 : InvX σ3 := by rw [eσ3]; exact inv_I hI (ok_10_12 rfl _)
        have frσ3 : gFr [10] σ σ3 := by rw [eσ3]; exact gFr.pI (gFr.rfl (L := [10]) (σ := σ)) rfl (by decide)
        refine lv_aload_n hx hb dX11_businessFrom_30 rfl (lv_at hl 0 rfl) ?_
        obtain ⟨b_11, hb_12, q_13⟩ := rq_10_8 (c := 0) hI rfl
        refine va_get (D := (dC, dI)) (ci := 10) (v := .ref (ad b_11)) (C := RX11) (T := TX11) (N := 15) hx hb hts hinX11 hown hK hP 0 (at_10 rfl) rfl 8 (by decide) (hts (.fieldLink RX11 60 "BondCalendars" "live" "LBondCalendars$Desk;") (by decide +kernel)) (fun _ h9 => h9) (by show some (va_re ad ((σ3 0).2.2.2 8)) = _; rw [eσ3, gI_q, q_13]; rfl) dX11_businessFrom_31 ?_
        refine va_get (D := (dC, dI)) (ci := 3) (v := .ref (ad (b_11 + 1))) (C := RX4) (T := TX4) (N := 12) hx hb hts hinX4 hown hK hP b_11 (at_3 hb_12) rfl 2 (by decide) (hts (.fieldLink RX11 146 "BondCalendars$Desk" "holidays" "LBondCalendars$Holidays;") (by decide +kernel)) (fun _ h9 => h9) rfl dX11_businessFrom_34 ?_
        refine lv_iload_n hx hb dX11_businessFrom_37 rfl (lv_at hl 1 rfl) ?_
        have hF := gFree (w := []) (hx_D0 (A := A)) hS hA
        have hKe := hK.sub (tys' := []) [] rfl
        refine va_calli (va_runS (As := [.int p0]) (rest := [.ref (ad (b_11 + 1))]) ⟨hx, hb, hml, hown, hts⟩ (k_X3_dayOf l dC dI H.size p0 ) (va_cwS 1 hts gX11_businessFrom_X3_dayOf rfl rfl rfl (by decide +kernel) ⟨Nat.le_of_ble_eq_true rfl, Nat.le_of_ble_eq_true rfl⟩) ⟨fun a U g mk q => by obtain ⟨q0, q1, qP, qK, qD⟩ := q; exact ⟨q0, q1, qP, va_K.moved (u := U) (U := U.calling g mk a) (Vm.Alike.refl U.vm) qK, qD⟩, fun U hU hW => ⟨rfl, by rw [hU], hx_P0, va_K.moved hW.alike hKe, hx_D0⟩⟩ rfl rfl hl.1 rfl (lv_room (Nat.le_of_ble_eq_true rfl)) dX11_businessFrom_38 ⟨Nat.le_of_ble_eq_true rfl, Nat.le_of_ble_eq_true rfl⟩) hS (fun q _ h => hF q h) hF (fun r_14 u t H locs ht hvm hw hB hz1 hk1 hS => ?_)
        have hP := gKeep hP hk1
        refine lv_iload_n hx hb dX11_businessFrom_41 rfl (lv_at hl 2 rfl) ?_
        have hF := gFree hD hS hA
        refine va_calliD hd0 (va_runV_D (As := [.int r_14, .int p1]) (rest := []) ⟨hx, hb, hml, hown, hts⟩ (n_X5_businessDaysFrom l dC dI ad cA adK adV H.size σ3 hIσ3 ((b_11 + 1)) (kk_3_1 hb_12) r_14 p1) (cwV 2 hts gX11_businessFrom_X5_businessDaysFrom rfl rfl rfl (by decide +kernel) ⟨Nat.le_of_ble_eq_true rfl, Nat.le_of_ble_eq_true rfl⟩) ⟨gBlind, va_recv hK hP (ci := 4) (q0 := ((b_11 + 1))) rfl (at_4 (kk_3_1 hb_12)), gStart (As := [.ref (ad (b_11 + 1)), .int r_14, .int p1]) hP hD hK0 hT hS hF (s.drawn)⟩ rfl rfl hl.1 rfl (lv_room (Nat.le_of_ble_eq_true rfl)) dX11_businessFrom_42 ⟨Nat.le_of_ble_eq_true rfl, Nat.le_of_ble_eq_true rfl⟩) hS (fun q _ h => hF q h) hF (fun r_15 σ4 t H locs ht hvm hw hB hz1 hk1 hS d_16 hd0 => ?_)
        have hts := dr_words hts0 (d_16)
        have hK := gKd hK0 (d_16)
        have hown : (s.setDrawn (d_16)).vm.findClass RX11 = some m.cls := hown0
        obtain ⟨hP, hD⟩ := gBack hF ht hB
        obtain ⟨hIσ4, hro, hp_17⟩ := hw
        subst hro
        have hF := gFree (w := []) (hx_D0 (A := A)) hS hA
        have hKe := hK.sub (tys' := []) [] rfl
        refine va_calli (va_runS (As := [.int r_15]) (rest := []) ⟨hx, hb, hml, hown, hts⟩ (k_X3_numberOf l dC dI H.size r_15 ) (va_cwS 1 hts gX11_businessFrom_X3_numberOf rfl rfl rfl (by decide +kernel) ⟨Nat.le_of_ble_eq_true rfl, Nat.le_of_ble_eq_true rfl⟩) ⟨fun a U g mk q => by obtain ⟨q0, q1, qP, qK, qD⟩ := q; exact ⟨q0, q1, qP, va_K.moved (u := U) (U := U.calling g mk a) (Vm.Alike.refl U.vm) qK, qD⟩, fun U hU hW => ⟨rfl, by rw [hU], hx_P0, va_K.moved hW.alike hKe, hx_D0⟩⟩ rfl rfl hl.1 rfl (lv_room (Nat.le_of_ble_eq_true rfl)) dX11_businessFrom_45 ⟨Nat.le_of_ble_eq_true rfl, Nat.le_of_ble_eq_true rfl⟩) hS (fun q _ h => hF q h) hF (fun r_18 u t H locs ht hvm hw hB hz1 hk1 hS => ?_)
        have hP := gKeep hP hk1
        refine W.endD hd0 ?_
        exact W.iret (v := r_18) hx hb hr (fun t ht hW => ⟨⟨r_18, σ3, rfl, ⟨hIσ3, frσ3, trivial⟩, ⟨by rw [ht]; exact hP, hD⟩⟩, hS.F ht⟩) hS.2.2 dX11_businessFrom_48
      · refine lv_aload_n hx hb dX11_businessFrom_19 rfl (lv_at hl 0 rfl) ?_
        refine lv_iconst (v := 2) hx hb dX11_businessFrom_20 (by decide) ?_
        have hF := gFree hD hS hA
        refine va_calliD hd0 (va_runV_D (As := [.int 2]) (rest := []) ⟨hx, hb, hml, hown, hts⟩ (n_X11_refuse l dC dI ad cA adK adV H.size σ hI 2) (cwV 1 hts gX11_businessFrom_X11_refuse rfl rfl rfl (by decide +kernel) ⟨Nat.le_of_ble_eq_true rfl, Nat.le_of_ble_eq_true rfl⟩) ⟨gBlind, va_recv hK hP (ci := 10) (q0 := 0) rfl (at_10 rfl), gStart (As := [.ref (ad 0), .int 2]) hP hD hK0 hT hS hF (s.drawn)⟩ rfl rfl hl.1 rfl (lv_room (Nat.le_of_ble_eq_true rfl)) dX11_businessFrom_21 ⟨Nat.le_of_ble_eq_true rfl, Nat.le_of_ble_eq_true rfl⟩) hS (fun q _ h => hF q h) hF (fun r_19 σ5 t H locs ht hvm hw hB hz1 hk1 hS d_20 hd0 => ?_)
        have hts := dr_words hts0 (d_20)
        have hK := gKd hK0 (d_20)
        have hown : (s.setDrawn (d_20)).vm.findClass RX11 = some m.cls := hown0
        obtain ⟨hP, hD⟩ := gBack hF ht hB
        obtain ⟨hIσ5, fcσ5, hp_21⟩ := hw
        refine W.endD hd0 ?_
        exact W.iret (v := r_19) hx hb hr (fun t ht hW => ⟨⟨r_19, σ5, rfl, ⟨hIσ5, (gFr.tr (gFr.rfl (L := [10]) (σ := σ)) fcσ5 (by decide)), trivial⟩, ⟨by rw [ht]; exact hP, hD⟩⟩, hS.F ht⟩) hS.2.2 dX11_businessFrom_24
set_option maxHeartbeats 8000000 in
set_option maxRecDepth 100000 in
theorem n_X11_counted (l : Launch) (dC : Nat → ClassId) (dI : Nat → Nat → Nat) (ad : Nat → Nat) (cA : Nat → ClassId) (adK adV : Nat → Nat) (sz : Nat) (σ : gs) (hI : InvX σ) (p0 : Int32) (p1 : Int32) (p2 : Int32) (p3 : Int32) : MetD lw_cs l yX11_counted wsX11_counted ({ frames := 3, cells := 0, slots := 0, locals := 79 }) (va_Pc [.ref (ad 0), .int p0, .int p1, .int p2, .int p3] (gPre adK adV (dC, dI) (wX ad cA σ) (tX cA) sz)) (va_Ql (fun (r : Int64) (τ : gs) => InvX τ ∧ gFr [5, 10] σ τ ∧ (True)) (fun τ t => gPost (dC, dI) (va_A (wX ad cA σ) sz) (wX ad cA τ) t) (va_A (wX ad cA σ) sz)) 0 0 (va_A (wX ad cA σ) sz) := by
  refine MetD.ofW (cc := cX11_counted) (maxL := 5) (ret := (some .long)) (by decide) rfl ?_
  intro p e s m args below meth c s₁ B hml hv hd0
  obtain ⟨rfl, hsz, hP, hK, hD0, hT⟩ := hv
  have hx := B.exec
  have hb := B.bytes
  have hr := B.returns
  have hts0 := atoms_spec (ws := wsX11_counted) B.pre
  have hK0 := hK
  have hown0 : s.vm.findClass RX11 = some m.cls := findClass_of_methodNamed B.named
  have hlocks := B.notSynchronized
  have hinX11 : ∀ w ∈ u_ws RX11 TX11 15, w ∈ wsX11_counted := (fun _ h9 => List.mem_cons_of_mem _ (List.mem_append_left _ (List.mem_append_right _ h9)))
  subst hsz
  have hD := hD0.self (sz := s.heap.size)
  generalize hAe : va_A (wX ad cA σ) s.heap.size = A at hD hT ⊢
  have hA : ∀ q : Nat, s.heap.size ≤ q → A q := fun q h => by rw [← hAe]; exact Or.inr h
  have hS : va_S A s.heap s.heap [] := va_S.rf
  have hl := lv_entry ([.ref (ad 0), .int p0, .int p1, .int p2, .int p3]) (n := 5) (Nat.le_of_ble_eq_true rfl)
  rw [lg_entry_eq]
  generalize (lg_sl ([.ref (ad 0), .int p0, .int p1, .int p2, .int p3]) ++ List.replicate (5 - (lg_sl ([.ref (ad 0), .int p0, .int p1, .int p2, .int p3])).length) Slot.unset).toArray = ls at hl ⊢
  have hl : lv_has ls 5 [(0, .ref (ad 0)), (1, .int p0), (2, .int p1), (3, .int p2), (4, .int p3)] := hl
  have hts := dr_words hts0 (s.drawn)
  have hK := gKd hK0 (s.drawn)
  have hown : (s.setDrawn (s.drawn)).vm.findClass RX11 = some m.cls := hown0
  refine lv_iload_n hx hb dX11_counted_0 rfl (lv_at hl 1 rfl) ?_
  refine lv_if_lt (tgt := 9) hx hb dX11_counted_1 (by decide) (fun c_1 => ?_) (fun c_1 => ?_)
  · refine lv_aload_n hx hb dX11_counted_9 rfl (lv_at hl 0 rfl) ?_
    refine lv_iconst (v := 1) hx hb dX11_counted_10 (by decide) ?_
    have hF := gFree hD hS hA
    refine va_calliD hd0 (va_runV_D (As := [.int 1]) (rest := []) ⟨hx, hb, hml, hown, hts⟩ (n_X11_refuse l dC dI ad cA adK adV s.heap.size σ hI 1) (cwV 1 hts gX11_counted_X11_refuse rfl rfl rfl (by decide +kernel) ⟨Nat.le_of_ble_eq_true rfl, Nat.le_of_ble_eq_true rfl⟩) ⟨gBlind, va_recv hK hP (ci := 10) (q0 := 0) rfl (at_10 rfl), gStart (As := [.ref (ad 0), .int 1]) hP hD hK0 hT hS hF (s.drawn)⟩ rfl rfl hl.1 rfl (lv_room (Nat.le_of_ble_eq_true rfl)) dX11_counted_11 ⟨Nat.le_of_ble_eq_true rfl, Nat.le_of_ble_eq_true rfl⟩) hS (fun q _ h => hF q h) hF (fun r_2 σ1 t H locs ht hvm hw hB hz1 hk1 hS d_3 hd0 => ?_)
    have hts := dr_words hts0 (d_3)
    have hK := gKd hK0 (d_3)
    have hown : (s.setDrawn (d_3)).vm.findClass RX11 = some m.cls := hown0
    obtain ⟨hP, hD⟩ := gBack hF ht hB
    obtain ⟨hIσ1, fcσ1, hp_4⟩ := hw
    refine lv_i2l hx hb dX11_counted_14 rfl ?_
    refine W.endD hd0 ?_
    exact W.lret (v := (r_2.toInt64)) hx hb hr (fun t ht hW => ⟨⟨(r_2.toInt64), σ1, rfl, ⟨hIσ1, (gFr.tr (gFr.rfl (L := [5, 10]) (σ := σ)) fcσ1 (by decide)), trivial⟩, ⟨by rw [ht]; exact hP, hD⟩⟩, hS.F ht⟩) hS.2.2 dX11_counted_15
  · refine lv_iload_n hx hb dX11_counted_4 rfl (lv_at hl 1 rfl) ?_
    refine lv_iconst (v := 3) hx hb dX11_counted_5 (by decide) ?_
    refine lv_icmp_le (tgt := 16) hx hb dX11_counted_6 (by decide) (fun c_5 => ?_) (fun c_5 => ?_)
    · refine lv_iload_n hx hb dX11_counted_16 rfl (lv_at hl 2 rfl) ?_
      have hF := gFree (w := []) (hx_D0 (A := A)) hS hA
      have hKe := hK.sub (tys' := []) [] rfl
      refine va_calli (va_runS (As := [.int p1]) (rest := []) ⟨hx, hb, hml, hown, hts⟩ (k_X3_isDate l dC dI s.heap.size p1 ) (va_cwS 1 hts gX11_counted_X3_isDate rfl rfl rfl (by decide +kernel) ⟨Nat.le_of_ble_eq_true rfl, Nat.le_of_ble_eq_true rfl⟩) ⟨fun a U g mk q => by obtain ⟨q0, q1, qP, qK, qD⟩ := q; exact ⟨q0, q1, qP, va_K.moved (u := U) (U := U.calling g mk a) (Vm.Alike.refl U.vm) qK, qD⟩, fun U hU hW => ⟨rfl, by rw [hU], hx_P0, va_K.moved hW.alike hKe, hx_D0⟩⟩ rfl rfl hl.1 rfl (lv_room (Nat.le_of_ble_eq_true rfl)) dX11_counted_17 ⟨Nat.le_of_ble_eq_true rfl, Nat.le_of_ble_eq_true rfl⟩) hS (fun q _ h => hF q h) hF (fun r_6 u t H locs ht hvm hw hB hz1 hk1 hS => ?_)
      have hP := gKeep hP hk1
      refine lv_if_eq (tgt := 35) hx hb dX11_counted_20 (by decide) (fun c_7 => ?_) (fun c_7 => ?_)
      · refine lv_aload_n hx hb dX11_counted_35 rfl (lv_at hl 0 rfl) ?_
        refine lv_iconst (v := 2) hx hb dX11_counted_36 (by decide) ?_
        have hF := gFree hD hS hA
        refine va_calliD hd0 (va_runV_D (As := [.int 2]) (rest := []) ⟨hx, hb, hml, hown, hts⟩ (n_X11_refuse l dC dI ad cA adK adV H.size σ hI 2) (cwV 1 hts gX11_counted_X11_refuse rfl rfl rfl (by decide +kernel) ⟨Nat.le_of_ble_eq_true rfl, Nat.le_of_ble_eq_true rfl⟩) ⟨gBlind, va_recv hK hP (ci := 10) (q0 := 0) rfl (at_10 rfl), gStart (As := [.ref (ad 0), .int 2]) hP hD hK0 hT hS hF (s.drawn)⟩ rfl rfl hl.1 rfl (lv_room (Nat.le_of_ble_eq_true rfl)) dX11_counted_37 ⟨Nat.le_of_ble_eq_true rfl, Nat.le_of_ble_eq_true rfl⟩) hS (fun q _ h => hF q h) hF (fun r_8 σ2 t H locs ht hvm hw hB hz1 hk1 hS d_9 hd0 => ?_)
        have hts := dr_words hts0 (d_9)
        have hK := gKd hK0 (d_9)
        have hown : (s.setDrawn (d_9)).vm.findClass RX11 = some m.cls := hown0
        obtain ⟨hP, hD⟩ := gBack hF ht hB
        obtain ⟨hIσ2, fcσ2, hp_10⟩ := hw
        refine lv_i2l hx hb dX11_counted_40 rfl ?_
        refine W.endD hd0 ?_
        exact W.lret (v := (r_8.toInt64)) hx hb hr (fun t ht hW => ⟨⟨(r_8.toInt64), σ2, rfl, ⟨hIσ2, (gFr.tr (gFr.rfl (L := [5, 10]) (σ := σ)) fcσ2 (by decide)), trivial⟩, ⟨by rw [ht]; exact hP, hD⟩⟩, hS.F ht⟩) hS.2.2 dX11_counted_41
      · refine lv_iload_n hx hb dX11_counted_23 rfl (lv_at hl 3 rfl) ?_
        have hF := gFree (w := []) (hx_D0 (A := A)) hS hA
        have hKe := hK.sub (tys' := []) [] rfl
        refine va_calli (va_runS (As := [.int p2]) (rest := []) ⟨hx, hb, hml, hown, hts⟩ (k_X3_isDate l dC dI H.size p2 ) (va_cwS 1 hts gX11_counted_X3_isDate rfl rfl rfl (by decide +kernel) ⟨Nat.le_of_ble_eq_true rfl, Nat.le_of_ble_eq_true rfl⟩) ⟨fun a U g mk q => by obtain ⟨q0, q1, qP, qK, qD⟩ := q; exact ⟨q0, q1, qP, va_K.moved (u := U) (U := U.calling g mk a) (Vm.Alike.refl U.vm) qK, qD⟩, fun U hU hW => ⟨rfl, by rw [hU], hx_P0, va_K.moved hW.alike hKe, hx_D0⟩⟩ rfl rfl hl.1 rfl (lv_room (Nat.le_of_ble_eq_true rfl)) dX11_counted_24 ⟨Nat.le_of_ble_eq_true rfl, Nat.le_of_ble_eq_true rfl⟩) hS (fun q _ h => hF q h) hF (fun r_11 u t H locs ht hvm hw hB hz1 hk1 hS => ?_)
        have hP := gKeep hP hk1
        refine lv_if_eq (tgt := 35) hx hb dX11_counted_27 (by decide) (fun c_12 => ?_) (fun c_12 => ?_)
        · refine lv_aload_n hx hb dX11_counted_35 rfl (lv_at hl 0 rfl) ?_
          refine lv_iconst (v := 2) hx hb dX11_counted_36 (by decide) ?_
          have hF := gFree hD hS hA
          refine va_calliD hd0 (va_runV_D (As := [.int 2]) (rest := []) ⟨hx, hb, hml, hown, hts⟩ (n_X11_refuse l dC dI ad cA adK adV H.size σ hI 2) (cwV 1 hts gX11_counted_X11_refuse rfl rfl rfl (by decide +kernel) ⟨Nat.le_of_ble_eq_true rfl, Nat.le_of_ble_eq_true rfl⟩) ⟨gBlind, va_recv hK hP (ci := 10) (q0 := 0) rfl (at_10 rfl), gStart (As := [.ref (ad 0), .int 2]) hP hD hK0 hT hS hF (s.drawn)⟩ rfl rfl hl.1 rfl (lv_room (Nat.le_of_ble_eq_true rfl)) dX11_counted_37 ⟨Nat.le_of_ble_eq_true rfl, Nat.le_of_ble_eq_true rfl⟩) hS (fun q _ h => hF q h) hF (fun r_13 σ3 t H locs ht hvm hw hB hz1 hk1 hS d_14 hd0 => ?_)
          have hts := dr_words hts0 (d_14)
          have hK := gKd hK0 (d_14)
          have hown : (s.setDrawn (d_14)).vm.findClass RX11 = some m.cls := hown0
          obtain ⟨hP, hD⟩ := gBack hF ht hB
          obtain ⟨hIσ3, fcσ3, hp_15⟩ := hw
          refine lv_i2l hx hb dX11_counted_40 rfl ?_
          refine W.endD hd0 ?_
          exact W.lret (v := (r_13.toInt64)) hx hb hr (fun t ht hW => ⟨⟨(r_13.toInt64), σ3, rfl, ⟨hIσ3, (gFr.tr (gFr.rfl (L := [5, 10]) (σ := σ)) fcσ3 (by decide)), trivial⟩, ⟨by rw [ht]; exact hP, hD⟩⟩, hS.F ht⟩) hS.2.2 dX11_counted_41
        · refine lv_iload_n hx hb dX11_counted_30 rfl (lv_at hl 3 rfl) ?_
          refine lv_iload_n hx hb dX11_counted_31 rfl (lv_at hl 2 rfl) ?_
          refine lv_icmp_ge (tgt := 42) hx hb dX11_counted_32 (by decide) (fun c_16 => ?_) (fun c_16 => ?_)
          · refine lv_aload_n hx hb dX11_counted_42 rfl (lv_at hl 0 rfl) ?_
            refine lv_iconst (v := 0) hx hb dX11_counted_43 (by decide) ?_
            refine va_put (D := (dC, dI)) (ci := 10) (v := .int 0) (C := RX11) (T := TX11) (N := 15) hx hb hts hinX11 tyX11 tyX11_ok nmX11 hown hK hP hD hS 0 (at_10 rfl) rfl 12 (by decide) (hts (.fieldLink RX11 74 "BondCalendars" "refusal" "I") (by decide +kernel)) (fun _ h9 => h9) rfl (ty := .int) (by decide +kernel) rfl rfl (Nat.le_of_ble_eq_true rfl) dX11_counted_44 (fun H locs hP hD hS => ?_)
            obtain ⟨σ4, eσ4, hP, hD⟩ := gPut (se_10_12 rfl) hP hD
            have hIσ4 : InvX σ4 := by rw [eσ4]; exact inv_I hI (ok_10_12 rfl _)
            have frσ4 : gFr [5, 10] σ σ4 := by rw [eσ4]; exact gFr.pI (gFr.rfl (L := [5, 10]) (σ := σ)) rfl (by decide)
            refine lv_aload_n hx hb dX11_counted_47 rfl (lv_at hl 0 rfl) ?_
            refine va_get (D := (dC, dI)) (ci := 10) (v := .ref (ad 9)) (C := RX11) (T := TX11) (N := 15) hx hb hts hinX11 hown hK hP 0 (at_10 rfl) rfl 3 (by decide) (hts (.fieldLink RX11 33 "BondCalendars" "ratio" "LBondCalendars$Ratio;") (by decide +kernel)) (fun _ h9 => h9) rfl dX11_counted_48 ?_
            refine lv_iload_n hx hb dX11_counted_51 rfl (lv_at hl 1 rfl) ?_
            refine lv_iload_n hx hb dX11_counted_52 rfl (lv_at hl 2 rfl) ?_
            have hF := gFree (w := []) (hx_D0 (A := A)) hS hA
            have hKe := hK.sub (tys' := []) [] rfl
            refine va_calli (va_runS (As := [.int p1]) (rest := [.int p0, .ref (ad 9)]) ⟨hx, hb, hml, hown, hts⟩ (k_X3_dayOf l dC dI H.size p1 ) (va_cwS 1 hts gX11_counted_X3_dayOf rfl rfl rfl (by decide +kernel) ⟨Nat.le_of_ble_eq_true rfl, Nat.le_of_ble_eq_true rfl⟩) ⟨fun a U g mk q => by obtain ⟨q0, q1, qP, qK, qD⟩ := q; exact ⟨q0, q1, qP, va_K.moved (u := U) (U := U.calling g mk a) (Vm.Alike.refl U.vm) qK, qD⟩, fun U hU hW => ⟨rfl, by rw [hU], hx_P0, va_K.moved hW.alike hKe, hx_D0⟩⟩ rfl rfl hl.1 rfl (lv_room (Nat.le_of_ble_eq_true rfl)) dX11_counted_53 ⟨Nat.le_of_ble_eq_true rfl, Nat.le_of_ble_eq_true rfl⟩) hS (fun q _ h => hF q h) hF (fun r_17 u t H locs ht hvm hw hB hz1 hk1 hS => ?_)
            have hP := gKeep hP hk1
            refine lv_iload_n hx hb dX11_counted_56 rfl (lv_at hl 3 rfl) ?_
            have hF := gFree (w := []) (hx_D0 (A := A)) hS hA
            have hKe := hK.sub (tys' := []) [] rfl
            refine va_calli (va_runS (As := [.int p2]) (rest := [.int r_17, .int p0, .ref (ad 9)]) ⟨hx, hb, hml, hown, hts⟩ (k_X3_dayOf l dC dI H.size p2 ) (va_cwS 1 hts gX11_counted_X3_dayOf rfl rfl rfl (by decide +kernel) ⟨Nat.le_of_ble_eq_true rfl, Nat.le_of_ble_eq_true rfl⟩) ⟨fun a U g mk q => by obtain ⟨q0, q1, qP, qK, qD⟩ := q; exact ⟨q0, q1, qP, va_K.moved (u := U) (U := U.calling g mk a) (Vm.Alike.refl U.vm) qK, qD⟩, fun U hU hW => ⟨rfl, by rw [hU], hx_P0, va_K.moved hW.alike hKe, hx_D0⟩⟩ rfl rfl hl.1 rfl (lv_room (Nat.le_of_ble_eq_true rfl)) dX11_counted_57 ⟨Nat.le_of_ble_eq_true rfl, Nat.le_of_ble_eq_true rfl⟩) hS (fun q _ h => hF q h) hF (fun r_18 u t H locs ht hvm hw hB hz1 hk1 hS => ?_)
            have hP := gKeep hP hk1
            have hF := gFree hD hS hA
            refine va_callvD hd0 (va_runV_D (As := [.int p0, .int r_17, .int r_18]) (rest := []) ⟨hx, hb, hml, hown, hts⟩ (n_X6_setCounted l dC dI ad cA adK adV H.size σ4 hIσ4 9 rfl p0 r_17 r_18) (cwV 3 hts gX11_counted_X6_setCounted rfl rfl rfl (by decide +kernel) ⟨Nat.le_of_ble_eq_true rfl, Nat.le_of_ble_eq_true rfl⟩) ⟨gBlind, va_recv hK hP (ci := 5) (q0 := 9) rfl (at_5 rfl), gStart (As := [.ref (ad 9), .int p0, .int r_17, .int r_18]) hP hD hK0 hT hS hF (s.drawn)⟩ rfl rfl hl.1 rfl (lv_room (Nat.le_of_ble_eq_true rfl)) dX11_counted_60 ⟨Nat.le_of_ble_eq_true rfl, Nat.le_of_ble_eq_true rfl⟩) hS (fun q _ h => hF q h) hF (fun σ5 t H locs ht hvm hw hB hz1 hk1 hS d_20 hd0 => ?_)
            have hts := dr_words hts0 (d_20)
            have hK := gKd hK0 (d_20)
            have hown : (s.setDrawn (d_20)).vm.findClass RX11 = some m.cls := hown0
            obtain ⟨hP, hD⟩ := gBack hF ht hB
            obtain ⟨hIσ5, fcσ5, hp_21⟩ := hw
            refine lv_aload_n hx hb dX11_counted_63 rfl (lv_at hl 0 rfl) ?_
            refine va_get (D := (dC, dI)) (ci := 10) (v := .ref (ad 9)) (C := RX11) (T := TX11) (N := 15) hx hb hts hinX11 hown hK hP 0 (at_10 rfl) rfl 3 (by decide) (hts (.fieldLink RX11 33 "BondCalendars" "ratio" "LBondCalendars$Ratio;") (by decide +kernel)) (fun _ h9 => h9) rfl dX11_counted_64 ?_
            refine lv_iload hx hb dX11_counted_67 (lv_at hl 4 rfl) ?_
            have hF := gFree hD hS hA
            refine va_calllD hd0 (va_runV_D (As := [.int p3]) (rest := []) ⟨hx, hb, hml, hown, hts⟩ (n_X6_part l dC dI ad cA adK adV H.size σ5 hIσ5 9 rfl p3) (cwV 1 hts gX11_counted_X6_part rfl rfl rfl (by decide +kernel) ⟨Nat.le_of_ble_eq_true rfl, Nat.le_of_ble_eq_true rfl⟩) ⟨gBlind, va_recv hK hP (ci := 5) (q0 := 9) rfl (at_5 rfl), gStart (As := [.ref (ad 9), .int p3]) hP hD hK0 hT hS hF (d_20)⟩ rfl rfl hl.1 rfl (lv_room (Nat.le_of_ble_eq_true rfl)) dX11_counted_69 ⟨Nat.le_of_ble_eq_true rfl, Nat.le_of_ble_eq_true rfl⟩) hS (fun q _ h => hF q h) hF (fun r_22 σ6 t H locs ht hvm hw hB hz1 hk1 hS d_23 hd0 => ?_)
            have hts := dr_words hts0 (d_23)
            have hK := gKd hK0 (d_23)
            have hown : (s.setDrawn (d_23)).vm.findClass RX11 = some m.cls := hown0
            obtain ⟨hP, hD⟩ := gBack hF ht hB
            obtain ⟨hIσ6, hro, hp_24⟩ := hw
            subst hro
            refine W.endD hd0 ?_
            exact W.lret (v := r_22) hx hb hr (fun t ht hW => ⟨⟨r_22, σ5, rfl, ⟨hIσ5, (gFr.tr frσ4 fcσ5 (by decide)), trivial⟩, ⟨by rw [ht]; exact hP, hD⟩⟩, hS.F ht⟩) hS.2.2 dX11_counted_72
          · refine lv_aload_n hx hb dX11_counted_35 rfl (lv_at hl 0 rfl) ?_
            refine lv_iconst (v := 2) hx hb dX11_counted_36 (by decide) ?_
            have hF := gFree hD hS hA
            refine va_calliD hd0 (va_runV_D (As := [.int 2]) (rest := []) ⟨hx, hb, hml, hown, hts⟩ (n_X11_refuse l dC dI ad cA adK adV H.size σ hI 2) (cwV 1 hts gX11_counted_X11_refuse rfl rfl rfl (by decide +kernel) ⟨Nat.le_of_ble_eq_true rfl, Nat.le_of_ble_eq_true rfl⟩) ⟨gBlind, va_recv hK hP (ci := 10) (q0 := 0) rfl (at_10 rfl), gStart (As := [.ref (ad 0), .int 2]) hP hD hK0 hT hS hF (s.drawn)⟩ rfl rfl hl.1 rfl (lv_room (Nat.le_of_ble_eq_true rfl)) dX11_counted_37 ⟨Nat.le_of_ble_eq_true rfl, Nat.le_of_ble_eq_true rfl⟩) hS (fun q _ h => hF q h) hF (fun r_25 σ7 t H locs ht hvm hw hB hz1 hk1 hS d_26 hd0 => ?_)
            have hts := dr_words hts0 (d_26)
            have hK := gKd hK0 (d_26)
            have hown : (s.setDrawn (d_26)).vm.findClass RX11 = some m.cls := hown0
            obtain ⟨hP, hD⟩ := gBack hF ht hB
            obtain ⟨hIσ7, fcσ7, hp_27⟩ := hw
            refine lv_i2l hx hb dX11_counted_40 rfl ?_
            refine W.endD hd0 ?_
            exact W.lret (v := (r_25.toInt64)) hx hb hr (fun t ht hW => ⟨⟨(r_25.toInt64), σ7, rfl, ⟨hIσ7, (gFr.tr (gFr.rfl (L := [5, 10]) (σ := σ)) fcσ7 (by decide)), trivial⟩, ⟨by rw [ht]; exact hP, hD⟩⟩, hS.F ht⟩) hS.2.2 dX11_counted_41
    · refine lv_aload_n hx hb dX11_counted_9 rfl (lv_at hl 0 rfl) ?_
      refine lv_iconst (v := 1) hx hb dX11_counted_10 (by decide) ?_
      have hF := gFree hD hS hA
      refine va_calliD hd0 (va_runV_D (As := [.int 1]) (rest := []) ⟨hx, hb, hml, hown, hts⟩ (n_X11_refuse l dC dI ad cA adK adV s.heap.size σ hI 1) (cwV 1 hts gX11_counted_X11_refuse rfl rfl rfl (by decide +kernel) ⟨Nat.le_of_ble_eq_true rfl, Nat.le_of_ble_eq_true rfl⟩) ⟨gBlind, va_recv hK hP (ci := 10) (q0 := 0) rfl (at_10 rfl), gStart (As := [.ref (ad 0), .int 1]) hP hD hK0 hT hS hF (s.drawn)⟩ rfl rfl hl.1 rfl (lv_room (Nat.le_of_ble_eq_true rfl)) dX11_counted_11 ⟨Nat.le_of_ble_eq_true rfl, Nat.le_of_ble_eq_true rfl⟩) hS (fun q _ h => hF q h) hF (fun r_28 σ8 t H locs ht hvm hw hB hz1 hk1 hS d_29 hd0 => ?_)
      have hts := dr_words hts0 (d_29)
      have hK := gKd hK0 (d_29)
      have hown : (s.setDrawn (d_29)).vm.findClass RX11 = some m.cls := hown0
      obtain ⟨hP, hD⟩ := gBack hF ht hB
      obtain ⟨hIσ8, fcσ8, hp_30⟩ := hw
      refine lv_i2l hx hb dX11_counted_14 rfl ?_
      refine W.endD hd0 ?_
      exact W.lret (v := (r_28.toInt64)) hx hb hr (fun t ht hW => ⟨⟨(r_28.toInt64), σ8, rfl, ⟨hIσ8, (gFr.tr (gFr.rfl (L := [5, 10]) (σ := σ)) fcσ8 (by decide)), trivial⟩, ⟨by rw [ht]; exact hP, hD⟩⟩, hS.F ht⟩) hS.2.2 dX11_counted_15
set_option maxHeartbeats 8000000 in
set_option maxRecDepth 100000 in
theorem n_X11_bond (l : Launch) (dC : Nat → ClassId) (dI : Nat → Nat → Nat) (ad : Nat → Nat) (cA : Nat → ClassId) (adK adV : Nat → Nat) (sz : Nat) (σ : gs) (hI : InvX σ) (p0 : Int32) (p1 : Int32) : MetD lw_cs l yX11_bond wsX11_bond ({ frames := 1, cells := 0, slots := 0, locals := 29 }) (va_Pc [.ref (ad 0), .int p0, .int p1] (gPre adK adV (dC, dI) (wX ad cA σ) (tX cA) sz)) (va_Qi (fun (r : Int32) (τ : gs) => InvX τ ∧ gFr [10] σ τ ∧ (True)) (fun τ t => gPost (dC, dI) (va_A (wX ad cA σ) sz) (wX ad cA τ) t) (va_A (wX ad cA σ) sz)) 0 0 (va_A (wX ad cA σ) sz) := by
  refine MetD.ofW (cc := cX11_bond) (maxL := 4) (ret := (some .int)) (by decide) rfl ?_
  intro p e s m args below meth c s₁ B hml hv hd0
  obtain ⟨rfl, hsz, hP, hK, hD0, hT⟩ := hv
  have hx := B.exec
  have hb := B.bytes
  have hr := B.returns
  have hts0 := atoms_spec (ws := wsX11_bond) B.pre
  have hK0 := hK
  have hown0 : s.vm.findClass RX11 = some m.cls := findClass_of_methodNamed B.named
  have hlocks := B.notSynchronized
  have hinX11 : ∀ w ∈ u_ws RX11 TX11 15, w ∈ wsX11_bond := (fun _ h9 => List.mem_cons_of_mem _ (List.mem_append_left _ (List.mem_append_left _ (List.mem_append_right _ h9))))
  have hinX0 : ∀ w ∈ u_ws RX0 TX0 16, w ∈ wsX11_bond := (fun _ h9 => List.mem_cons_of_mem _ (List.mem_append_left _ (List.mem_append_right _ h9)))
  subst hsz
  have hD := hD0.self (sz := s.heap.size)
  generalize hAe : va_A (wX ad cA σ) s.heap.size = A at hD hT ⊢
  have hA : ∀ q : Nat, s.heap.size ≤ q → A q := fun q h => by rw [← hAe]; exact Or.inr h
  have hS : va_S A s.heap s.heap [] := va_S.rf
  have hl := lv_entry ([.ref (ad 0), .int p0, .int p1]) (n := 4) (Nat.le_of_ble_eq_true rfl)
  rw [lg_entry_eq]
  generalize (lg_sl ([.ref (ad 0), .int p0, .int p1]) ++ List.replicate (4 - (lg_sl ([.ref (ad 0), .int p0, .int p1])).length) Slot.unset).toArray = ls at hl ⊢
  have hl : lv_has ls 4 [(0, .ref (ad 0)), (1, .int p0), (2, .int p1)] := hl
  have hts := dr_words hts0 (s.drawn)
  have hK := gKd hK0 (s.drawn)
  have hown : (s.setDrawn (s.drawn)).vm.findClass RX11 = some m.cls := hown0
  refine lv_aload_n hx hb dX11_bond_0 rfl (lv_at hl 0 rfl) ?_
  refine lv_iload_n hx hb dX11_bond_1 rfl (lv_at hl 1 rfl) ?_
  have hF := gFree hD hS hA
  refine va_callqD hd0 (va_runV_D (As := [.int p0]) (rest := []) ⟨hx, hb, hml, hown, hts⟩ (n_X11_bondOf l dC dI ad cA adK adV s.heap.size σ hI p0) (cwV 1 hts gX11_bond_X11_bondOf rfl rfl rfl (by decide +kernel) ⟨Nat.le_of_ble_eq_true rfl, Nat.le_of_ble_eq_true rfl⟩) ⟨gBlind, va_recv hK hP (ci := 10) (q0 := 0) rfl (at_10 rfl), gStart (As := [.ref (ad 0), .int p0]) hP hD hK0 hT hS hF (s.drawn)⟩ rfl rfl hl.1 rfl (lv_room (Nat.le_of_ble_eq_true rfl)) dX11_bond_2 ⟨Nat.le_of_ble_eq_true rfl, Nat.le_of_ble_eq_true rfl⟩) hS (fun q _ h => hF q h) hF (fun r_1 σ1 t H locs ht hvm hw hB hz1 hk1 hS d_2 hd0 => ?_)
  have hts := dr_words hts0 (d_2)
  have hK := gKd hK0 (d_2)
  have hown : (s.setDrawn (d_2)).vm.findClass RX11 = some m.cls := hown0
  obtain ⟨hP, hD⟩ := gBack hF ht hB
  obtain ⟨hIσ1, hro, hp_3⟩ := hw
  subst hro
  rcases hp_3 with rfl | ⟨b_4, hb_5, rfl, hq_6, hq_7⟩
  · refine W.eq (g2 := F0 m 5 ls [.null]) rfl ?_
    refine lv_astore_nN (lv' := [(3, .null), (0, .ref (ad 0)), (1, .int p0), (2, .int p1)]) hx hb dX11_bond_5 rfl hl (by decide) rfl (fun ls hl => ?_)
    refine lv_aload_nN hx hb dX11_bond_6 rfl (lv_at hl 0 rfl) ?_
    refine lv_ifnullN (tgt := 20) hx hb dX11_bond_7 (by decide) ?_
    refine lv_aload_n hx hb dX11_bond_20 rfl (lv_at hl 1 rfl) ?_
    refine lv_iconst (v := 1) hx hb dX11_bond_21 (by decide) ?_
    have hF := gFree hD hS hA
    refine va_calliD hd0 (va_runV_D (As := [.int 1]) (rest := []) ⟨hx, hb, hml, hown, hts⟩ (n_X11_refuse l dC dI ad cA adK adV H.size σ hI 1) (cwV 1 hts gX11_bond_X11_refuse rfl rfl rfl (by decide +kernel) ⟨Nat.le_of_ble_eq_true rfl, Nat.le_of_ble_eq_true rfl⟩) ⟨gBlind, va_recv hK hP (ci := 10) (q0 := 0) rfl (at_10 rfl), gStart (As := [.ref (ad 0), .int 1]) hP hD hK0 hT hS hF (d_2)⟩ rfl rfl hl.1 rfl (lv_room (Nat.le_of_ble_eq_true rfl)) dX11_bond_22 ⟨Nat.le_of_ble_eq_true rfl, Nat.le_of_ble_eq_true rfl⟩) hS (fun q _ h => hF q h) hF (fun r_8 σ2 t H locs ht hvm hw hB hz1 hk1 hS d_9 hd0 => ?_)
    have hts := dr_words hts0 (d_9)
    have hK := gKd hK0 (d_9)
    have hown : (s.setDrawn (d_9)).vm.findClass RX11 = some m.cls := hown0
    obtain ⟨hP, hD⟩ := gBack hF ht hB
    obtain ⟨hIσ2, fcσ2, hp_10⟩ := hw
    refine W.endD hd0 ?_
    exact W.iret (v := r_8) hx hb hr (fun t ht hW => ⟨⟨r_8, σ2, rfl, ⟨hIσ2, (gFr.tr (gFr.rfl (L := [10]) (σ := σ)) fcσ2 (by decide)), trivial⟩, ⟨by rw [ht]; exact hP, hD⟩⟩, hS.F ht⟩) hS.2.2 dX11_bond_25
  · refine W.eq (g2 := F0 m 5 ls [.ref (ad b_4)]) rfl ?_
    refine lv_astore_n (lv' := [(3, .ref (ad b_4)), (0, .ref (ad 0)), (1, .int p0), (2, .int p1)]) hx hb dX11_bond_5 rfl hl (by decide) rfl (fun ls hl => ?_)
    refine lv_aload_n hx hb dX11_bond_6 rfl (lv_at hl 0 rfl) ?_
    refine lv_ifnull hx hb dX11_bond_7 ?_
    refine lv_iload_n hx hb dX11_bond_10 rfl (lv_at hl 3 rfl) ?_
    refine lv_if_lt (tgt := 20) hx hb dX11_bond_11 (by decide) (fun c_11 => ?_) (fun c_11 => ?_)
    · refine lv_aload_n hx hb dX11_bond_20 rfl (lv_at hl 1 rfl) ?_
      refine lv_iconst (v := 1) hx hb dX11_bond_21 (by decide) ?_
      have hF := gFree hD hS hA
      refine va_calliD hd0 (va_runV_D (As := [.int 1]) (rest := []) ⟨hx, hb, hml, hown, hts⟩ (n_X11_refuse l dC dI ad cA adK adV H.size σ hI 1) (cwV 1 hts gX11_bond_X11_refuse rfl rfl rfl (by decide +kernel) ⟨Nat.le_of_ble_eq_true rfl, Nat.le_of_ble_eq_true rfl⟩) ⟨gBlind, va_recv hK hP (ci := 10) (q0 := 0) rfl (at_10 rfl), gStart (As := [.ref (ad 0), .int 1]) hP hD hK0 hT hS hF (d_2)⟩ rfl rfl hl.1 rfl (lv_room (Nat.le_of_ble_eq_true rfl)) dX11_bond_22 ⟨Nat.le_of_ble_eq_true rfl, Nat.le_of_ble_eq_true rfl⟩) hS (fun q _ h => hF q h) hF (fun r_12 σ3 t H locs ht hvm hw hB hz1 hk1 hS d_13 hd0 => ?_)
      have hts := dr_words hts0 (d_13)
      have hK := gKd hK0 (d_13)
      have hown : (s.setDrawn (d_13)).vm.findClass RX11 = some m.cls := hown0
      obtain ⟨hP, hD⟩ := gBack hF ht hB
      obtain ⟨hIσ3, fcσ3, hp_14⟩ := hw
      refine W.endD hd0 ?_
      exact W.iret (v := r_12) hx hb hr (fun t ht hW => ⟨⟨r_12, σ3, rfl, ⟨hIσ3, (gFr.tr (gFr.rfl (L := [10]) (σ := σ)) fcσ3 (by decide)), trivial⟩, ⟨by rw [ht]; exact hP, hD⟩⟩, hS.F ht⟩) hS.2.2 dX11_bond_25
    · refine lv_iload_n hx hb dX11_bond_14 rfl (lv_at hl 3 rfl) ?_
      refine lv_bipush (v := 8) hx hb dX11_bond_15 (by decide) ?_
      refine lv_icmp_le (tgt := 26) hx hb dX11_bond_17 (by decide) (fun c_15 => ?_) (fun c_15 => ?_)
      · refine lv_aload_n hx hb dX11_bond_26 rfl (lv_at hl 1 rfl) ?_
        refine lv_iconst (v := 0) hx hb dX11_bond_27 (by decide) ?_
        refine va_put (D := (dC, dI)) (ci := 10) (v := .int 0) (C := RX11) (T := TX11) (N := 15) hx hb hts hinX11 tyX11 tyX11_ok nmX11 hown hK hP hD hS 0 (at_10 rfl) rfl 12 (by decide) (hts (.fieldLink RX11 74 "BondCalendars" "refusal" "I") (by decide +kernel)) (fun _ h9 => h9) rfl (ty := .int) (by decide +kernel) rfl rfl (Nat.le_of_ble_eq_true rfl) dX11_bond_28 (fun H locs hP hD hS => ?_)
        obtain ⟨σ4, eσ4, hP, hD⟩ := gPut (se_10_12 rfl) hP hD
        have hIσ4 : InvX σ4 := by rw [eσ4]; exact inv_I hI (ok_10_12 rfl _)
        have frσ4 : gFr [10] σ σ4 := by rw [eσ4]; exact gFr.pI (gFr.rfl (L := [10]) (σ := σ)) rfl (by decide)
        refine lv_iload_n hx hb dX11_bond_31 rfl (lv_at hl 3 rfl) ?_
        by_cases c_16 : p1 = 0
        · refine lv_tableIn (tgt := 80) hx hb dX11_bond_32 (by rw [c_16]; decide) (by rw [c_16]; decide) (by rw [c_16]; rfl) (by decide) ?_
          refine lv_aload_n hx hb dX11_bond_80 rfl (lv_at hl 0 rfl) ?_
          refine va_get (D := (dC, dI)) (ci := 0) (v := .int ((σ b_4).1 0)) (C := RX0) (T := TX0) (N := 16) hx hb hts hinX0 hown hK hP b_4 (at_0 hb_5) rfl 0 (by decide) (hts (.fieldLink RX11 176 "BondCalendars$Bond" "rate" "I") (by decide +kernel)) (fun _ h9 => h9) (congrArg (fun z => some (Value.int z)) (show (σ4 b_4).1 0 = ((σ b_4).1 0) from by rw [eσ4, gI_ne _ _ _ (kne hb_5 rfl (by decide))])) dX11_bond_81 ?_
          refine W.endD hd0 ?_
          exact W.iret (v := ((σ b_4).1 0)) hx hb hr (fun t ht hW => ⟨⟨((σ b_4).1 0), σ4, rfl, ⟨hIσ4, frσ4, trivial⟩, ⟨by rw [ht]; exact hP, hD⟩⟩, hS.F ht⟩) hS.2.2 dX11_bond_84
        by_cases c_17 : p1 = 1
        · refine lv_tableIn (tgt := 85) hx hb dX11_bond_32 (by rw [c_17]; decide) (by rw [c_17]; decide) (by rw [c_17]; rfl) (by decide) ?_
          refine lv_aload_n hx hb dX11_bond_85 rfl (lv_at hl 0 rfl) ?_
          refine va_get (D := (dC, dI)) (ci := 0) (v := .int ((σ b_4).1 1)) (C := RX0) (T := TX0) (N := 16) hx hb hts hinX0 hown hK hP b_4 (at_0 hb_5) rfl 1 (by decide) (hts (.fieldLink RX11 179 "BondCalendars$Bond" "frequency" "I") (by decide +kernel)) (fun _ h9 => h9) (congrArg (fun z => some (Value.int z)) (show (σ4 b_4).1 1 = ((σ b_4).1 1) from by rw [eσ4, gI_ne _ _ _ (kne hb_5 rfl (by decide))])) dX11_bond_86 ?_
          refine W.endD hd0 ?_
          exact W.iret (v := ((σ b_4).1 1)) hx hb hr (fun t ht hW => ⟨⟨((σ b_4).1 1), σ4, rfl, ⟨hIσ4, frσ4, trivial⟩, ⟨by rw [ht]; exact hP, hD⟩⟩, hS.F ht⟩) hS.2.2 dX11_bond_89
        by_cases c_18 : p1 = 2
        · refine lv_tableIn (tgt := 90) hx hb dX11_bond_32 (by rw [c_18]; decide) (by rw [c_18]; decide) (by rw [c_18]; rfl) (by decide) ?_
          refine lv_aload_n hx hb dX11_bond_90 rfl (lv_at hl 0 rfl) ?_
          refine va_get (D := (dC, dI)) (ci := 0) (v := .int ((σ b_4).1 2)) (C := RX0) (T := TX0) (N := 16) hx hb hts hinX0 hown hK hP b_4 (at_0 hb_5) rfl 2 (by decide) (hts (.fieldLink RX11 182 "BondCalendars$Bond" "rule" "I") (by decide +kernel)) (fun _ h9 => h9) (congrArg (fun z => some (Value.int z)) (show (σ4 b_4).1 2 = ((σ b_4).1 2) from by rw [eσ4, gI_ne _ _ _ (kne hb_5 rfl (by decide))])) dX11_bond_91 ?_
          refine W.endD hd0 ?_
          exact W.iret (v := ((σ b_4).1 2)) hx hb hr (fun t ht hW => ⟨⟨((σ b_4).1 2), σ4, rfl, ⟨hIσ4, frσ4, trivial⟩, ⟨by rw [ht]; exact hP, hD⟩⟩, hS.F ht⟩) hS.2.2 dX11_bond_94
        by_cases c_19 : p1 = 3
        · refine lv_tableIn (tgt := 95) hx hb dX11_bond_32 (by rw [c_19]; decide) (by rw [c_19]; decide) (by rw [c_19]; rfl) (by decide) ?_
          refine lv_aload_n hx hb dX11_bond_95 rfl (lv_at hl 0 rfl) ?_
          refine va_get (D := (dC, dI)) (ci := 0) (v := .int ((σ b_4).1 4)) (C := RX0) (T := TX0) (N := 16) hx hb hts hinX0 hown hK hP b_4 (at_0 hb_5) rfl 4 (by decide) (hts (.fieldLink RX11 185 "BondCalendars$Bond" "matureDay" "I") (by decide +kernel)) (fun _ h9 => h9) (congrArg (fun z => some (Value.int z)) (show (σ4 b_4).1 4 = ((σ b_4).1 4) from by rw [eσ4, gI_ne _ _ _ (kne hb_5 rfl (by decide))])) dX11_bond_96 ?_
          have hF := gFree (w := []) (hx_D0 (A := A)) hS hA
          have hKe := hK.sub (tys' := []) [] rfl
          refine va_calli (va_runS (As := [.int ((σ b_4).1 4)]) (rest := []) ⟨hx, hb, hml, hown, hts⟩ (k_X3_numberOf l dC dI H.size ((σ b_4).1 4) ) (va_cwS 1 hts gX11_bond_X3_numberOf rfl rfl rfl (by decide +kernel) ⟨Nat.le_of_ble_eq_true rfl, Nat.le_of_ble_eq_true rfl⟩) ⟨fun a U g mk q => by obtain ⟨q0, q1, qP, qK, qD⟩ := q; exact ⟨q0, q1, qP, va_K.moved (u := U) (U := U.calling g mk a) (Vm.Alike.refl U.vm) qK, qD⟩, fun U hU hW => ⟨rfl, by rw [hU], hx_P0, va_K.moved hW.alike hKe, hx_D0⟩⟩ rfl rfl hl.1 rfl (lv_room (Nat.le_of_ble_eq_true rfl)) dX11_bond_99 ⟨Nat.le_of_ble_eq_true rfl, Nat.le_of_ble_eq_true rfl⟩) hS (fun q _ h => hF q h) hF (fun r_20 u t H locs ht hvm hw hB hz1 hk1 hS => ?_)
          have hP := gKeep hP hk1
          refine W.endD hd0 ?_
          exact W.iret (v := r_20) hx hb hr (fun t ht hW => ⟨⟨r_20, σ4, rfl, ⟨hIσ4, frσ4, trivial⟩, ⟨by rw [ht]; exact hP, hD⟩⟩, hS.F ht⟩) hS.2.2 dX11_bond_102
        by_cases c_21 : p1 = 4
        · refine lv_tableIn (tgt := 103) hx hb dX11_bond_32 (by rw [c_21]; decide) (by rw [c_21]; decide) (by rw [c_21]; rfl) (by decide) ?_
          refine lv_aload_n hx hb dX11_bond_103 rfl (lv_at hl 0 rfl) ?_
          refine va_get (D := (dC, dI)) (ci := 0) (v := .int ((σ b_4).1 5)) (C := RX0) (T := TX0) (N := 16) hx hb hts hinX0 hown hK hP b_4 (at_0 hb_5) rfl 5 (by decide) (hts (.fieldLink RX11 188 "BondCalendars$Bond" "anchorDay" "I") (by decide +kernel)) (fun _ h9 => h9) (congrArg (fun z => some (Value.int z)) (show (σ4 b_4).1 5 = ((σ b_4).1 5) from by rw [eσ4, gI_ne _ _ _ (kne hb_5 rfl (by decide))])) dX11_bond_104 ?_
          have hF := gFree (w := []) (hx_D0 (A := A)) hS hA
          have hKe := hK.sub (tys' := []) [] rfl
          refine va_calli (va_runS (As := [.int ((σ b_4).1 5)]) (rest := []) ⟨hx, hb, hml, hown, hts⟩ (k_X3_numberOf l dC dI H.size ((σ b_4).1 5) ) (va_cwS 1 hts gX11_bond_X3_numberOf rfl rfl rfl (by decide +kernel) ⟨Nat.le_of_ble_eq_true rfl, Nat.le_of_ble_eq_true rfl⟩) ⟨fun a U g mk q => by obtain ⟨q0, q1, qP, qK, qD⟩ := q; exact ⟨q0, q1, qP, va_K.moved (u := U) (U := U.calling g mk a) (Vm.Alike.refl U.vm) qK, qD⟩, fun U hU hW => ⟨rfl, by rw [hU], hx_P0, va_K.moved hW.alike hKe, hx_D0⟩⟩ rfl rfl hl.1 rfl (lv_room (Nat.le_of_ble_eq_true rfl)) dX11_bond_107 ⟨Nat.le_of_ble_eq_true rfl, Nat.le_of_ble_eq_true rfl⟩) hS (fun q _ h => hF q h) hF (fun r_22 u t H locs ht hvm hw hB hz1 hk1 hS => ?_)
          have hP := gKeep hP hk1
          refine W.endD hd0 ?_
          exact W.iret (v := r_22) hx hb hr (fun t ht hW => ⟨⟨r_22, σ4, rfl, ⟨hIσ4, frσ4, trivial⟩, ⟨by rw [ht]; exact hP, hD⟩⟩, hS.F ht⟩) hS.2.2 dX11_bond_110
        by_cases c_23 : p1 = 5
        · refine lv_tableIn (tgt := 111) hx hb dX11_bond_32 (by rw [c_23]; decide) (by rw [c_23]; decide) (by rw [c_23]; rfl) (by decide) ?_
          refine lv_aload_n hx hb dX11_bond_111 rfl (lv_at hl 0 rfl) ?_
          refine va_get (D := (dC, dI)) (ci := 0) (v := .int ((σ b_4).1 6)) (C := RX0) (T := TX0) (N := 16) hx hb hts hinX0 hown hK hP b_4 (at_0 hb_5) rfl 6 (by decide) (hts (.fieldLink RX11 191 "BondCalendars$Bond" "issueDay" "I") (by decide +kernel)) (fun _ h9 => h9) (congrArg (fun z => some (Value.int z)) (show (σ4 b_4).1 6 = ((σ b_4).1 6) from by rw [eσ4, gI_ne _ _ _ (kne hb_5 rfl (by decide))])) dX11_bond_112 ?_
          have hF := gFree (w := []) (hx_D0 (A := A)) hS hA
          have hKe := hK.sub (tys' := []) [] rfl
          refine va_calli (va_runS (As := [.int ((σ b_4).1 6)]) (rest := []) ⟨hx, hb, hml, hown, hts⟩ (k_X3_numberOf l dC dI H.size ((σ b_4).1 6) ) (va_cwS 1 hts gX11_bond_X3_numberOf rfl rfl rfl (by decide +kernel) ⟨Nat.le_of_ble_eq_true rfl, Nat.le_of_ble_eq_true rfl⟩) ⟨fun a U g mk q => by obtain ⟨q0, q1, qP, qK, qD⟩ := q; exact ⟨q0, q1, qP, va_K.moved (u := U) (U := U.calling g mk a) (Vm.Alike.refl U.vm) qK, qD⟩, fun U hU hW => ⟨rfl, by rw [hU], hx_P0, va_K.moved hW.alike hKe, hx_D0⟩⟩ rfl rfl hl.1 rfl (lv_room (Nat.le_of_ble_eq_true rfl)) dX11_bond_115 ⟨Nat.le_of_ble_eq_true rfl, Nat.le_of_ble_eq_true rfl⟩) hS (fun q _ h => hF q h) hF (fun r_24 u t H locs ht hvm hw hB hz1 hk1 hS => ?_)
          have hP := gKeep hP hk1
          refine W.endD hd0 ?_
          exact W.iret (v := r_24) hx hb hr (fun t ht hW => ⟨⟨r_24, σ4, rfl, ⟨hIσ4, frσ4, trivial⟩, ⟨by rw [ht]; exact hP, hD⟩⟩, hS.F ht⟩) hS.2.2 dX11_bond_118
        by_cases c_25 : p1 = 6
        · refine lv_tableIn (tgt := 119) hx hb dX11_bond_32 (by rw [c_25]; decide) (by rw [c_25]; decide) (by rw [c_25]; rfl) (by decide) ?_
          refine lv_aload_n hx hb dX11_bond_119 rfl (lv_at hl 0 rfl) ?_
          refine va_get (D := (dC, dI)) (ci := 0) (v := .int ((σ b_4).1 3)) (C := RX0) (T := TX0) (N := 16) hx hb hts hinX0 hown hK hP b_4 (at_0 hb_5) rfl 3 (by decide) (hts (.fieldLink RX11 194 "BondCalendars$Bond" "monthEnds" "Z") (by decide +kernel)) (fun _ h9 => h9) (congrArg (fun z => some (Value.int z)) (show (σ4 b_4).1 3 = ((σ b_4).1 3) from by rw [eσ4, gI_ne _ _ _ (kne hb_5 rfl (by decide))])) dX11_bond_120 ?_
          refine lv_if_eq (tgt := 130) hx hb dX11_bond_123 (by decide) (fun c_26 => ?_) (fun c_26 => ?_)
          · refine lv_iconst (v := 0) hx hb dX11_bond_130 (by decide) ?_
            refine W.endD hd0 ?_
            exact W.iret (v := 0) hx hb hr (fun t ht hW => ⟨⟨0, σ4, rfl, ⟨hIσ4, frσ4, trivial⟩, ⟨by rw [ht]; exact hP, hD⟩⟩, hS.F ht⟩) hS.2.2 dX11_bond_131
          · refine lv_iconst (v := 1) hx hb dX11_bond_126 (by decide) ?_
            refine lv_goto (tgt := 131) hx hb dX11_bond_127 (by decide) ?_
            refine W.endD hd0 ?_
            exact W.iret (v := 1) hx hb hr (fun t ht hW => ⟨⟨1, σ4, rfl, ⟨hIσ4, frσ4, trivial⟩, ⟨by rw [ht]; exact hP, hD⟩⟩, hS.F ht⟩) hS.2.2 dX11_bond_131
        by_cases c_27 : p1 = 7
        · refine lv_tableIn (tgt := 132) hx hb dX11_bond_32 (by rw [c_27]; decide) (by rw [c_27]; decide) (by rw [c_27]; rfl) (by decide) ?_
          refine lv_aload_n hx hb dX11_bond_132 rfl (lv_at hl 0 rfl) ?_
          refine va_get (D := (dC, dI)) (ci := 0) (v := .int ((σ b_4).1 7)) (C := RX0) (T := TX0) (N := 16) hx hb hts hinX0 hown hK hP b_4 (at_0 hb_5) rfl 7 (by decide) (hts (.fieldLink RX11 197 "BondCalendars$Bond" "exDays" "I") (by decide +kernel)) (fun _ h9 => h9) (congrArg (fun z => some (Value.int z)) (show (σ4 b_4).1 7 = ((σ b_4).1 7) from by rw [eσ4, gI_ne _ _ _ (kne hb_5 rfl (by decide))])) dX11_bond_133 ?_
          refine W.endD hd0 ?_
          exact W.iret (v := ((σ b_4).1 7)) hx hb hr (fun t ht hW => ⟨⟨((σ b_4).1 7), σ4, rfl, ⟨hIσ4, frσ4, trivial⟩, ⟨by rw [ht]; exact hP, hD⟩⟩, hS.F ht⟩) hS.2.2 dX11_bond_136
        refine lv_tableOut (tgt := 137) hx hb dX11_bond_32 (by have q0 := lv_neT (a := 0) c_16 rfl; have q1 := lv_neT (a := 1) c_17 rfl; have q2 := lv_neT (a := 2) c_18 rfl; have q3 := lv_neT (a := 3) c_19 rfl; have q4 := lv_neT (a := 4) c_21 rfl; have q5 := lv_neT (a := 5) c_23 rfl; have q6 := lv_neT (a := 6) c_25 rfl; have q7 := lv_neT (a := 7) c_27 rfl; omega) (by decide) ?_
        refine lv_aload_n hx hb dX11_bond_137 rfl (lv_at hl 0 rfl) ?_
        have bd_28 := rd_0_9 (c := b_4) hI hb_5
        refine va_get (D := (dC, dI)) (ci := 0) (v := .int ((σ b_4).1 9)) (C := RX0) (T := TX0) (N := 16) hx hb hts hinX0 hown hK hP b_4 (at_0 hb_5) rfl 9 (by decide) (hts (.fieldLink RX11 200 "BondCalendars$Bond" "periods" "I") (by decide +kernel)) (fun _ h9 => h9) (congrArg (fun z => some (Value.int z)) (show (σ4 b_4).1 9 = ((σ b_4).1 9) from by rw [eσ4, gI_ne _ _ _ (kne hb_5 rfl (by decide))])) dX11_bond_138 ?_
        refine W.endD hd0 ?_
        exact W.iret (v := ((σ b_4).1 9)) hx hb hr (fun t ht hW => ⟨⟨((σ b_4).1 9), σ4, rfl, ⟨hIσ4, frσ4, trivial⟩, ⟨by rw [ht]; exact hP, hD⟩⟩, hS.F ht⟩) hS.2.2 dX11_bond_141
      · refine lv_aload_n hx hb dX11_bond_20 rfl (lv_at hl 1 rfl) ?_
        refine lv_iconst (v := 1) hx hb dX11_bond_21 (by decide) ?_
        have hF := gFree hD hS hA
        refine va_calliD hd0 (va_runV_D (As := [.int 1]) (rest := []) ⟨hx, hb, hml, hown, hts⟩ (n_X11_refuse l dC dI ad cA adK adV H.size σ hI 1) (cwV 1 hts gX11_bond_X11_refuse rfl rfl rfl (by decide +kernel) ⟨Nat.le_of_ble_eq_true rfl, Nat.le_of_ble_eq_true rfl⟩) ⟨gBlind, va_recv hK hP (ci := 10) (q0 := 0) rfl (at_10 rfl), gStart (As := [.ref (ad 0), .int 1]) hP hD hK0 hT hS hF (d_2)⟩ rfl rfl hl.1 rfl (lv_room (Nat.le_of_ble_eq_true rfl)) dX11_bond_22 ⟨Nat.le_of_ble_eq_true rfl, Nat.le_of_ble_eq_true rfl⟩) hS (fun q _ h => hF q h) hF (fun r_29 σ5 t H locs ht hvm hw hB hz1 hk1 hS d_30 hd0 => ?_)
        have hts := dr_words hts0 (d_30)
        have hK := gKd hK0 (d_30)
        have hown : (s.setDrawn (d_30)).vm.findClass RX11 = some m.cls := hown0
        obtain ⟨hP, hD⟩ := gBack hF ht hB
        obtain ⟨hIσ5, fcσ5, hp_31⟩ := hw
        refine W.endD hd0 ?_
        exact W.iret (v := r_29) hx hb hr (fun t ht hW => ⟨⟨r_29, σ5, rfl, ⟨hIσ5, (gFr.tr (gFr.rfl (L := [10]) (σ := σ)) fcσ5 (by decide)), trivial⟩, ⟨by rw [ht]; exact hP, hD⟩⟩, hS.F ht⟩) hS.2.2 dX11_bond_25
set_option maxHeartbeats 8000000 in
set_option maxRecDepth 100000 in
theorem n_X11_grid (l : Launch) (dC : Nat → ClassId) (dI : Nat → Nat → Nat) (ad : Nat → Nat) (cA : Nat → ClassId) (adK adV : Nat → Nat) (sz : Nat) (σ : gs) (hI : InvX σ) (p0 : Int32) (p1 : Int32) : MetD lw_cs l yX11_grid wsX11_grid ({ frames := 1, cells := 0, slots := 0, locals := 29 }) (va_Pc [.ref (ad 0), .int p0, .int p1] (gPre adK adV (dC, dI) (wX ad cA σ) (tX cA) sz)) (va_Qi (fun (r : Int32) (τ : gs) => InvX τ ∧ gFr [10] σ τ ∧ (True)) (fun τ t => gPost (dC, dI) (va_A (wX ad cA σ) sz) (wX ad cA τ) t) (va_A (wX ad cA σ) sz)) 0 0 (va_A (wX ad cA σ) sz) := by
  refine MetD.ofW (cc := cX11_grid) (maxL := 5) (ret := (some .int)) (by decide) rfl ?_
  intro p e s m args below meth c s₁ B hml hv hd0
  obtain ⟨rfl, hsz, hP, hK, hD0, hT⟩ := hv
  have hx := B.exec
  have hb := B.bytes
  have hr := B.returns
  have hts0 := atoms_spec (ws := wsX11_grid) B.pre
  have hK0 := hK
  have hown0 : s.vm.findClass RX11 = some m.cls := findClass_of_methodNamed B.named
  have hlocks := B.notSynchronized
  have hinX0 : ∀ w ∈ u_ws RX0 TX0 16, w ∈ wsX11_grid := (fun _ h9 => List.mem_cons_of_mem _ (List.mem_append_left _ (List.mem_append_left _ (List.mem_append_right _ h9))))
  have hinX11 : ∀ w ∈ u_ws RX11 TX11 15, w ∈ wsX11_grid := (fun _ h9 => List.mem_cons_of_mem _ (List.mem_append_left _ (List.mem_append_right _ h9)))
  subst hsz
  have hD := hD0.self (sz := s.heap.size)
  generalize hAe : va_A (wX ad cA σ) s.heap.size = A at hD hT ⊢
  have hA : ∀ q : Nat, s.heap.size ≤ q → A q := fun q h => by rw [← hAe]; exact Or.inr h
  have hS : va_S A s.heap s.heap [] := va_S.rf
  have hl := lv_entry ([.ref (ad 0), .int p0, .int p1]) (n := 5) (Nat.le_of_ble_eq_true rfl)
  rw [lg_entry_eq]
  generalize (lg_sl ([.ref (ad 0), .int p0, .int p1]) ++ List.replicate (5 - (lg_sl ([.ref (ad 0), .int p0, .int p1])).length) Slot.unset).toArray = ls at hl ⊢
  have hl : lv_has ls 5 [(0, .ref (ad 0)), (1, .int p0), (2, .int p1)] := hl
  have hts := dr_words hts0 (s.drawn)
  have hK := gKd hK0 (s.drawn)
  have hown : (s.setDrawn (s.drawn)).vm.findClass RX11 = some m.cls := hown0
  refine lv_aload_n hx hb dX11_grid_0 rfl (lv_at hl 0 rfl) ?_
  refine lv_iload_n hx hb dX11_grid_1 rfl (lv_at hl 1 rfl) ?_
  have hF := gFree hD hS hA
  refine va_callqD hd0 (va_runV_D (As := [.int p0]) (rest := []) ⟨hx, hb, hml, hown, hts⟩ (n_X11_bondOf l dC dI ad cA adK adV s.heap.size σ hI p0) (cwV 1 hts gX11_grid_X11_bondOf rfl rfl rfl (by decide +kernel) ⟨Nat.le_of_ble_eq_true rfl, Nat.le_of_ble_eq_true rfl⟩) ⟨gBlind, va_recv hK hP (ci := 10) (q0 := 0) rfl (at_10 rfl), gStart (As := [.ref (ad 0), .int p0]) hP hD hK0 hT hS hF (s.drawn)⟩ rfl rfl hl.1 rfl (lv_room (Nat.le_of_ble_eq_true rfl)) dX11_grid_2 ⟨Nat.le_of_ble_eq_true rfl, Nat.le_of_ble_eq_true rfl⟩) hS (fun q _ h => hF q h) hF (fun r_1 σ1 t H locs ht hvm hw hB hz1 hk1 hS d_2 hd0 => ?_)
  have hts := dr_words hts0 (d_2)
  have hK := gKd hK0 (d_2)
  have hown : (s.setDrawn (d_2)).vm.findClass RX11 = some m.cls := hown0
  obtain ⟨hP, hD⟩ := gBack hF ht hB
  obtain ⟨hIσ1, hro, hp_3⟩ := hw
  subst hro
  rcases hp_3 with rfl | ⟨b_4, hb_5, rfl, hq_6, hq_7⟩
  · refine W.eq (g2 := F0 m 5 ls [.null]) rfl ?_
    refine lv_astore_nN (lv' := [(3, .null), (0, .ref (ad 0)), (1, .int p0), (2, .int p1)]) hx hb dX11_grid_5 rfl hl (by decide) rfl (fun ls hl => ?_)
    refine lv_aload_nN hx hb dX11_grid_6 rfl (lv_at hl 0 rfl) ?_
    refine lv_ifnonnullN hx hb dX11_grid_7 ?_
    refine lv_aload_n hx hb dX11_grid_10 rfl (lv_at hl 1 rfl) ?_
    refine lv_iconst (v := 1) hx hb dX11_grid_11 (by decide) ?_
    have hF := gFree hD hS hA
    refine va_calliD hd0 (va_runV_D (As := [.int 1]) (rest := []) ⟨hx, hb, hml, hown, hts⟩ (n_X11_refuse l dC dI ad cA adK adV H.size σ hI 1) (cwV 1 hts gX11_grid_X11_refuse rfl rfl rfl (by decide +kernel) ⟨Nat.le_of_ble_eq_true rfl, Nat.le_of_ble_eq_true rfl⟩) ⟨gBlind, va_recv hK hP (ci := 10) (q0 := 0) rfl (at_10 rfl), gStart (As := [.ref (ad 0), .int 1]) hP hD hK0 hT hS hF (d_2)⟩ rfl rfl hl.1 rfl (lv_room (Nat.le_of_ble_eq_true rfl)) dX11_grid_12 ⟨Nat.le_of_ble_eq_true rfl, Nat.le_of_ble_eq_true rfl⟩) hS (fun q _ h => hF q h) hF (fun r_8 σ2 t H locs ht hvm hw hB hz1 hk1 hS d_9 hd0 => ?_)
    have hts := dr_words hts0 (d_9)
    have hK := gKd hK0 (d_9)
    have hown : (s.setDrawn (d_9)).vm.findClass RX11 = some m.cls := hown0
    obtain ⟨hP, hD⟩ := gBack hF ht hB
    obtain ⟨hIσ2, fcσ2, hp_10⟩ := hw
    refine W.endD hd0 ?_
    exact W.iret (v := r_8) hx hb hr (fun t ht hW => ⟨⟨r_8, σ2, rfl, ⟨hIσ2, (gFr.tr (gFr.rfl (L := [10]) (σ := σ)) fcσ2 (by decide)), trivial⟩, ⟨by rw [ht]; exact hP, hD⟩⟩, hS.F ht⟩) hS.2.2 dX11_grid_15
  · refine W.eq (g2 := F0 m 5 ls [.ref (ad b_4)]) rfl ?_
    refine lv_astore_n (lv' := [(3, .ref (ad b_4)), (0, .ref (ad 0)), (1, .int p0), (2, .int p1)]) hx hb dX11_grid_5 rfl hl (by decide) rfl (fun ls hl => ?_)
    refine lv_aload_n hx hb dX11_grid_6 rfl (lv_at hl 0 rfl) ?_
    refine lv_ifnonnull (tgt := 16) hx hb dX11_grid_7 (by decide) ?_
    refine lv_iload_n hx hb dX11_grid_16 rfl (lv_at hl 3 rfl) ?_
    refine lv_bipush (v := 90) hx hb dX11_grid_17 (by decide) ?_
    refine lv_iadd hx hb dX11_grid_19 ?_
    refine lv_topi (fun x_11 ex_11 => ?_)
    refine lv_istore (lv' := [(4, .int x_11), (3, .ref (ad b_4)), (0, .ref (ad 0)), (1, .int p0), (2, .int p1)]) hx hb dX11_grid_20 hl (by decide) rfl (fun ls hl => ?_)
    refine lv_iload_n hx hb dX11_grid_22 rfl (lv_at hl 4 rfl) ?_
    refine lv_bipush (v := (-90)) hx hb dX11_grid_23 (by decide) ?_
    refine lv_icmp_lt (tgt := 43) hx hb dX11_grid_25 (by decide) (fun c_12 => ?_) (fun c_12 => ?_)
    · refine lv_aload_n hx hb dX11_grid_43 rfl (lv_at hl 2 rfl) ?_
      refine lv_iconst (v := 2) hx hb dX11_grid_44 (by decide) ?_
      have hF := gFree hD hS hA
      refine va_calliD hd0 (va_runV_D (As := [.int 2]) (rest := []) ⟨hx, hb, hml, hown, hts⟩ (n_X11_refuse l dC dI ad cA adK adV H.size σ hI 2) (cwV 1 hts gX11_grid_X11_refuse rfl rfl rfl (by decide +kernel) ⟨Nat.le_of_ble_eq_true rfl, Nat.le_of_ble_eq_true rfl⟩) ⟨gBlind, va_recv hK hP (ci := 10) (q0 := 0) rfl (at_10 rfl), gStart (As := [.ref (ad 0), .int 2]) hP hD hK0 hT hS hF (d_2)⟩ rfl rfl hl.1 rfl (lv_room (Nat.le_of_ble_eq_true rfl)) dX11_grid_45 ⟨Nat.le_of_ble_eq_true rfl, Nat.le_of_ble_eq_true rfl⟩) hS (fun q _ h => hF q h) hF (fun r_13 σ3 t H locs ht hvm hw hB hz1 hk1 hS d_14 hd0 => ?_)
      have hts := dr_words hts0 (d_14)
      have hK := gKd hK0 (d_14)
      have hown : (s.setDrawn (d_14)).vm.findClass RX11 = some m.cls := hown0
      obtain ⟨hP, hD⟩ := gBack hF ht hB
      obtain ⟨hIσ3, fcσ3, hp_15⟩ := hw
      refine W.endD hd0 ?_
      exact W.iret (v := r_13) hx hb hr (fun t ht hW => ⟨⟨r_13, σ3, rfl, ⟨hIσ3, (gFr.tr (gFr.rfl (L := [10]) (σ := σ)) fcσ3 (by decide)), trivial⟩, ⟨by rw [ht]; exact hP, hD⟩⟩, hS.F ht⟩) hS.2.2 dX11_grid_48
    · refine lv_iload_n hx hb dX11_grid_28 rfl (lv_at hl 4 rfl) ?_
      refine lv_iconst (v := 3) hx hb dX11_grid_29 (by decide) ?_
      refine lv_icmp_gt (tgt := 43) hx hb dX11_grid_30 (by decide) (fun c_16 => ?_) (fun c_16 => ?_)
      · refine lv_aload_n hx hb dX11_grid_43 rfl (lv_at hl 2 rfl) ?_
        refine lv_iconst (v := 2) hx hb dX11_grid_44 (by decide) ?_
        have hF := gFree hD hS hA
        refine va_calliD hd0 (va_runV_D (As := [.int 2]) (rest := []) ⟨hx, hb, hml, hown, hts⟩ (n_X11_refuse l dC dI ad cA adK adV H.size σ hI 2) (cwV 1 hts gX11_grid_X11_refuse rfl rfl rfl (by decide +kernel) ⟨Nat.le_of_ble_eq_true rfl, Nat.le_of_ble_eq_true rfl⟩) ⟨gBlind, va_recv hK hP (ci := 10) (q0 := 0) rfl (at_10 rfl), gStart (As := [.ref (ad 0), .int 2]) hP hD hK0 hT hS hF (d_2)⟩ rfl rfl hl.1 rfl (lv_room (Nat.le_of_ble_eq_true rfl)) dX11_grid_45 ⟨Nat.le_of_ble_eq_true rfl, Nat.le_of_ble_eq_true rfl⟩) hS (fun q _ h => hF q h) hF (fun r_17 σ4 t H locs ht hvm hw hB hz1 hk1 hS d_18 hd0 => ?_)
        have hts := dr_words hts0 (d_18)
        have hK := gKd hK0 (d_18)
        have hown : (s.setDrawn (d_18)).vm.findClass RX11 = some m.cls := hown0
        obtain ⟨hP, hD⟩ := gBack hF ht hB
        obtain ⟨hIσ4, fcσ4, hp_19⟩ := hw
        refine W.endD hd0 ?_
        exact W.iret (v := r_17) hx hb hr (fun t ht hW => ⟨⟨r_17, σ4, rfl, ⟨hIσ4, (gFr.tr (gFr.rfl (L := [10]) (σ := σ)) fcσ4 (by decide)), trivial⟩, ⟨by rw [ht]; exact hP, hD⟩⟩, hS.F ht⟩) hS.2.2 dX11_grid_48
      · refine lv_iload hx hb dX11_grid_33 (lv_at hl 0 rfl) ?_
        refine lv_aload_n hx hb dX11_grid_35 rfl (lv_at hl 1 rfl) ?_
        refine va_get (D := (dC, dI)) (ci := 0) (v := .ref (ad (b_4 + 1))) (C := RX0) (T := TX0) (N := 16) hx hb hts hinX0 hown hK hP b_4 (at_0 hb_5) rfl 10 (by decide) (hts (.fieldLink RX11 203 "BondCalendars$Bond" "gridDays" "[I") (by decide +kernel)) (fun _ h9 => h9) rfl dX11_grid_36 ?_
        refine va_alen (v := 94) hx hb hK hP ((b_4 + 1)) ((b_4 + 1)) (at_27 (kk_0_1 hb_5)) (ty_27 (kk_0_1 hb_5)) rfl dX11_grid_39 ?_
        refine lv_icmp_lt (tgt := 49) hx hb dX11_grid_40 (by decide) (fun c_20 => ?_) (fun c_20 => ?_)
        · refine lv_aload_n hx hb dX11_grid_49 rfl (lv_at hl 2 rfl) ?_
          refine lv_iconst (v := 0) hx hb dX11_grid_50 (by decide) ?_
          refine va_put (D := (dC, dI)) (ci := 10) (v := .int 0) (C := RX11) (T := TX11) (N := 15) hx hb hts hinX11 tyX11 tyX11_ok nmX11 hown hK hP hD hS 0 (at_10 rfl) rfl 12 (by decide) (hts (.fieldLink RX11 74 "BondCalendars" "refusal" "I") (by decide +kernel)) (fun _ h9 => h9) rfl (ty := .int) (by decide +kernel) rfl rfl (Nat.le_of_ble_eq_true rfl) dX11_grid_51 (fun H locs hP hD hS => ?_)
          obtain ⟨σ5, eσ5, hP, hD⟩ := gPut (se_10_12 rfl) hP hD
          have hIσ5 : InvX σ5 := by rw [eσ5]; exact inv_I hI (ok_10_12 rfl _)
          have frσ5 : gFr [10] σ σ5 := by rw [eσ5]; exact gFr.pI (gFr.rfl (L := [10]) (σ := σ)) rfl (by decide)
          refine lv_aload_n hx hb dX11_grid_54 rfl (lv_at hl 1 rfl) ?_
          refine va_get (D := (dC, dI)) (ci := 0) (v := .ref (ad (b_4 + 1))) (C := RX0) (T := TX0) (N := 16) hx hb hts hinX0 hown hK hP b_4 (at_0 hb_5) rfl 10 (by decide) (hts (.fieldLink RX11 203 "BondCalendars$Bond" "gridDays" "[I") (by decide +kernel)) (fun _ h9 => h9) rfl dX11_grid_55 ?_
          refine lv_iload hx hb dX11_grid_58 (lv_at hl 0 rfl) ?_
          refine va_iald hx hb hK hP ((b_4 + 1)) ((b_4 + 1)) (at_27 (kk_0_1 hb_5)) (ty_27 (kk_0_1 hb_5)) (gin (N := 94) (by decide) (addc (a := (-90)) (m := 3) (k := 90) (Int32.not_lt.mp c_12) (Int32.not_lt.mp c_16) (by decide) (by decide) ex_11) c_20) dX11_grid_60 ?_
          refine lv_topi (fun x_21 _ => ?_)
          have hF := gFree (w := []) (hx_D0 (A := A)) hS hA
          have hKe := hK.sub (tys' := []) [] rfl
          refine va_calli (va_runS (As := [.int x_21]) (rest := []) ⟨hx, hb, hml, hown, hts⟩ (k_X3_numberOf l dC dI H.size x_21 ) (va_cwS 1 hts gX11_grid_X3_numberOf rfl rfl rfl (by decide +kernel) ⟨Nat.le_of_ble_eq_true rfl, Nat.le_of_ble_eq_true rfl⟩) ⟨fun a U g mk q => by obtain ⟨q0, q1, qP, qK, qD⟩ := q; exact ⟨q0, q1, qP, va_K.moved (u := U) (U := U.calling g mk a) (Vm.Alike.refl U.vm) qK, qD⟩, fun U hU hW => ⟨rfl, by rw [hU], hx_P0, va_K.moved hW.alike hKe, hx_D0⟩⟩ rfl rfl hl.1 rfl (lv_room (Nat.le_of_ble_eq_true rfl)) dX11_grid_61 ⟨Nat.le_of_ble_eq_true rfl, Nat.le_of_ble_eq_true rfl⟩) hS (fun q _ h => hF q h) hF (fun r_22 u t H locs ht hvm hw hB hz1 hk1 hS => ?_)
          have hP := gKeep hP hk1
          refine W.endD hd0 ?_
          exact W.iret (v := r_22) hx hb hr (fun t ht hW => ⟨⟨r_22, σ5, rfl, ⟨hIσ5, frσ5, trivial⟩, ⟨by rw [ht]; exact hP, hD⟩⟩, hS.F ht⟩) hS.2.2 dX11_grid_64
        · refine lv_aload_n hx hb dX11_grid_43 rfl (lv_at hl 2 rfl) ?_
          refine lv_iconst (v := 2) hx hb dX11_grid_44 (by decide) ?_
          have hF := gFree hD hS hA
          refine va_calliD hd0 (va_runV_D (As := [.int 2]) (rest := []) ⟨hx, hb, hml, hown, hts⟩ (n_X11_refuse l dC dI ad cA adK adV H.size σ hI 2) (cwV 1 hts gX11_grid_X11_refuse rfl rfl rfl (by decide +kernel) ⟨Nat.le_of_ble_eq_true rfl, Nat.le_of_ble_eq_true rfl⟩) ⟨gBlind, va_recv hK hP (ci := 10) (q0 := 0) rfl (at_10 rfl), gStart (As := [.ref (ad 0), .int 2]) hP hD hK0 hT hS hF (d_2)⟩ rfl rfl hl.1 rfl (lv_room (Nat.le_of_ble_eq_true rfl)) dX11_grid_45 ⟨Nat.le_of_ble_eq_true rfl, Nat.le_of_ble_eq_true rfl⟩) hS (fun q _ h => hF q h) hF (fun r_23 σ6 t H locs ht hvm hw hB hz1 hk1 hS d_24 hd0 => ?_)
          have hts := dr_words hts0 (d_24)
          have hK := gKd hK0 (d_24)
          have hown : (s.setDrawn (d_24)).vm.findClass RX11 = some m.cls := hown0
          obtain ⟨hP, hD⟩ := gBack hF ht hB
          obtain ⟨hIσ6, fcσ6, hp_25⟩ := hw
          refine W.endD hd0 ?_
          exact W.iret (v := r_23) hx hb hr (fun t ht hW => ⟨⟨r_23, σ6, rfl, ⟨hIσ6, (gFr.tr (gFr.rfl (L := [10]) (σ := σ)) fcσ6 (by decide)), trivial⟩, ⟨by rw [ht]; exact hP, hD⟩⟩, hS.F ht⟩) hS.2.2 dX11_grid_48
set_option maxHeartbeats 8000000 in
set_option maxRecDepth 100000 in
theorem n_X11_period (l : Launch) (dC : Nat → ClassId) (dI : Nat → Nat → Nat) (ad : Nat → Nat) (cA : Nat → ClassId) (adK adV : Nat → Nat) (sz : Nat) (σ : gs) (hI : InvX σ) (p0 : Int32) (p1 : Int32) (p2 : Int32) : MetD lw_cs l yX11_period wsX11_period ({ frames := 2, cells := 0, slots := 0, locals := 44 }) (va_Pc [.ref (ad 0), .int p0, .int p1, .int p2] (gPre adK adV (dC, dI) (wX ad cA σ) (tX cA) sz)) (va_Qi (fun (r : Int32) (τ : gs) => InvX τ ∧ gFr [10] σ τ ∧ (True)) (fun τ t => gPost (dC, dI) (va_A (wX ad cA σ) sz) (wX ad cA τ) t) (va_A (wX ad cA σ) sz)) 0 0 (va_A (wX ad cA σ) sz) := by
  refine MetD.ofW (cc := cX11_period) (maxL := 5) (ret := (some .int)) (by decide) rfl ?_
  intro p e s m args below meth c s₁ B hml hv hd0
  obtain ⟨rfl, hsz, hP, hK, hD0, hT⟩ := hv
  have hx := B.exec
  have hb := B.bytes
  have hr := B.returns
  have hts0 := atoms_spec (ws := wsX11_period) B.pre
  have hK0 := hK
  have hown0 : s.vm.findClass RX11 = some m.cls := findClass_of_methodNamed B.named
  have hlocks := B.notSynchronized
  have hinX11 : ∀ w ∈ u_ws RX11 TX11 15, w ∈ wsX11_period := (fun _ h9 => List.mem_cons_of_mem _ (List.mem_append_left _ (List.mem_append_left _ (List.mem_append_left _ (List.mem_append_right _ h9)))))
  have hinX0 : ∀ w ∈ u_ws RX0 TX0 16, w ∈ wsX11_period := (fun _ h9 => List.mem_cons_of_mem _ (List.mem_append_left _ (List.mem_append_left _ (List.mem_append_right _ h9))))
  subst hsz
  have hD := hD0.self (sz := s.heap.size)
  generalize hAe : va_A (wX ad cA σ) s.heap.size = A at hD hT ⊢
  have hA : ∀ q : Nat, s.heap.size ≤ q → A q := fun q h => by rw [← hAe]; exact Or.inr h
  have hS : va_S A s.heap s.heap [] := va_S.rf
  have hl := lv_entry ([.ref (ad 0), .int p0, .int p1, .int p2]) (n := 5) (Nat.le_of_ble_eq_true rfl)
  rw [lg_entry_eq]
  generalize (lg_sl ([.ref (ad 0), .int p0, .int p1, .int p2]) ++ List.replicate (5 - (lg_sl ([.ref (ad 0), .int p0, .int p1, .int p2])).length) Slot.unset).toArray = ls at hl ⊢
  have hl : lv_has ls 5 [(0, .ref (ad 0)), (1, .int p0), (2, .int p1), (3, .int p2)] := hl
  have hts := dr_words hts0 (s.drawn)
  have hK := gKd hK0 (s.drawn)
  have hown : (s.setDrawn (s.drawn)).vm.findClass RX11 = some m.cls := hown0
  refine lv_aload_n hx hb dX11_period_0 rfl (lv_at hl 0 rfl) ?_
  refine lv_iload_n hx hb dX11_period_1 rfl (lv_at hl 1 rfl) ?_
  have hF := gFree hD hS hA
  refine va_callqD hd0 (va_runV_D (As := [.int p0]) (rest := []) ⟨hx, hb, hml, hown, hts⟩ (n_X11_bondOf l dC dI ad cA adK adV s.heap.size σ hI p0) (cwV 1 hts gX11_period_X11_bondOf rfl rfl rfl (by decide +kernel) ⟨Nat.le_of_ble_eq_true rfl, Nat.le_of_ble_eq_true rfl⟩) ⟨gBlind, va_recv hK hP (ci := 10) (q0 := 0) rfl (at_10 rfl), gStart (As := [.ref (ad 0), .int p0]) hP hD hK0 hT hS hF (s.drawn)⟩ rfl rfl hl.1 rfl (lv_room (Nat.le_of_ble_eq_true rfl)) dX11_period_2 ⟨Nat.le_of_ble_eq_true rfl, Nat.le_of_ble_eq_true rfl⟩) hS (fun q _ h => hF q h) hF (fun r_1 σ1 t H locs ht hvm hw hB hz1 hk1 hS d_2 hd0 => ?_)
  have hts := dr_words hts0 (d_2)
  have hK := gKd hK0 (d_2)
  have hown : (s.setDrawn (d_2)).vm.findClass RX11 = some m.cls := hown0
  obtain ⟨hP, hD⟩ := gBack hF ht hB
  obtain ⟨hIσ1, hro, hp_3⟩ := hw
  subst hro
  rcases hp_3 with rfl | ⟨b_4, hb_5, rfl, hq_6, hq_7⟩
  · refine W.eq (g2 := F0 m 5 ls [.null]) rfl ?_
    refine lv_astoreN (lv' := [(4, .null), (0, .ref (ad 0)), (1, .int p0), (2, .int p1), (3, .int p2)]) hx hb dX11_period_5 hl (by decide) rfl (fun ls hl => ?_)
    refine lv_aloadN hx hb dX11_period_7 (lv_at hl 0 rfl) ?_
    refine lv_ifnullN (tgt := 31) hx hb dX11_period_9 (by decide) ?_
    refine lv_aload_n hx hb dX11_period_31 rfl (lv_at hl 1 rfl) ?_
    refine lv_iconst (v := 1) hx hb dX11_period_32 (by decide) ?_
    have hF := gFree hD hS hA
    refine va_calliD hd0 (va_runV_D (As := [.int 1]) (rest := []) ⟨hx, hb, hml, hown, hts⟩ (n_X11_refuse l dC dI ad cA adK adV H.size σ hI 1) (cwV 1 hts gX11_period_X11_refuse rfl rfl rfl (by decide +kernel) ⟨Nat.le_of_ble_eq_true rfl, Nat.le_of_ble_eq_true rfl⟩) ⟨gBlind, va_recv hK hP (ci := 10) (q0 := 0) rfl (at_10 rfl), gStart (As := [.ref (ad 0), .int 1]) hP hD hK0 hT hS hF (d_2)⟩ rfl rfl hl.1 rfl (lv_room (Nat.le_of_ble_eq_true rfl)) dX11_period_33 ⟨Nat.le_of_ble_eq_true rfl, Nat.le_of_ble_eq_true rfl⟩) hS (fun q _ h => hF q h) hF (fun r_8 σ2 t H locs ht hvm hw hB hz1 hk1 hS d_9 hd0 => ?_)
    have hts := dr_words hts0 (d_9)
    have hK := gKd hK0 (d_9)
    have hown : (s.setDrawn (d_9)).vm.findClass RX11 = some m.cls := hown0
    obtain ⟨hP, hD⟩ := gBack hF ht hB
    obtain ⟨hIσ2, fcσ2, hp_10⟩ := hw
    refine W.endD hd0 ?_
    exact W.iret (v := r_8) hx hb hr (fun t ht hW => ⟨⟨r_8, σ2, rfl, ⟨hIσ2, (gFr.tr (gFr.rfl (L := [10]) (σ := σ)) fcσ2 (by decide)), trivial⟩, ⟨by rw [ht]; exact hP, hD⟩⟩, hS.F ht⟩) hS.2.2 dX11_period_36
  · refine W.eq (g2 := F0 m 5 ls [.ref (ad b_4)]) rfl ?_
    refine lv_astore (lv' := [(4, .ref (ad b_4)), (0, .ref (ad 0)), (1, .int p0), (2, .int p1), (3, .int p2)]) hx hb dX11_period_5 hl (by decide) rfl (fun ls hl => ?_)
    refine lv_aload hx hb dX11_period_7 (lv_at hl 0 rfl) ?_
    refine lv_ifnull hx hb dX11_period_9 ?_
    refine lv_aload hx hb dX11_period_12 (lv_at hl 0 rfl) ?_
    refine lv_iload_n hx hb dX11_period_14 rfl (lv_at hl 3 rfl) ?_
    have hF := gFree hD hS hA
    refine va_calliD hd0 (va_runV_D (As := [.int p1]) (rest := []) ⟨hx, hb, hml, hown, hts⟩ (n_X0_hasPeriod l dC dI ad cA adK adV H.size σ hI b_4 hb_5 p1) (cwV 1 hts gX11_period_X0_hasPeriod rfl rfl rfl (by decide +kernel) ⟨Nat.le_of_ble_eq_true rfl, Nat.le_of_ble_eq_true rfl⟩) ⟨gBlind, va_recv hK hP (ci := 0) (q0 := b_4) rfl (at_0 hb_5), gStart (As := [.ref (ad b_4), .int p1]) hP hD hK0 hT hS hF (d_2)⟩ rfl rfl hl.1 rfl (lv_room (Nat.le_of_ble_eq_true rfl)) dX11_period_15 ⟨Nat.le_of_ble_eq_true rfl, Nat.le_of_ble_eq_true rfl⟩) hS (fun q _ h => hF q h) hF (fun r_11 σ3 t H locs ht hvm hw hB hz1 hk1 hS d_12 hd0 => ?_)
    have hts := dr_words hts0 (d_12)
    have hK := gKd hK0 (d_12)
    have hown : (s.setDrawn (d_12)).vm.findClass RX11 = some m.cls := hown0
    obtain ⟨hP, hD⟩ := gBack hF ht hB
    obtain ⟨hIσ3, hro, hp_13⟩ := hw
    subst hro
    refine lv_if_eq (tgt := 31) hx hb dX11_period_18 (by decide) (fun c_14 => ?_) (fun c_14 => ?_)
    · refine lv_aload_n hx hb dX11_period_31 rfl (lv_at hl 1 rfl) ?_
      refine lv_iconst (v := 1) hx hb dX11_period_32 (by decide) ?_
      have hF := gFree hD hS hA
      refine va_calliD hd0 (va_runV_D (As := [.int 1]) (rest := []) ⟨hx, hb, hml, hown, hts⟩ (n_X11_refuse l dC dI ad cA adK adV H.size σ hI 1) (cwV 1 hts gX11_period_X11_refuse rfl rfl rfl (by decide +kernel) ⟨Nat.le_of_ble_eq_true rfl, Nat.le_of_ble_eq_true rfl⟩) ⟨gBlind, va_recv hK hP (ci := 10) (q0 := 0) rfl (at_10 rfl), gStart (As := [.ref (ad 0), .int 1]) hP hD hK0 hT hS hF (d_12)⟩ rfl rfl hl.1 rfl (lv_room (Nat.le_of_ble_eq_true rfl)) dX11_period_33 ⟨Nat.le_of_ble_eq_true rfl, Nat.le_of_ble_eq_true rfl⟩) hS (fun q _ h => hF q h) hF (fun r_15 σ4 t H locs ht hvm hw hB hz1 hk1 hS d_16 hd0 => ?_)
      have hts := dr_words hts0 (d_16)
      have hK := gKd hK0 (d_16)
      have hown : (s.setDrawn (d_16)).vm.findClass RX11 = some m.cls := hown0
      obtain ⟨hP, hD⟩ := gBack hF ht hB
      obtain ⟨hIσ4, fcσ4, hp_17⟩ := hw
      refine W.endD hd0 ?_
      exact W.iret (v := r_15) hx hb hr (fun t ht hW => ⟨⟨r_15, σ4, rfl, ⟨hIσ4, (gFr.tr (gFr.rfl (L := [10]) (σ := σ)) fcσ4 (by decide)), trivial⟩, ⟨by rw [ht]; exact hP, hD⟩⟩, hS.F ht⟩) hS.2.2 dX11_period_36
    · refine lv_iload_n hx hb dX11_period_21 rfl (lv_at hl 4 rfl) ?_
      refine lv_if_lt (tgt := 31) hx hb dX11_period_22 (by decide) (fun c_18 => ?_) (fun c_18 => ?_)
      · refine lv_aload_n hx hb dX11_period_31 rfl (lv_at hl 1 rfl) ?_
        refine lv_iconst (v := 1) hx hb dX11_period_32 (by decide) ?_
        have hF := gFree hD hS hA
        refine va_calliD hd0 (va_runV_D (As := [.int 1]) (rest := []) ⟨hx, hb, hml, hown, hts⟩ (n_X11_refuse l dC dI ad cA adK adV H.size σ hI 1) (cwV 1 hts gX11_period_X11_refuse rfl rfl rfl (by decide +kernel) ⟨Nat.le_of_ble_eq_true rfl, Nat.le_of_ble_eq_true rfl⟩) ⟨gBlind, va_recv hK hP (ci := 10) (q0 := 0) rfl (at_10 rfl), gStart (As := [.ref (ad 0), .int 1]) hP hD hK0 hT hS hF (d_12)⟩ rfl rfl hl.1 rfl (lv_room (Nat.le_of_ble_eq_true rfl)) dX11_period_33 ⟨Nat.le_of_ble_eq_true rfl, Nat.le_of_ble_eq_true rfl⟩) hS (fun q _ h => hF q h) hF (fun r_19 σ5 t H locs ht hvm hw hB hz1 hk1 hS d_20 hd0 => ?_)
        have hts := dr_words hts0 (d_20)
        have hK := gKd hK0 (d_20)
        have hown : (s.setDrawn (d_20)).vm.findClass RX11 = some m.cls := hown0
        obtain ⟨hP, hD⟩ := gBack hF ht hB
        obtain ⟨hIσ5, fcσ5, hp_21⟩ := hw
        refine W.endD hd0 ?_
        exact W.iret (v := r_19) hx hb hr (fun t ht hW => ⟨⟨r_19, σ5, rfl, ⟨hIσ5, (gFr.tr (gFr.rfl (L := [10]) (σ := σ)) fcσ5 (by decide)), trivial⟩, ⟨by rw [ht]; exact hP, hD⟩⟩, hS.F ht⟩) hS.2.2 dX11_period_36
      · refine lv_iload_n hx hb dX11_period_25 rfl (lv_at hl 4 rfl) ?_
        refine lv_bipush (v := 6) hx hb dX11_period_26 (by decide) ?_
        refine lv_icmp_le (tgt := 37) hx hb dX11_period_28 (by decide) (fun c_22 => ?_) (fun c_22 => ?_)
        · refine lv_aload_n hx hb dX11_period_37 rfl (lv_at hl 1 rfl) ?_
          refine lv_iconst (v := 0) hx hb dX11_period_38 (by decide) ?_
          refine va_put (D := (dC, dI)) (ci := 10) (v := .int 0) (C := RX11) (T := TX11) (N := 15) hx hb hts hinX11 tyX11 tyX11_ok nmX11 hown hK hP hD hS 0 (at_10 rfl) rfl 12 (by decide) (hts (.fieldLink RX11 74 "BondCalendars" "refusal" "I") (by decide +kernel)) (fun _ h9 => h9) rfl (ty := .int) (by decide +kernel) rfl rfl (Nat.le_of_ble_eq_true rfl) dX11_period_39 (fun H locs hP hD hS => ?_)
          obtain ⟨σ6, eσ6, hP, hD⟩ := gPut (se_10_12 rfl) hP hD
          have hIσ6 : InvX σ6 := by rw [eσ6]; exact inv_I hI (ok_10_12 rfl _)
          have frσ6 : gFr [10] σ σ6 := by rw [eσ6]; exact gFr.pI (gFr.rfl (L := [10]) (σ := σ)) rfl (by decide)
          refine lv_iload_n hx hb dX11_period_42 rfl (lv_at hl 4 rfl) ?_
          by_cases c_23 : p2 = 0
          · refine lv_tableIn (tgt := 80) hx hb dX11_period_43 (by rw [c_23]; decide) (by rw [c_23]; decide) (by rw [c_23]; rfl) (by decide) ?_
            refine lv_aload hx hb dX11_period_80 (lv_at hl 0 rfl) ?_
            refine lv_iload_n hx hb dX11_period_82 rfl (lv_at hl 3 rfl) ?_
            have hF := gFree hD hS hA
            refine va_calliD hd0 (va_runV_D (As := [.int p1]) (rest := []) ⟨hx, hb, hml, hown, hts⟩ (n_X0_startOf l dC dI ad cA adK adV H.size σ6 hIσ6 b_4 hb_5 p1) (cwV 1 hts gX11_period_X0_startOf rfl rfl rfl (by decide +kernel) ⟨Nat.le_of_ble_eq_true rfl, Nat.le_of_ble_eq_true rfl⟩) ⟨gBlind, va_recv hK hP (ci := 0) (q0 := b_4) rfl (at_0 hb_5), gStart (As := [.ref (ad b_4), .int p1]) hP hD hK0 hT hS hF (d_12)⟩ rfl rfl hl.1 rfl (lv_room (Nat.le_of_ble_eq_true rfl)) dX11_period_83 ⟨Nat.le_of_ble_eq_true rfl, Nat.le_of_ble_eq_true rfl⟩) hS (fun q _ h => hF q h) hF (fun r_24 σ7 t H locs ht hvm hw hB hz1 hk1 hS d_25 hd0 => ?_)
            have hts := dr_words hts0 (d_25)
            have hK := gKd hK0 (d_25)
            have hown : (s.setDrawn (d_25)).vm.findClass RX11 = some m.cls := hown0
            obtain ⟨hP, hD⟩ := gBack hF ht hB
            obtain ⟨hIσ7, hro, hp_26⟩ := hw
            subst hro
            have hF := gFree (w := []) (hx_D0 (A := A)) hS hA
            have hKe := hK.sub (tys' := []) [] rfl
            refine va_calli (va_runS (As := [.int r_24]) (rest := []) ⟨hx, hb, hml, hown, hts⟩ (k_X3_numberOf l dC dI H.size r_24 ) (va_cwS 1 hts gX11_period_X3_numberOf rfl rfl rfl (by decide +kernel) ⟨Nat.le_of_ble_eq_true rfl, Nat.le_of_ble_eq_true rfl⟩) ⟨fun a U g mk q => by obtain ⟨q0, q1, qP, qK, qD⟩ := q; exact ⟨q0, q1, qP, va_K.moved (u := U) (U := U.calling g mk a) (Vm.Alike.refl U.vm) qK, qD⟩, fun U hU hW => ⟨rfl, by rw [hU], hx_P0, va_K.moved hW.alike hKe, hx_D0⟩⟩ rfl rfl hl.1 rfl (lv_room (Nat.le_of_ble_eq_true rfl)) dX11_period_86 ⟨Nat.le_of_ble_eq_true rfl, Nat.le_of_ble_eq_true rfl⟩) hS (fun q _ h => hF q h) hF (fun r_27 u t H locs ht hvm hw hB hz1 hk1 hS => ?_)
            have hP := gKeep hP hk1
            refine W.endD hd0 ?_
            exact W.iret (v := r_27) hx hb hr (fun t ht hW => ⟨⟨r_27, σ6, rfl, ⟨hIσ6, frσ6, trivial⟩, ⟨by rw [ht]; exact hP, hD⟩⟩, hS.F ht⟩) hS.2.2 dX11_period_89
          by_cases c_28 : p2 = 1
          · refine lv_tableIn (tgt := 90) hx hb dX11_period_43 (by rw [c_28]; decide) (by rw [c_28]; decide) (by rw [c_28]; rfl) (by decide) ?_
            refine lv_aload hx hb dX11_period_90 (lv_at hl 0 rfl) ?_
            refine va_get (D := (dC, dI)) (ci := 0) (v := .ref (ad (b_4 + 2))) (C := RX0) (T := TX0) (N := 16) hx hb hts hinX0 hown hK hP b_4 (at_0 hb_5) rfl 11 (by decide) (hts (.fieldLink RX11 213 "BondCalendars$Bond" "endDays" "[I") (by decide +kernel)) (fun _ h9 => h9) rfl dX11_period_92 ?_
            refine lv_iload_n hx hb dX11_period_95 rfl (lv_at hl 3 rfl) ?_
            refine va_iald hx hb hK hP ((b_4 + 2)) ((b_4 + 2)) (at_24 (kk_0_2 hb_5)) (ty_24 (kk_0_2 hb_5)) (gin (N := 81) (by decide) (hp_13.2 c_14).1 (hp_13.2 c_14).2) dX11_period_96 ?_
            refine lv_topi (fun x_29 _ => ?_)
            have hF := gFree (w := []) (hx_D0 (A := A)) hS hA
            have hKe := hK.sub (tys' := []) [] rfl
            refine va_calli (va_runS (As := [.int x_29]) (rest := []) ⟨hx, hb, hml, hown, hts⟩ (k_X3_numberOf l dC dI H.size x_29 ) (va_cwS 1 hts gX11_period_X3_numberOf rfl rfl rfl (by decide +kernel) ⟨Nat.le_of_ble_eq_true rfl, Nat.le_of_ble_eq_true rfl⟩) ⟨fun a U g mk q => by obtain ⟨q0, q1, qP, qK, qD⟩ := q; exact ⟨q0, q1, qP, va_K.moved (u := U) (U := U.calling g mk a) (Vm.Alike.refl U.vm) qK, qD⟩, fun U hU hW => ⟨rfl, by rw [hU], hx_P0, va_K.moved hW.alike hKe, hx_D0⟩⟩ rfl rfl hl.1 rfl (lv_room (Nat.le_of_ble_eq_true rfl)) dX11_period_97 ⟨Nat.le_of_ble_eq_true rfl, Nat.le_of_ble_eq_true rfl⟩) hS (fun q _ h => hF q h) hF (fun r_30 u t H locs ht hvm hw hB hz1 hk1 hS => ?_)
            have hP := gKeep hP hk1
            refine W.endD hd0 ?_
            exact W.iret (v := r_30) hx hb hr (fun t ht hW => ⟨⟨r_30, σ6, rfl, ⟨hIσ6, frσ6, trivial⟩, ⟨by rw [ht]; exact hP, hD⟩⟩, hS.F ht⟩) hS.2.2 dX11_period_100
          by_cases c_31 : p2 = 2
          · refine lv_tableIn (tgt := 101) hx hb dX11_period_43 (by rw [c_31]; decide) (by rw [c_31]; decide) (by rw [c_31]; rfl) (by decide) ?_
            refine lv_aload hx hb dX11_period_101 (lv_at hl 0 rfl) ?_
            refine va_get (D := (dC, dI)) (ci := 0) (v := .ref (ad (b_4 + 2))) (C := RX0) (T := TX0) (N := 16) hx hb hts hinX0 hown hK hP b_4 (at_0 hb_5) rfl 11 (by decide) (hts (.fieldLink RX11 213 "BondCalendars$Bond" "endDays" "[I") (by decide +kernel)) (fun _ h9 => h9) rfl dX11_period_103 ?_
            refine lv_iload_n hx hb dX11_period_106 rfl (lv_at hl 3 rfl) ?_
            refine va_iald hx hb hK hP ((b_4 + 2)) ((b_4 + 2)) (at_24 (kk_0_2 hb_5)) (ty_24 (kk_0_2 hb_5)) (gin (N := 81) (by decide) (hp_13.2 c_14).1 (hp_13.2 c_14).2) dX11_period_107 ?_
            refine lv_topi (fun x_32 _ => ?_)
            refine lv_aload hx hb dX11_period_108 (lv_at hl 0 rfl) ?_
            refine lv_iload_n hx hb dX11_period_110 rfl (lv_at hl 3 rfl) ?_
            have hF := gFree hD hS hA
            refine va_calliD hd0 (va_runV_D (As := [.int p1]) (rest := [.int x_32]) ⟨hx, hb, hml, hown, hts⟩ (n_X0_startOf l dC dI ad cA adK adV H.size σ6 hIσ6 b_4 hb_5 p1) (cwV 1 hts gX11_period_X0_startOf rfl rfl rfl (by decide +kernel) ⟨Nat.le_of_ble_eq_true rfl, Nat.le_of_ble_eq_true rfl⟩) ⟨gBlind, va_recv hK hP (ci := 0) (q0 := b_4) rfl (at_0 hb_5), gStart (As := [.ref (ad b_4), .int p1]) hP hD hK0 hT hS hF (d_12)⟩ rfl rfl hl.1 rfl (lv_room (Nat.le_of_ble_eq_true rfl)) dX11_period_111 ⟨Nat.le_of_ble_eq_true rfl, Nat.le_of_ble_eq_true rfl⟩) hS (fun q _ h => hF q h) hF (fun r_33 σ8 t H locs ht hvm hw hB hz1 hk1 hS d_34 hd0 => ?_)
            have hts := dr_words hts0 (d_34)
            have hK := gKd hK0 (d_34)
            have hown : (s.setDrawn (d_34)).vm.findClass RX11 = some m.cls := hown0
            obtain ⟨hP, hD⟩ := gBack hF ht hB
            obtain ⟨hIσ8, hro, hp_35⟩ := hw
            subst hro
            refine lv_isub hx hb dX11_period_114 ?_
            refine lv_topi (fun x_36 ex_36 => ?_)
            refine W.endD hd0 ?_
            exact W.iret (v := x_36) hx hb hr (fun t ht hW => ⟨⟨x_36, σ6, rfl, ⟨hIσ6, frσ6, trivial⟩, ⟨by rw [ht]; exact hP, hD⟩⟩, hS.F ht⟩) hS.2.2 dX11_period_115
          by_cases c_37 : p2 = 3
          · refine lv_tableIn (tgt := 116) hx hb dX11_period_43 (by rw [c_37]; decide) (by rw [c_37]; decide) (by rw [c_37]; rfl) (by decide) ?_
            refine lv_aload hx hb dX11_period_116 (lv_at hl 0 rfl) ?_
            refine va_get (D := (dC, dI)) (ci := 0) (v := .ref (ad (b_4 + 3))) (C := RX0) (T := TX0) (N := 16) hx hb hts hinX0 hown hK hP b_4 (at_0 hb_5) rfl 12 (by decide) (hts (.fieldLink RX11 216 "BondCalendars$Bond" "exFrom" "[I") (by decide +kernel)) (fun _ h9 => h9) rfl dX11_period_118 ?_
            refine lv_iload_n hx hb dX11_period_121 rfl (lv_at hl 3 rfl) ?_
            refine va_iald hx hb hK hP ((b_4 + 3)) ((b_4 + 3)) (at_24 (kk_0_3 hb_5)) (ty_24 (kk_0_3 hb_5)) (gin (N := 81) (by decide) (hp_13.2 c_14).1 (hp_13.2 c_14).2) dX11_period_122 ?_
            refine lv_topi (fun x_38 _ => ?_)
            have hF := gFree (w := []) (hx_D0 (A := A)) hS hA
            have hKe := hK.sub (tys' := []) [] rfl
            refine va_calli (va_runS (As := [.int x_38]) (rest := []) ⟨hx, hb, hml, hown, hts⟩ (k_X3_numberOf l dC dI H.size x_38 ) (va_cwS 1 hts gX11_period_X3_numberOf rfl rfl rfl (by decide +kernel) ⟨Nat.le_of_ble_eq_true rfl, Nat.le_of_ble_eq_true rfl⟩) ⟨fun a U g mk q => by obtain ⟨q0, q1, qP, qK, qD⟩ := q; exact ⟨q0, q1, qP, va_K.moved (u := U) (U := U.calling g mk a) (Vm.Alike.refl U.vm) qK, qD⟩, fun U hU hW => ⟨rfl, by rw [hU], hx_P0, va_K.moved hW.alike hKe, hx_D0⟩⟩ rfl rfl hl.1 rfl (lv_room (Nat.le_of_ble_eq_true rfl)) dX11_period_123 ⟨Nat.le_of_ble_eq_true rfl, Nat.le_of_ble_eq_true rfl⟩) hS (fun q _ h => hF q h) hF (fun r_39 u t H locs ht hvm hw hB hz1 hk1 hS => ?_)
            have hP := gKeep hP hk1
            refine W.endD hd0 ?_
            exact W.iret (v := r_39) hx hb hr (fun t ht hW => ⟨⟨r_39, σ6, rfl, ⟨hIσ6, frσ6, trivial⟩, ⟨by rw [ht]; exact hP, hD⟩⟩, hS.F ht⟩) hS.2.2 dX11_period_126
          by_cases c_40 : p2 = 4
          · refine lv_tableIn (tgt := 127) hx hb dX11_period_43 (by rw [c_40]; decide) (by rw [c_40]; decide) (by rw [c_40]; rfl) (by decide) ?_
            refine lv_aload hx hb dX11_period_127 (lv_at hl 0 rfl) ?_
            refine va_get (D := (dC, dI)) (ci := 0) (v := .ref (ad (b_4 + 4))) (C := RX0) (T := TX0) (N := 16) hx hb hts hinX0 hown hK hP b_4 (at_0 hb_5) rfl 13 (by decide) (hts (.fieldLink RX11 219 "BondCalendars$Bond" "payDays" "[I") (by decide +kernel)) (fun _ h9 => h9) rfl dX11_period_129 ?_
            refine lv_iload_n hx hb dX11_period_132 rfl (lv_at hl 3 rfl) ?_
            refine va_iald hx hb hK hP ((b_4 + 4)) ((b_4 + 4)) (at_24 (kk_0_4 hb_5)) (ty_24 (kk_0_4 hb_5)) (gin (N := 81) (by decide) (hp_13.2 c_14).1 (hp_13.2 c_14).2) dX11_period_133 ?_
            refine lv_topi (fun x_41 _ => ?_)
            have hF := gFree (w := []) (hx_D0 (A := A)) hS hA
            have hKe := hK.sub (tys' := []) [] rfl
            refine va_calli (va_runS (As := [.int x_41]) (rest := []) ⟨hx, hb, hml, hown, hts⟩ (k_X3_numberOf l dC dI H.size x_41 ) (va_cwS 1 hts gX11_period_X3_numberOf rfl rfl rfl (by decide +kernel) ⟨Nat.le_of_ble_eq_true rfl, Nat.le_of_ble_eq_true rfl⟩) ⟨fun a U g mk q => by obtain ⟨q0, q1, qP, qK, qD⟩ := q; exact ⟨q0, q1, qP, va_K.moved (u := U) (U := U.calling g mk a) (Vm.Alike.refl U.vm) qK, qD⟩, fun U hU hW => ⟨rfl, by rw [hU], hx_P0, va_K.moved hW.alike hKe, hx_D0⟩⟩ rfl rfl hl.1 rfl (lv_room (Nat.le_of_ble_eq_true rfl)) dX11_period_134 ⟨Nat.le_of_ble_eq_true rfl, Nat.le_of_ble_eq_true rfl⟩) hS (fun q _ h => hF q h) hF (fun r_42 u t H locs ht hvm hw hB hz1 hk1 hS => ?_)
            have hP := gKeep hP hk1
            refine W.endD hd0 ?_
            exact W.iret (v := r_42) hx hb hr (fun t ht hW => ⟨⟨r_42, σ6, rfl, ⟨hIσ6, frσ6, trivial⟩, ⟨by rw [ht]; exact hP, hD⟩⟩, hS.F ht⟩) hS.2.2 dX11_period_137
          by_cases c_43 : p2 = 5
          · refine lv_tableIn (tgt := 138) hx hb dX11_period_43 (by rw [c_43]; decide) (by rw [c_43]; decide) (by rw [c_43]; rfl) (by decide) ?_
            refine lv_aload hx hb dX11_period_138 (lv_at hl 0 rfl) ?_
            refine lv_iload_n hx hb dX11_period_140 rfl (lv_at hl 3 rfl) ?_
            have hF := gFree hD hS hA
            refine va_calliD hd0 (va_runV_D (As := [.int p1]) (rest := []) ⟨hx, hb, hml, hown, hts⟩ (n_X0_isWholeStep l dC dI ad cA adK adV H.size σ6 hIσ6 b_4 hb_5 p1) (cwV 1 hts gX11_period_X0_isWholeStep rfl rfl rfl (by decide +kernel) ⟨Nat.le_of_ble_eq_true rfl, Nat.le_of_ble_eq_true rfl⟩) ⟨gBlind, va_recv hK hP (ci := 0) (q0 := b_4) rfl (at_0 hb_5), gStart (As := [.ref (ad b_4), .int p1]) hP hD hK0 hT hS hF (d_12)⟩ rfl rfl hl.1 rfl (lv_room (Nat.le_of_ble_eq_true rfl)) dX11_period_141 ⟨Nat.le_of_ble_eq_true rfl, Nat.le_of_ble_eq_true rfl⟩) hS (fun q _ h => hF q h) hF (fun r_44 σ9 t H locs ht hvm hw hB hz1 hk1 hS d_45 hd0 => ?_)
            have hts := dr_words hts0 (d_45)
            have hK := gKd hK0 (d_45)
            have hown : (s.setDrawn (d_45)).vm.findClass RX11 = some m.cls := hown0
            obtain ⟨hP, hD⟩ := gBack hF ht hB
            obtain ⟨hIσ9, hro, hp_46⟩ := hw
            subst hro
            refine lv_if_eq (tgt := 151) hx hb dX11_period_144 (by decide) (fun c_47 => ?_) (fun c_47 => ?_)
            · refine lv_iconst (v := 0) hx hb dX11_period_151 (by decide) ?_
              refine W.endD hd0 ?_
              exact W.iret (v := 0) hx hb hr (fun t ht hW => ⟨⟨0, σ6, rfl, ⟨hIσ6, frσ6, trivial⟩, ⟨by rw [ht]; exact hP, hD⟩⟩, hS.F ht⟩) hS.2.2 dX11_period_152
            · refine lv_iconst (v := 1) hx hb dX11_period_147 (by decide) ?_
              refine lv_goto (tgt := 152) hx hb dX11_period_148 (by decide) ?_
              refine W.endD hd0 ?_
              exact W.iret (v := 1) hx hb hr (fun t ht hW => ⟨⟨1, σ6, rfl, ⟨hIσ6, frσ6, trivial⟩, ⟨by rw [ht]; exact hP, hD⟩⟩, hS.F ht⟩) hS.2.2 dX11_period_152
          refine lv_tableOut (tgt := 153) hx hb dX11_period_43 (by have q0 := lv_neT (a := 0) c_23 rfl; have q1 := lv_neT (a := 1) c_28 rfl; have q2 := lv_neT (a := 2) c_31 rfl; have q3 := lv_neT (a := 3) c_37 rfl; have q4 := lv_neT (a := 4) c_40 rfl; have q5 := lv_neT (a := 5) c_43 rfl; omega) (by decide) ?_
          refine lv_aload_n hx hb dX11_period_153 rfl (lv_at hl 1 rfl) ?_
          refine va_get (D := (dC, dI)) (ci := 10) (v := .ref (ad 12)) (C := RX11) (T := TX11) (N := 15) hx hb hts hinX11 hown hK hP 0 (at_10 rfl) rfl 5 (by decide) (hts (.fieldLink RX11 47 "BondCalendars" "book" "LBondCalendars$Book;") (by decide +kernel)) (fun _ h9 => h9) rfl dX11_period_154 ?_
          refine lv_iload_n hx hb dX11_period_157 rfl (lv_at hl 2 rfl) ?_
          refine lv_iload_n hx hb dX11_period_158 rfl (lv_at hl 3 rfl) ?_
          have hF := gFree hD hS hA
          refine va_calliD hd0 (va_runV_D (As := [.int p0, .int p1]) (rest := []) ⟨hx, hb, hml, hown, hts⟩ (n_X1_entitledTo l dC dI ad cA adK adV H.size σ6 hIσ6 12 rfl p0 p1) (cwV 2 hts gX11_period_X1_entitledTo rfl rfl rfl (by decide +kernel) ⟨Nat.le_of_ble_eq_true rfl, Nat.le_of_ble_eq_true rfl⟩) ⟨gBlind, va_recv hK hP (ci := 1) (q0 := 12) rfl (at_1 rfl), gStart (As := [.ref (ad 12), .int p0, .int p1]) hP hD hK0 hT hS hF (d_12)⟩ rfl rfl hl.1 rfl (lv_room (Nat.le_of_ble_eq_true rfl)) dX11_period_159 ⟨Nat.le_of_ble_eq_true rfl, Nat.le_of_ble_eq_true rfl⟩) hS (fun q _ h => hF q h) hF (fun r_48 σ10 t H locs ht hvm hw hB hz1 hk1 hS d_49 hd0 => ?_)
          have hts := dr_words hts0 (d_49)
          have hK := gKd hK0 (d_49)
          have hown : (s.setDrawn (d_49)).vm.findClass RX11 = some m.cls := hown0
          obtain ⟨hP, hD⟩ := gBack hF ht hB
          obtain ⟨hIσ10, hro, hp_50⟩ := hw
          subst hro
          refine W.endD hd0 ?_
          exact W.iret (v := r_48) hx hb hr (fun t ht hW => ⟨⟨r_48, σ6, rfl, ⟨hIσ6, frσ6, trivial⟩, ⟨by rw [ht]; exact hP, hD⟩⟩, hS.F ht⟩) hS.2.2 dX11_period_162
        · refine lv_aload_n hx hb dX11_period_31 rfl (lv_at hl 1 rfl) ?_
          refine lv_iconst (v := 1) hx hb dX11_period_32 (by decide) ?_
          have hF := gFree hD hS hA
          refine va_calliD hd0 (va_runV_D (As := [.int 1]) (rest := []) ⟨hx, hb, hml, hown, hts⟩ (n_X11_refuse l dC dI ad cA adK adV H.size σ hI 1) (cwV 1 hts gX11_period_X11_refuse rfl rfl rfl (by decide +kernel) ⟨Nat.le_of_ble_eq_true rfl, Nat.le_of_ble_eq_true rfl⟩) ⟨gBlind, va_recv hK hP (ci := 10) (q0 := 0) rfl (at_10 rfl), gStart (As := [.ref (ad 0), .int 1]) hP hD hK0 hT hS hF (d_12)⟩ rfl rfl hl.1 rfl (lv_room (Nat.le_of_ble_eq_true rfl)) dX11_period_33 ⟨Nat.le_of_ble_eq_true rfl, Nat.le_of_ble_eq_true rfl⟩) hS (fun q _ h => hF q h) hF (fun r_51 σ11 t H locs ht hvm hw hB hz1 hk1 hS d_52 hd0 => ?_)
          have hts := dr_words hts0 (d_52)
          have hK := gKd hK0 (d_52)
          have hown : (s.setDrawn (d_52)).vm.findClass RX11 = some m.cls := hown0
          obtain ⟨hP, hD⟩ := gBack hF ht hB
          obtain ⟨hIσ11, fcσ11, hp_53⟩ := hw
          refine W.endD hd0 ?_
          exact W.iret (v := r_51) hx hb hr (fun t ht hW => ⟨⟨r_51, σ11, rfl, ⟨hIσ11, (gFr.tr (gFr.rfl (L := [10]) (σ := σ)) fcσ11 (by decide)), trivial⟩, ⟨by rw [ht]; exact hP, hD⟩⟩, hS.F ht⟩) hS.2.2 dX11_period_36
set_option maxHeartbeats 8000000 in
set_option maxRecDepth 100000 in
theorem n_X11_fraction (l : Launch) (dC : Nat → ClassId) (dI : Nat → Nat → Nat) (ad : Nat → Nat) (cA : Nat → ClassId) (adK adV : Nat → Nat) (sz : Nat) (σ : gs) (hI : InvX σ) (p0 : Int32) (p1 : Int32) (p2 : Int32) : MetD lw_cs l yX11_fraction wsX11_fraction ({ frames := 5, cells := 0, slots := 0, locals := 131 }) (va_Pc [.ref (ad 0), .int p0, .int p1, .int p2] (gPre adK adV (dC, dI) (wX ad cA σ) (tX cA) sz)) (va_Ql (fun (r : Int64) (τ : gs) => InvX τ ∧ gFr [5, 10] σ τ ∧ (True)) (fun τ t => gPost (dC, dI) (va_A (wX ad cA σ) sz) (wX ad cA τ) t) (va_A (wX ad cA σ) sz)) 0 0 (va_A (wX ad cA σ) sz) := by
  refine MetD.ofW (cc := cX11_fraction) (maxL := 5) (ret := (some .long)) (by decide) rfl ?_
  intro p e s m args below meth c s₁ B hml hv hd0
  obtain ⟨rfl, hsz, hP, hK, hD0, hT⟩ := hv
  have hx := B.exec
  have hb := B.bytes
  have hr := B.returns
  have hts0 := atoms_spec (ws := wsX11_fraction) B.pre
  have hK0 := hK
  have hown0 : s.vm.findClass RX11 = some m.cls := findClass_of_methodNamed B.named
  have hlocks := B.notSynchronized
  have hinX11 : ∀ w ∈ u_ws RX11 TX11 15, w ∈ wsX11_fraction := (fun _ h9 => List.mem_cons_of_mem _ (List.mem_append_left _ (List.mem_append_left _ (List.mem_append_left _ (List.mem_append_right _ h9)))))
  subst hsz
  have hD := hD0.self (sz := s.heap.size)
  generalize hAe : va_A (wX ad cA σ) s.heap.size = A at hD hT ⊢
  have hA : ∀ q : Nat, s.heap.size ≤ q → A q := fun q h => by rw [← hAe]; exact Or.inr h
  have hS : va_S A s.heap s.heap [] := va_S.rf
  have hl := lv_entry ([.ref (ad 0), .int p0, .int p1, .int p2]) (n := 5) (Nat.le_of_ble_eq_true rfl)
  rw [lg_entry_eq]
  generalize (lg_sl ([.ref (ad 0), .int p0, .int p1, .int p2]) ++ List.replicate (5 - (lg_sl ([.ref (ad 0), .int p0, .int p1, .int p2])).length) Slot.unset).toArray = ls at hl ⊢
  have hl : lv_has ls 5 [(0, .ref (ad 0)), (1, .int p0), (2, .int p1), (3, .int p2)] := hl
  have hts := dr_words hts0 (s.drawn)
  have hK := gKd hK0 (s.drawn)
  have hown : (s.setDrawn (s.drawn)).vm.findClass RX11 = some m.cls := hown0
  refine lv_aload_n hx hb dX11_fraction_0 rfl (lv_at hl 0 rfl) ?_
  refine lv_iload_n hx hb dX11_fraction_1 rfl (lv_at hl 1 rfl) ?_
  have hF := gFree hD hS hA
  refine va_callqD hd0 (va_runV_D (As := [.int p0]) (rest := []) ⟨hx, hb, hml, hown, hts⟩ (n_X11_bondOf l dC dI ad cA adK adV s.heap.size σ hI p0) (cwV 1 hts gX11_fraction_X11_bondOf rfl rfl rfl (by decide +kernel) ⟨Nat.le_of_ble_eq_true rfl, Nat.le_of_ble_eq_true rfl⟩) ⟨gBlind, va_recv hK hP (ci := 10) (q0 := 0) rfl (at_10 rfl), gStart (As := [.ref (ad 0), .int p0]) hP hD hK0 hT hS hF (s.drawn)⟩ rfl rfl hl.1 rfl (lv_room (Nat.le_of_ble_eq_true rfl)) dX11_fraction_2 ⟨Nat.le_of_ble_eq_true rfl, Nat.le_of_ble_eq_true rfl⟩) hS (fun q _ h => hF q h) hF (fun r_1 σ1 t H locs ht hvm hw hB hz1 hk1 hS d_2 hd0 => ?_)
  have hts := dr_words hts0 (d_2)
  have hK := gKd hK0 (d_2)
  have hown : (s.setDrawn (d_2)).vm.findClass RX11 = some m.cls := hown0
  obtain ⟨hP, hD⟩ := gBack hF ht hB
  obtain ⟨hIσ1, hro, hp_3⟩ := hw
  subst hro
  rcases hp_3 with rfl | ⟨b_4, hb_5, rfl, hq_6, hq_7⟩
  · refine W.eq (g2 := F0 m 5 ls [.null]) rfl ?_
    refine lv_astoreN (lv' := [(4, .null), (0, .ref (ad 0)), (1, .int p0), (2, .int p1), (3, .int p2)]) hx hb dX11_fraction_5 hl (by decide) rfl (fun ls hl => ?_)
    refine lv_aloadN hx hb dX11_fraction_7 (lv_at hl 0 rfl) ?_
    refine lv_ifnullN (tgt := 21) hx hb dX11_fraction_9 (by decide) ?_
    refine lv_aload_n hx hb dX11_fraction_21 rfl (lv_at hl 1 rfl) ?_
    refine lv_iconst (v := 1) hx hb dX11_fraction_22 (by decide) ?_
    have hF := gFree hD hS hA
    refine va_calliD hd0 (va_runV_D (As := [.int 1]) (rest := []) ⟨hx, hb, hml, hown, hts⟩ (n_X11_refuse l dC dI ad cA adK adV H.size σ hI 1) (cwV 1 hts gX11_fraction_X11_refuse rfl rfl rfl (by decide +kernel) ⟨Nat.le_of_ble_eq_true rfl, Nat.le_of_ble_eq_true rfl⟩) ⟨gBlind, va_recv hK hP (ci := 10) (q0 := 0) rfl (at_10 rfl), gStart (As := [.ref (ad 0), .int 1]) hP hD hK0 hT hS hF (d_2)⟩ rfl rfl hl.1 rfl (lv_room (Nat.le_of_ble_eq_true rfl)) dX11_fraction_23 ⟨Nat.le_of_ble_eq_true rfl, Nat.le_of_ble_eq_true rfl⟩) hS (fun q _ h => hF q h) hF (fun r_8 σ2 t H locs ht hvm hw hB hz1 hk1 hS d_9 hd0 => ?_)
    have hts := dr_words hts0 (d_9)
    have hK := gKd hK0 (d_9)
    have hown : (s.setDrawn (d_9)).vm.findClass RX11 = some m.cls := hown0
    obtain ⟨hP, hD⟩ := gBack hF ht hB
    obtain ⟨hIσ2, fcσ2, hp_10⟩ := hw
    refine lv_i2l hx hb dX11_fraction_26 rfl ?_
    refine W.endD hd0 ?_
    exact W.lret (v := (r_8.toInt64)) hx hb hr (fun t ht hW => ⟨⟨(r_8.toInt64), σ2, rfl, ⟨hIσ2, (gFr.tr (gFr.rfl (L := [5, 10]) (σ := σ)) fcσ2 (by decide)), trivial⟩, ⟨by rw [ht]; exact hP, hD⟩⟩, hS.F ht⟩) hS.2.2 dX11_fraction_27
  · refine W.eq (g2 := F0 m 5 ls [.ref (ad b_4)]) rfl ?_
    refine lv_astore (lv' := [(4, .ref (ad b_4)), (0, .ref (ad 0)), (1, .int p0), (2, .int p1), (3, .int p2)]) hx hb dX11_fraction_5 hl (by decide) rfl (fun ls hl => ?_)
    refine lv_aload hx hb dX11_fraction_7 (lv_at hl 0 rfl) ?_
    refine lv_ifnull hx hb dX11_fraction_9 ?_
    refine lv_aload hx hb dX11_fraction_12 (lv_at hl 0 rfl) ?_
    refine lv_iload_n hx hb dX11_fraction_14 rfl (lv_at hl 3 rfl) ?_
    have hF := gFree hD hS hA
    refine va_calliD hd0 (va_runV_D (As := [.int p1]) (rest := []) ⟨hx, hb, hml, hown, hts⟩ (n_X0_hasPeriod l dC dI ad cA adK adV H.size σ hI b_4 hb_5 p1) (cwV 1 hts gX11_fraction_X0_hasPeriod rfl rfl rfl (by decide +kernel) ⟨Nat.le_of_ble_eq_true rfl, Nat.le_of_ble_eq_true rfl⟩) ⟨gBlind, va_recv hK hP (ci := 0) (q0 := b_4) rfl (at_0 hb_5), gStart (As := [.ref (ad b_4), .int p1]) hP hD hK0 hT hS hF (d_2)⟩ rfl rfl hl.1 rfl (lv_room (Nat.le_of_ble_eq_true rfl)) dX11_fraction_15 ⟨Nat.le_of_ble_eq_true rfl, Nat.le_of_ble_eq_true rfl⟩) hS (fun q _ h => hF q h) hF (fun r_11 σ3 t H locs ht hvm hw hB hz1 hk1 hS d_12 hd0 => ?_)
    have hts := dr_words hts0 (d_12)
    have hK := gKd hK0 (d_12)
    have hown : (s.setDrawn (d_12)).vm.findClass RX11 = some m.cls := hown0
    obtain ⟨hP, hD⟩ := gBack hF ht hB
    obtain ⟨hIσ3, hro, hp_13⟩ := hw
    subst hro
    refine lv_if_ne (tgt := 28) hx hb dX11_fraction_18 (by decide) (fun c_14 => ?_) (fun c_14 => ?_)
    · refine lv_aload_n hx hb dX11_fraction_28 rfl (lv_at hl 1 rfl) ?_
      refine lv_iconst (v := 0) hx hb dX11_fraction_29 (by decide) ?_
      refine va_put (D := (dC, dI)) (ci := 10) (v := .int 0) (C := RX11) (T := TX11) (N := 15) hx hb hts hinX11 tyX11 tyX11_ok nmX11 hown hK hP hD hS 0 (at_10 rfl) rfl 12 (by decide) (hts (.fieldLink RX11 74 "BondCalendars" "refusal" "I") (by decide +kernel)) (fun _ h9 => h9) rfl (ty := .int) (by decide +kernel) rfl rfl (Nat.le_of_ble_eq_true rfl) dX11_fraction_30 (fun H locs hP hD hS => ?_)
      obtain ⟨σ4, eσ4, hP, hD⟩ := gPut (se_10_12 rfl) hP hD
      have hIσ4 : InvX σ4 := by rw [eσ4]; exact inv_I hI (ok_10_12 rfl _)
      have frσ4 : gFr [5, 10] σ σ4 := by rw [eσ4]; exact gFr.pI (gFr.rfl (L := [5, 10]) (σ := σ)) rfl (by decide)
      refine lv_aload hx hb dX11_fraction_33 (lv_at hl 0 rfl) ?_
      refine lv_iload_n hx hb dX11_fraction_35 rfl (lv_at hl 3 rfl) ?_
      refine lv_aload_n hx hb dX11_fraction_36 rfl (lv_at hl 1 rfl) ?_
      refine va_get (D := (dC, dI)) (ci := 10) (v := .ref (ad 9)) (C := RX11) (T := TX11) (N := 15) hx hb hts hinX11 hown hK hP 0 (at_10 rfl) rfl 3 (by decide) (hts (.fieldLink RX11 33 "BondCalendars" "ratio" "LBondCalendars$Ratio;") (by decide +kernel)) (fun _ h9 => h9) rfl dX11_fraction_37 ?_
      have hF := gFree hD hS hA
      refine va_callvD hd0 (va_runV_D (As := [.int p1, .ref (ad 9)]) (rest := []) ⟨hx, hb, hml, hown, hts⟩ (n_X0_measurePeriod l dC dI ad cA adK adV H.size σ4 hIσ4 b_4 hb_5 p1 9 rfl) (cwV 2 hts gX11_fraction_X0_measurePeriod rfl rfl rfl (by decide +kernel) ⟨Nat.le_of_ble_eq_true rfl, Nat.le_of_ble_eq_true rfl⟩) ⟨gBlind, va_recv hK hP (ci := 0) (q0 := b_4) rfl (at_0 hb_5), gStart (As := [.ref (ad b_4), .int p1, .ref (ad 9)]) hP hD hK0 hT hS hF (d_12)⟩ rfl rfl hl.1 rfl (lv_room (Nat.le_of_ble_eq_true rfl)) dX11_fraction_40 ⟨Nat.le_of_ble_eq_true rfl, Nat.le_of_ble_eq_true rfl⟩) hS (fun q _ h => hF q h) hF (fun σ5 t H locs ht hvm hw hB hz1 hk1 hS d_16 hd0 => ?_)
      have hts := dr_words hts0 (d_16)
      have hK := gKd hK0 (d_16)
      have hown : (s.setDrawn (d_16)).vm.findClass RX11 = some m.cls := hown0
      obtain ⟨hP, hD⟩ := gBack hF ht hB
      obtain ⟨hIσ5, fcσ5, hp_17⟩ := hw
      refine lv_aload_n hx hb dX11_fraction_43 rfl (lv_at hl 1 rfl) ?_
      refine va_get (D := (dC, dI)) (ci := 10) (v := .ref (ad 9)) (C := RX11) (T := TX11) (N := 15) hx hb hts hinX11 hown hK hP 0 (at_10 rfl) rfl 3 (by decide) (hts (.fieldLink RX11 33 "BondCalendars" "ratio" "LBondCalendars$Ratio;") (by decide +kernel)) (fun _ h9 => h9) rfl dX11_fraction_44 ?_
      refine lv_iload_n hx hb dX11_fraction_47 rfl (lv_at hl 4 rfl) ?_
      have hF := gFree hD hS hA
      refine va_calllD hd0 (va_runV_D (As := [.int p2]) (rest := []) ⟨hx, hb, hml, hown, hts⟩ (n_X6_part l dC dI ad cA adK adV H.size σ5 hIσ5 9 rfl p2) (cwV 1 hts gX11_fraction_X6_part rfl rfl rfl (by decide +kernel) ⟨Nat.le_of_ble_eq_true rfl, Nat.le_of_ble_eq_true rfl⟩) ⟨gBlind, va_recv hK hP (ci := 5) (q0 := 9) rfl (at_5 rfl), gStart (As := [.ref (ad 9), .int p2]) hP hD hK0 hT hS hF (d_16)⟩ rfl rfl hl.1 rfl (lv_room (Nat.le_of_ble_eq_true rfl)) dX11_fraction_48 ⟨Nat.le_of_ble_eq_true rfl, Nat.le_of_ble_eq_true rfl⟩) hS (fun q _ h => hF q h) hF (fun r_18 σ6 t H locs ht hvm hw hB hz1 hk1 hS d_19 hd0 => ?_)
      have hts := dr_words hts0 (d_19)
      have hK := gKd hK0 (d_19)
      have hown : (s.setDrawn (d_19)).vm.findClass RX11 = some m.cls := hown0
      obtain ⟨hP, hD⟩ := gBack hF ht hB
      obtain ⟨hIσ6, hro, hp_20⟩ := hw
      subst hro
      refine W.endD hd0 ?_
      exact W.lret (v := r_18) hx hb hr (fun t ht hW => ⟨⟨r_18, σ5, rfl, ⟨hIσ5, (gFr.tr frσ4 fcσ5 (by decide)), trivial⟩, ⟨by rw [ht]; exact hP, hD⟩⟩, hS.F ht⟩) hS.2.2 dX11_fraction_51
    · refine lv_aload_n hx hb dX11_fraction_21 rfl (lv_at hl 1 rfl) ?_
      refine lv_iconst (v := 1) hx hb dX11_fraction_22 (by decide) ?_
      have hF := gFree hD hS hA
      refine va_calliD hd0 (va_runV_D (As := [.int 1]) (rest := []) ⟨hx, hb, hml, hown, hts⟩ (n_X11_refuse l dC dI ad cA adK adV H.size σ hI 1) (cwV 1 hts gX11_fraction_X11_refuse rfl rfl rfl (by decide +kernel) ⟨Nat.le_of_ble_eq_true rfl, Nat.le_of_ble_eq_true rfl⟩) ⟨gBlind, va_recv hK hP (ci := 10) (q0 := 0) rfl (at_10 rfl), gStart (As := [.ref (ad 0), .int 1]) hP hD hK0 hT hS hF (d_12)⟩ rfl rfl hl.1 rfl (lv_room (Nat.le_of_ble_eq_true rfl)) dX11_fraction_23 ⟨Nat.le_of_ble_eq_true rfl, Nat.le_of_ble_eq_true rfl⟩) hS (fun q _ h => hF q h) hF (fun r_21 σ7 t H locs ht hvm hw hB hz1 hk1 hS d_22 hd0 => ?_)
      have hts := dr_words hts0 (d_22)
      have hK := gKd hK0 (d_22)
      have hown : (s.setDrawn (d_22)).vm.findClass RX11 = some m.cls := hown0
      obtain ⟨hP, hD⟩ := gBack hF ht hB
      obtain ⟨hIσ7, fcσ7, hp_23⟩ := hw
      refine lv_i2l hx hb dX11_fraction_26 rfl ?_
      refine W.endD hd0 ?_
      exact W.lret (v := (r_21.toInt64)) hx hb hr (fun t ht hW => ⟨⟨(r_21.toInt64), σ7, rfl, ⟨hIσ7, (gFr.tr (gFr.rfl (L := [5, 10]) (σ := σ)) fcσ7 (by decide)), trivial⟩, ⟨by rw [ht]; exact hP, hD⟩⟩, hS.F ht⟩) hS.2.2 dX11_fraction_27
set_option maxHeartbeats 8000000 in
set_option maxRecDepth 100000 in
theorem n_X11_coupon (l : Launch) (dC : Nat → ClassId) (dI : Nat → Nat → Nat) (ad : Nat → Nat) (cA : Nat → ClassId) (adK adV : Nat → Nat) (sz : Nat) (σ : gs) (hI : InvX σ) (p0 : Int32) (p1 : Int32) (p2 : Int32) : MetD lw_cs l yX11_coupon wsX11_coupon ({ frames := 5, cells := 0, slots := 0, locals := 131 }) (va_Pc [.ref (ad 0), .int p0, .int p1, .int p2] (gPre adK adV (dC, dI) (wX ad cA σ) (tX cA) sz)) (va_Ql (fun (r : Int64) (τ : gs) => InvX τ ∧ gFr [5, 10] σ τ ∧ (True)) (fun τ t => gPost (dC, dI) (va_A (wX ad cA σ) sz) (wX ad cA τ) t) (va_A (wX ad cA σ) sz)) 0 0 (va_A (wX ad cA σ) sz) := by
  refine MetD.ofW (cc := cX11_coupon) (maxL := 5) (ret := (some .long)) (by decide) rfl ?_
  intro p e s m args below meth c s₁ B hml hv hd0
  obtain ⟨rfl, hsz, hP, hK, hD0, hT⟩ := hv
  have hx := B.exec
  have hb := B.bytes
  have hr := B.returns
  have hts0 := atoms_spec (ws := wsX11_coupon) B.pre
  have hK0 := hK
  have hown0 : s.vm.findClass RX11 = some m.cls := findClass_of_methodNamed B.named
  have hlocks := B.notSynchronized
  have hinX11 : ∀ w ∈ u_ws RX11 TX11 15, w ∈ wsX11_coupon := (fun _ h9 => List.mem_cons_of_mem _ (List.mem_append_left _ (List.mem_append_left _ (List.mem_append_left _ (List.mem_append_right _ h9)))))
  subst hsz
  have hD := hD0.self (sz := s.heap.size)
  generalize hAe : va_A (wX ad cA σ) s.heap.size = A at hD hT ⊢
  have hA : ∀ q : Nat, s.heap.size ≤ q → A q := fun q h => by rw [← hAe]; exact Or.inr h
  have hS : va_S A s.heap s.heap [] := va_S.rf
  have hl := lv_entry ([.ref (ad 0), .int p0, .int p1, .int p2]) (n := 5) (Nat.le_of_ble_eq_true rfl)
  rw [lg_entry_eq]
  generalize (lg_sl ([.ref (ad 0), .int p0, .int p1, .int p2]) ++ List.replicate (5 - (lg_sl ([.ref (ad 0), .int p0, .int p1, .int p2])).length) Slot.unset).toArray = ls at hl ⊢
  have hl : lv_has ls 5 [(0, .ref (ad 0)), (1, .int p0), (2, .int p1), (3, .int p2)] := hl
  have hts := dr_words hts0 (s.drawn)
  have hK := gKd hK0 (s.drawn)
  have hown : (s.setDrawn (s.drawn)).vm.findClass RX11 = some m.cls := hown0
  refine lv_aload_n hx hb dX11_coupon_0 rfl (lv_at hl 0 rfl) ?_
  refine lv_iload_n hx hb dX11_coupon_1 rfl (lv_at hl 1 rfl) ?_
  have hF := gFree hD hS hA
  refine va_callqD hd0 (va_runV_D (As := [.int p0]) (rest := []) ⟨hx, hb, hml, hown, hts⟩ (n_X11_bondOf l dC dI ad cA adK adV s.heap.size σ hI p0) (cwV 1 hts gX11_coupon_X11_bondOf rfl rfl rfl (by decide +kernel) ⟨Nat.le_of_ble_eq_true rfl, Nat.le_of_ble_eq_true rfl⟩) ⟨gBlind, va_recv hK hP (ci := 10) (q0 := 0) rfl (at_10 rfl), gStart (As := [.ref (ad 0), .int p0]) hP hD hK0 hT hS hF (s.drawn)⟩ rfl rfl hl.1 rfl (lv_room (Nat.le_of_ble_eq_true rfl)) dX11_coupon_2 ⟨Nat.le_of_ble_eq_true rfl, Nat.le_of_ble_eq_true rfl⟩) hS (fun q _ h => hF q h) hF (fun r_1 σ1 t H locs ht hvm hw hB hz1 hk1 hS d_2 hd0 => ?_)
  have hts := dr_words hts0 (d_2)
  have hK := gKd hK0 (d_2)
  have hown : (s.setDrawn (d_2)).vm.findClass RX11 = some m.cls := hown0
  obtain ⟨hP, hD⟩ := gBack hF ht hB
  obtain ⟨hIσ1, hro, hp_3⟩ := hw
  subst hro
  rcases hp_3 with rfl | ⟨b_4, hb_5, rfl, hq_6, hq_7⟩
  · refine W.eq (g2 := F0 m 5 ls [.null]) rfl ?_
    refine lv_astoreN (lv' := [(4, .null), (0, .ref (ad 0)), (1, .int p0), (2, .int p1), (3, .int p2)]) hx hb dX11_coupon_5 hl (by decide) rfl (fun ls hl => ?_)
    refine lv_aloadN hx hb dX11_coupon_7 (lv_at hl 0 rfl) ?_
    refine lv_ifnullN (tgt := 21) hx hb dX11_coupon_9 (by decide) ?_
    refine lv_aload_n hx hb dX11_coupon_21 rfl (lv_at hl 1 rfl) ?_
    refine lv_iconst (v := 1) hx hb dX11_coupon_22 (by decide) ?_
    have hF := gFree hD hS hA
    refine va_calliD hd0 (va_runV_D (As := [.int 1]) (rest := []) ⟨hx, hb, hml, hown, hts⟩ (n_X11_refuse l dC dI ad cA adK adV H.size σ hI 1) (cwV 1 hts gX11_coupon_X11_refuse rfl rfl rfl (by decide +kernel) ⟨Nat.le_of_ble_eq_true rfl, Nat.le_of_ble_eq_true rfl⟩) ⟨gBlind, va_recv hK hP (ci := 10) (q0 := 0) rfl (at_10 rfl), gStart (As := [.ref (ad 0), .int 1]) hP hD hK0 hT hS hF (d_2)⟩ rfl rfl hl.1 rfl (lv_room (Nat.le_of_ble_eq_true rfl)) dX11_coupon_23 ⟨Nat.le_of_ble_eq_true rfl, Nat.le_of_ble_eq_true rfl⟩) hS (fun q _ h => hF q h) hF (fun r_8 σ2 t H locs ht hvm hw hB hz1 hk1 hS d_9 hd0 => ?_)
    have hts := dr_words hts0 (d_9)
    have hK := gKd hK0 (d_9)
    have hown : (s.setDrawn (d_9)).vm.findClass RX11 = some m.cls := hown0
    obtain ⟨hP, hD⟩ := gBack hF ht hB
    obtain ⟨hIσ2, fcσ2, hp_10⟩ := hw
    refine lv_i2l hx hb dX11_coupon_26 rfl ?_
    refine W.endD hd0 ?_
    exact W.lret (v := (r_8.toInt64)) hx hb hr (fun t ht hW => ⟨⟨(r_8.toInt64), σ2, rfl, ⟨hIσ2, (gFr.tr (gFr.rfl (L := [5, 10]) (σ := σ)) fcσ2 (by decide)), trivial⟩, ⟨by rw [ht]; exact hP, hD⟩⟩, hS.F ht⟩) hS.2.2 dX11_coupon_27
  · refine W.eq (g2 := F0 m 5 ls [.ref (ad b_4)]) rfl ?_
    refine lv_astore (lv' := [(4, .ref (ad b_4)), (0, .ref (ad 0)), (1, .int p0), (2, .int p1), (3, .int p2)]) hx hb dX11_coupon_5 hl (by decide) rfl (fun ls hl => ?_)
    refine lv_aload hx hb dX11_coupon_7 (lv_at hl 0 rfl) ?_
    refine lv_ifnull hx hb dX11_coupon_9 ?_
    refine lv_aload hx hb dX11_coupon_12 (lv_at hl 0 rfl) ?_
    refine lv_iload_n hx hb dX11_coupon_14 rfl (lv_at hl 3 rfl) ?_
    have hF := gFree hD hS hA
    refine va_calliD hd0 (va_runV_D (As := [.int p1]) (rest := []) ⟨hx, hb, hml, hown, hts⟩ (n_X0_hasPeriod l dC dI ad cA adK adV H.size σ hI b_4 hb_5 p1) (cwV 1 hts gX11_coupon_X0_hasPeriod rfl rfl rfl (by decide +kernel) ⟨Nat.le_of_ble_eq_true rfl, Nat.le_of_ble_eq_true rfl⟩) ⟨gBlind, va_recv hK hP (ci := 0) (q0 := b_4) rfl (at_0 hb_5), gStart (As := [.ref (ad b_4), .int p1]) hP hD hK0 hT hS hF (d_2)⟩ rfl rfl hl.1 rfl (lv_room (Nat.le_of_ble_eq_true rfl)) dX11_coupon_15 ⟨Nat.le_of_ble_eq_true rfl, Nat.le_of_ble_eq_true rfl⟩) hS (fun q _ h => hF q h) hF (fun r_11 σ3 t H locs ht hvm hw hB hz1 hk1 hS d_12 hd0 => ?_)
    have hts := dr_words hts0 (d_12)
    have hK := gKd hK0 (d_12)
    have hown : (s.setDrawn (d_12)).vm.findClass RX11 = some m.cls := hown0
    obtain ⟨hP, hD⟩ := gBack hF ht hB
    obtain ⟨hIσ3, hro, hp_13⟩ := hw
    subst hro
    refine lv_if_ne (tgt := 28) hx hb dX11_coupon_18 (by decide) (fun c_14 => ?_) (fun c_14 => ?_)
    · refine lv_aload_n hx hb dX11_coupon_28 rfl (lv_at hl 1 rfl) ?_
      refine lv_iconst (v := 0) hx hb dX11_coupon_29 (by decide) ?_
      refine va_put (D := (dC, dI)) (ci := 10) (v := .int 0) (C := RX11) (T := TX11) (N := 15) hx hb hts hinX11 tyX11 tyX11_ok nmX11 hown hK hP hD hS 0 (at_10 rfl) rfl 12 (by decide) (hts (.fieldLink RX11 74 "BondCalendars" "refusal" "I") (by decide +kernel)) (fun _ h9 => h9) rfl (ty := .int) (by decide +kernel) rfl rfl (Nat.le_of_ble_eq_true rfl) dX11_coupon_30 (fun H locs hP hD hS => ?_)
      obtain ⟨σ4, eσ4, hP, hD⟩ := gPut (se_10_12 rfl) hP hD
      have hIσ4 : InvX σ4 := by rw [eσ4]; exact inv_I hI (ok_10_12 rfl _)
      have frσ4 : gFr [5, 10] σ σ4 := by rw [eσ4]; exact gFr.pI (gFr.rfl (L := [5, 10]) (σ := σ)) rfl (by decide)
      refine lv_aload hx hb dX11_coupon_33 (lv_at hl 0 rfl) ?_
      refine lv_iload_n hx hb dX11_coupon_35 rfl (lv_at hl 3 rfl) ?_
      refine lv_aload_n hx hb dX11_coupon_36 rfl (lv_at hl 1 rfl) ?_
      refine va_get (D := (dC, dI)) (ci := 10) (v := .ref (ad 9)) (C := RX11) (T := TX11) (N := 15) hx hb hts hinX11 hown hK hP 0 (at_10 rfl) rfl 3 (by decide) (hts (.fieldLink RX11 33 "BondCalendars" "ratio" "LBondCalendars$Ratio;") (by decide +kernel)) (fun _ h9 => h9) rfl dX11_coupon_37 ?_
      have hF := gFree hD hS hA
      refine va_callvD hd0 (va_runV_D (As := [.int p1, .ref (ad 9)]) (rest := []) ⟨hx, hb, hml, hown, hts⟩ (n_X0_measureCoupon l dC dI ad cA adK adV H.size σ4 hIσ4 b_4 hb_5 p1 9 rfl) (cwV 2 hts gX11_coupon_X0_measureCoupon rfl rfl rfl (by decide +kernel) ⟨Nat.le_of_ble_eq_true rfl, Nat.le_of_ble_eq_true rfl⟩) ⟨gBlind, va_recv hK hP (ci := 0) (q0 := b_4) rfl (at_0 hb_5), gStart (As := [.ref (ad b_4), .int p1, .ref (ad 9)]) hP hD hK0 hT hS hF (d_12)⟩ rfl rfl hl.1 rfl (lv_room (Nat.le_of_ble_eq_true rfl)) dX11_coupon_40 ⟨Nat.le_of_ble_eq_true rfl, Nat.le_of_ble_eq_true rfl⟩) hS (fun q _ h => hF q h) hF (fun σ5 t H locs ht hvm hw hB hz1 hk1 hS d_16 hd0 => ?_)
      have hts := dr_words hts0 (d_16)
      have hK := gKd hK0 (d_16)
      have hown : (s.setDrawn (d_16)).vm.findClass RX11 = some m.cls := hown0
      obtain ⟨hP, hD⟩ := gBack hF ht hB
      obtain ⟨hIσ5, fcσ5, hp_17⟩ := hw
      refine lv_aload_n hx hb dX11_coupon_43 rfl (lv_at hl 1 rfl) ?_
      refine va_get (D := (dC, dI)) (ci := 10) (v := .ref (ad 9)) (C := RX11) (T := TX11) (N := 15) hx hb hts hinX11 hown hK hP 0 (at_10 rfl) rfl 3 (by decide) (hts (.fieldLink RX11 33 "BondCalendars" "ratio" "LBondCalendars$Ratio;") (by decide +kernel)) (fun _ h9 => h9) rfl dX11_coupon_44 ?_
      refine lv_iload_n hx hb dX11_coupon_47 rfl (lv_at hl 4 rfl) ?_
      have hF := gFree hD hS hA
      refine va_calllD hd0 (va_runV_D (As := [.int p2]) (rest := []) ⟨hx, hb, hml, hown, hts⟩ (n_X6_part l dC dI ad cA adK adV H.size σ5 hIσ5 9 rfl p2) (cwV 1 hts gX11_coupon_X6_part rfl rfl rfl (by decide +kernel) ⟨Nat.le_of_ble_eq_true rfl, Nat.le_of_ble_eq_true rfl⟩) ⟨gBlind, va_recv hK hP (ci := 5) (q0 := 9) rfl (at_5 rfl), gStart (As := [.ref (ad 9), .int p2]) hP hD hK0 hT hS hF (d_16)⟩ rfl rfl hl.1 rfl (lv_room (Nat.le_of_ble_eq_true rfl)) dX11_coupon_48 ⟨Nat.le_of_ble_eq_true rfl, Nat.le_of_ble_eq_true rfl⟩) hS (fun q _ h => hF q h) hF (fun r_18 σ6 t H locs ht hvm hw hB hz1 hk1 hS d_19 hd0 => ?_)
      have hts := dr_words hts0 (d_19)
      have hK := gKd hK0 (d_19)
      have hown : (s.setDrawn (d_19)).vm.findClass RX11 = some m.cls := hown0
      obtain ⟨hP, hD⟩ := gBack hF ht hB
      obtain ⟨hIσ6, hro, hp_20⟩ := hw
      subst hro
      refine W.endD hd0 ?_
      exact W.lret (v := r_18) hx hb hr (fun t ht hW => ⟨⟨r_18, σ5, rfl, ⟨hIσ5, (gFr.tr frσ4 fcσ5 (by decide)), trivial⟩, ⟨by rw [ht]; exact hP, hD⟩⟩, hS.F ht⟩) hS.2.2 dX11_coupon_51
    · refine lv_aload_n hx hb dX11_coupon_21 rfl (lv_at hl 1 rfl) ?_
      refine lv_iconst (v := 1) hx hb dX11_coupon_22 (by decide) ?_
      have hF := gFree hD hS hA
      refine va_calliD hd0 (va_runV_D (As := [.int 1]) (rest := []) ⟨hx, hb, hml, hown, hts⟩ (n_X11_refuse l dC dI ad cA adK adV H.size σ hI 1) (cwV 1 hts gX11_coupon_X11_refuse rfl rfl rfl (by decide +kernel) ⟨Nat.le_of_ble_eq_true rfl, Nat.le_of_ble_eq_true rfl⟩) ⟨gBlind, va_recv hK hP (ci := 10) (q0 := 0) rfl (at_10 rfl), gStart (As := [.ref (ad 0), .int 1]) hP hD hK0 hT hS hF (d_12)⟩ rfl rfl hl.1 rfl (lv_room (Nat.le_of_ble_eq_true rfl)) dX11_coupon_23 ⟨Nat.le_of_ble_eq_true rfl, Nat.le_of_ble_eq_true rfl⟩) hS (fun q _ h => hF q h) hF (fun r_21 σ7 t H locs ht hvm hw hB hz1 hk1 hS d_22 hd0 => ?_)
      have hts := dr_words hts0 (d_22)
      have hK := gKd hK0 (d_22)
      have hown : (s.setDrawn (d_22)).vm.findClass RX11 = some m.cls := hown0
      obtain ⟨hP, hD⟩ := gBack hF ht hB
      obtain ⟨hIσ7, fcσ7, hp_23⟩ := hw
      refine lv_i2l hx hb dX11_coupon_26 rfl ?_
      refine W.endD hd0 ?_
      exact W.lret (v := (r_21.toInt64)) hx hb hr (fun t ht hW => ⟨⟨(r_21.toInt64), σ7, rfl, ⟨hIσ7, (gFr.tr (gFr.rfl (L := [5, 10]) (σ := σ)) fcσ7 (by decide)), trivial⟩, ⟨by rw [ht]; exact hP, hD⟩⟩, hS.F ht⟩) hS.2.2 dX11_coupon_27
set_option maxHeartbeats 8000000 in
set_option maxRecDepth 100000 in
theorem n_X11_line (l : Launch) (dC : Nat → ClassId) (dI : Nat → Nat → Nat) (ad : Nat → Nat) (cA : Nat → ClassId) (adK adV : Nat → Nat) (sz : Nat) (σ : gs) (hI : InvX σ) (p0 : Int32) (p1 : Int32) : MetD lw_cs l yX11_line wsX11_line ({ frames := 6, cells := 0, slots := 0, locals := 154 }) (va_Pc [.ref (ad 0), .int p0, .int p1] (gPre adK adV (dC, dI) (wX ad cA σ) (tX cA) sz)) (va_Qi (fun (r : Int32) (τ : gs) => InvX τ ∧ gFr [5, 8, 10, 21] σ τ ∧ (True)) (fun τ t => gPost (dC, dI) (va_A (wX ad cA σ) sz) (wX ad cA τ) t) (va_A (wX ad cA σ) sz)) 0 0 (va_A (wX ad cA σ) sz) := by
  refine MetD.ofW (cc := cX11_line) (maxL := 4) (ret := (some .int)) (by decide) rfl ?_
  intro p e s m args below meth c s₁ B hml hv hd0
  obtain ⟨rfl, hsz, hP, hK, hD0, hT⟩ := hv
  have hx := B.exec
  have hb := B.bytes
  have hr := B.returns
  have hts0 := atoms_spec (ws := wsX11_line) B.pre
  have hK0 := hK
  have hown0 : s.vm.findClass RX11 = some m.cls := findClass_of_methodNamed B.named
  have hlocks := B.notSynchronized
  have hinX11 : ∀ w ∈ u_ws RX11 TX11 15, w ∈ wsX11_line := (fun _ h9 => List.mem_cons_of_mem _ (List.mem_append_left _ (List.mem_append_left _ (List.mem_append_left _ (List.mem_append_left _ (List.mem_append_right _ h9))))))
  have hinX9 : ∀ w ∈ u_ws RX9 TX9 2, w ∈ wsX11_line := (fun _ h9 => List.mem_cons_of_mem _ (List.mem_append_left _ (List.mem_append_left _ (List.mem_append_left _ (List.mem_append_right _ h9)))))
  subst hsz
  have hD := hD0.self (sz := s.heap.size)
  generalize hAe : va_A (wX ad cA σ) s.heap.size = A at hD hT ⊢
  have hA : ∀ q : Nat, s.heap.size ≤ q → A q := fun q h => by rw [← hAe]; exact Or.inr h
  have hS : va_S A s.heap s.heap [] := va_S.rf
  have hl := lv_entry ([.ref (ad 0), .int p0, .int p1]) (n := 4) (Nat.le_of_ble_eq_true rfl)
  rw [lg_entry_eq]
  generalize (lg_sl ([.ref (ad 0), .int p0, .int p1]) ++ List.replicate (4 - (lg_sl ([.ref (ad 0), .int p0, .int p1])).length) Slot.unset).toArray = ls at hl ⊢
  have hl : lv_has ls 4 [(0, .ref (ad 0)), (1, .int p0), (2, .int p1)] := hl
  have hts := dr_words hts0 (s.drawn)
  have hK := gKd hK0 (s.drawn)
  have hown : (s.setDrawn (s.drawn)).vm.findClass RX11 = some m.cls := hown0
  refine lv_aload_n hx hb dX11_line_0 rfl (lv_at hl 0 rfl) ?_
  refine lv_iload_n hx hb dX11_line_1 rfl (lv_at hl 1 rfl) ?_
  have hF := gFree hD hS hA
  refine va_callqD hd0 (va_runV_D (As := [.int p0]) (rest := []) ⟨hx, hb, hml, hown, hts⟩ (n_X11_bondOf l dC dI ad cA adK adV s.heap.size σ hI p0) (cwV 1 hts gX11_line_X11_bondOf rfl rfl rfl (by decide +kernel) ⟨Nat.le_of_ble_eq_true rfl, Nat.le_of_ble_eq_true rfl⟩) ⟨gBlind, va_recv hK hP (ci := 10) (q0 := 0) rfl (at_10 rfl), gStart (As := [.ref (ad 0), .int p0]) hP hD hK0 hT hS hF (s.drawn)⟩ rfl rfl hl.1 rfl (lv_room (Nat.le_of_ble_eq_true rfl)) dX11_line_2 ⟨Nat.le_of_ble_eq_true rfl, Nat.le_of_ble_eq_true rfl⟩) hS (fun q _ h => hF q h) hF (fun r_1 σ1 t H locs ht hvm hw hB hz1 hk1 hS d_2 hd0 => ?_)
  have hts := dr_words hts0 (d_2)
  have hK := gKd hK0 (d_2)
  have hown : (s.setDrawn (d_2)).vm.findClass RX11 = some m.cls := hown0
  obtain ⟨hP, hD⟩ := gBack hF ht hB
  obtain ⟨hIσ1, hro, hp_3⟩ := hw
  subst hro
  rcases hp_3 with rfl | ⟨b_4, hb_5, rfl, hq_6, hq_7⟩
  · refine W.eq (g2 := F0 m 5 ls [.null]) rfl ?_
    refine lv_astore_nN (lv' := [(3, .null), (0, .ref (ad 0)), (1, .int p0), (2, .int p1)]) hx hb dX11_line_5 rfl hl (by decide) rfl (fun ls hl => ?_)
    refine lv_aload_nN hx hb dX11_line_6 rfl (lv_at hl 0 rfl) ?_
    refine lv_ifnullN (tgt := 18) hx hb dX11_line_7 (by decide) ?_
    refine lv_aload_n hx hb dX11_line_18 rfl (lv_at hl 1 rfl) ?_
    refine lv_iconst (v := 1) hx hb dX11_line_19 (by decide) ?_
    have hF := gFree hD hS hA
    refine va_calliD hd0 (va_runV_D (As := [.int 1]) (rest := []) ⟨hx, hb, hml, hown, hts⟩ (n_X11_refuse l dC dI ad cA adK adV H.size σ hI 1) (cwV 1 hts gX11_line_X11_refuse rfl rfl rfl (by decide +kernel) ⟨Nat.le_of_ble_eq_true rfl, Nat.le_of_ble_eq_true rfl⟩) ⟨gBlind, va_recv hK hP (ci := 10) (q0 := 0) rfl (at_10 rfl), gStart (As := [.ref (ad 0), .int 1]) hP hD hK0 hT hS hF (d_2)⟩ rfl rfl hl.1 rfl (lv_room (Nat.le_of_ble_eq_true rfl)) dX11_line_20 ⟨Nat.le_of_ble_eq_true rfl, Nat.le_of_ble_eq_true rfl⟩) hS (fun q _ h => hF q h) hF (fun r_8 σ2 t H locs ht hvm hw hB hz1 hk1 hS d_9 hd0 => ?_)
    have hts := dr_words hts0 (d_9)
    have hK := gKd hK0 (d_9)
    have hown : (s.setDrawn (d_9)).vm.findClass RX11 = some m.cls := hown0
    obtain ⟨hP, hD⟩ := gBack hF ht hB
    obtain ⟨hIσ2, fcσ2, hp_10⟩ := hw
    refine W.endD hd0 ?_
    exact W.iret (v := r_8) hx hb hr (fun t ht hW => ⟨⟨r_8, σ2, rfl, ⟨hIσ2, (gFr.tr (gFr.rfl (L := [5, 8, 10, 21]) (σ := σ)) fcσ2 (by decide)), trivial⟩, ⟨by rw [ht]; exact hP, hD⟩⟩, hS.F ht⟩) hS.2.2 dX11_line_23
  · refine W.eq (g2 := F0 m 5 ls [.ref (ad b_4)]) rfl ?_
    refine lv_astore_n (lv' := [(3, .ref (ad b_4)), (0, .ref (ad 0)), (1, .int p0), (2, .int p1)]) hx hb dX11_line_5 rfl hl (by decide) rfl (fun ls hl => ?_)
    refine lv_aload_n hx hb dX11_line_6 rfl (lv_at hl 0 rfl) ?_
    refine lv_ifnull hx hb dX11_line_7 ?_
    refine lv_aload_n hx hb dX11_line_10 rfl (lv_at hl 0 rfl) ?_
    refine lv_iload_n hx hb dX11_line_11 rfl (lv_at hl 3 rfl) ?_
    have hF := gFree hD hS hA
    refine va_calliD hd0 (va_runV_D (As := [.int p1]) (rest := []) ⟨hx, hb, hml, hown, hts⟩ (n_X0_hasPeriod l dC dI ad cA adK adV H.size σ hI b_4 hb_5 p1) (cwV 1 hts gX11_line_X0_hasPeriod rfl rfl rfl (by decide +kernel) ⟨Nat.le_of_ble_eq_true rfl, Nat.le_of_ble_eq_true rfl⟩) ⟨gBlind, va_recv hK hP (ci := 0) (q0 := b_4) rfl (at_0 hb_5), gStart (As := [.ref (ad b_4), .int p1]) hP hD hK0 hT hS hF (d_2)⟩ rfl rfl hl.1 rfl (lv_room (Nat.le_of_ble_eq_true rfl)) dX11_line_12 ⟨Nat.le_of_ble_eq_true rfl, Nat.le_of_ble_eq_true rfl⟩) hS (fun q _ h => hF q h) hF (fun r_11 σ3 t H locs ht hvm hw hB hz1 hk1 hS d_12 hd0 => ?_)
    have hts := dr_words hts0 (d_12)
    have hK := gKd hK0 (d_12)
    have hown : (s.setDrawn (d_12)).vm.findClass RX11 = some m.cls := hown0
    obtain ⟨hP, hD⟩ := gBack hF ht hB
    obtain ⟨hIσ3, hro, hp_13⟩ := hw
    subst hro
    refine lv_if_ne (tgt := 24) hx hb dX11_line_15 (by decide) (fun c_14 => ?_) (fun c_14 => ?_)
    · refine lv_aload_n hx hb dX11_line_24 rfl (lv_at hl 1 rfl) ?_
      refine lv_iconst (v := 0) hx hb dX11_line_25 (by decide) ?_
      refine va_put (D := (dC, dI)) (ci := 10) (v := .int 0) (C := RX11) (T := TX11) (N := 15) hx hb hts hinX11 tyX11 tyX11_ok nmX11 hown hK hP hD hS 0 (at_10 rfl) rfl 12 (by decide) (hts (.fieldLink RX11 74 "BondCalendars" "refusal" "I") (by decide +kernel)) (fun _ h9 => h9) rfl (ty := .int) (by decide +kernel) rfl rfl (Nat.le_of_ble_eq_true rfl) dX11_line_26 (fun H locs hP hD hS => ?_)
      obtain ⟨σ4, eσ4, hP, hD⟩ := gPut (se_10_12 rfl) hP hD
      have hIσ4 : InvX σ4 := by rw [eσ4]; exact inv_I hI (ok_10_12 rfl _)
      have frσ4 : gFr [5, 8, 10, 21] σ σ4 := by rw [eσ4]; exact gFr.pI (gFr.rfl (L := [5, 8, 10, 21]) (σ := σ)) rfl (by decide)
      refine lv_aload_n hx hb dX11_line_29 rfl (lv_at hl 1 rfl) ?_
      refine lv_aload_n hx hb dX11_line_30 rfl (lv_at hl 0 rfl) ?_
      refine lv_iload_n hx hb dX11_line_31 rfl (lv_at hl 3 rfl) ?_
      have hF := gFree hD hS hA
      refine va_callvD hd0 (va_runV_D (As := [.ref (ad b_4), .int p1]) (rest := []) ⟨hx, hb, hml, hown, hts⟩ (n_X11_writeLine l dC dI ad cA adK adV H.size σ4 hIσ4 b_4 hb_5 p1 (hp_13.2 c_14).1 (hp_13.2 c_14).2) (cwV 2 hts gX11_line_X11_writeLine rfl rfl rfl (by decide +kernel) ⟨Nat.le_of_ble_eq_true rfl, Nat.le_of_ble_eq_true rfl⟩) ⟨gBlind, va_recv hK hP (ci := 10) (q0 := 0) rfl (at_10 rfl), gStart (As := [.ref (ad 0), .ref (ad b_4), .int p1]) hP hD hK0 hT hS hF (d_12)⟩ rfl rfl hl.1 rfl (lv_room (Nat.le_of_ble_eq_true rfl)) dX11_line_32 ⟨Nat.le_of_ble_eq_true rfl, Nat.le_of_ble_eq_true rfl⟩) hS (fun q _ h => hF q h) hF (fun σ5 t H locs ht hvm hw hB hz1 hk1 hS d_16 hd0 => ?_)
      have hts := dr_words hts0 (d_16)
      have hK := gKd hK0 (d_16)
      have hown : (s.setDrawn (d_16)).vm.findClass RX11 = some m.cls := hown0
      obtain ⟨hP, hD⟩ := gBack hF ht hB
      obtain ⟨hIσ5, fcσ5, hp_17⟩ := hw
      refine lv_aload_n hx hb dX11_line_35 rfl (lv_at hl 1 rfl) ?_
      refine va_get (D := (dC, dI)) (ci := 10) (v := .ref (ad 10)) (C := RX11) (T := TX11) (N := 15) hx hb hts hinX11 hown hK hP 0 (at_10 rfl) rfl 4 (by decide) (hts (.fieldLink RX11 40 "BondCalendars" "sheet" "LBondCalendars$Sheet;") (by decide +kernel)) (fun _ h9 => h9) rfl dX11_line_36 ?_
      have bd_18 := rd_8_1 (c := 10) hIσ5 rfl
      refine va_get (D := (dC, dI)) (ci := 8) (v := .int ((σ5 10).1 1)) (C := RX9) (T := TX9) (N := 2) hx hb hts hinX9 hown hK hP 10 (at_8 rfl) rfl 1 (by decide) (hts (.fieldLink RX11 239 "BondCalendars$Sheet" "length" "I") (by decide +kernel)) (fun _ h9 => h9) rfl dX11_line_39 ?_
      refine W.endD hd0 ?_
      exact W.iret (v := ((σ5 10).1 1)) hx hb hr (fun t ht hW => ⟨⟨((σ5 10).1 1), σ5, rfl, ⟨hIσ5, (gFr.tr frσ4 fcσ5 (by decide)), trivial⟩, ⟨by rw [ht]; exact hP, hD⟩⟩, hS.F ht⟩) hS.2.2 dX11_line_42
    · refine lv_aload_n hx hb dX11_line_18 rfl (lv_at hl 1 rfl) ?_
      refine lv_iconst (v := 1) hx hb dX11_line_19 (by decide) ?_
      have hF := gFree hD hS hA
      refine va_calliD hd0 (va_runV_D (As := [.int 1]) (rest := []) ⟨hx, hb, hml, hown, hts⟩ (n_X11_refuse l dC dI ad cA adK adV H.size σ hI 1) (cwV 1 hts gX11_line_X11_refuse rfl rfl rfl (by decide +kernel) ⟨Nat.le_of_ble_eq_true rfl, Nat.le_of_ble_eq_true rfl⟩) ⟨gBlind, va_recv hK hP (ci := 10) (q0 := 0) rfl (at_10 rfl), gStart (As := [.ref (ad 0), .int 1]) hP hD hK0 hT hS hF (d_12)⟩ rfl rfl hl.1 rfl (lv_room (Nat.le_of_ble_eq_true rfl)) dX11_line_20 ⟨Nat.le_of_ble_eq_true rfl, Nat.le_of_ble_eq_true rfl⟩) hS (fun q _ h => hF q h) hF (fun r_19 σ6 t H locs ht hvm hw hB hz1 hk1 hS d_20 hd0 => ?_)
      have hts := dr_words hts0 (d_20)
      have hK := gKd hK0 (d_20)
      have hown : (s.setDrawn (d_20)).vm.findClass RX11 = some m.cls := hown0
      obtain ⟨hP, hD⟩ := gBack hF ht hB
      obtain ⟨hIσ6, fcσ6, hp_21⟩ := hw
      refine W.endD hd0 ?_
      exact W.iret (v := r_19) hx hb hr (fun t ht hW => ⟨⟨r_19, σ6, rfl, ⟨hIσ6, (gFr.tr (gFr.rfl (L := [5, 8, 10, 21]) (σ := σ)) fcσ6 (by decide)), trivial⟩, ⟨by rw [ht]; exact hP, hD⟩⟩, hS.F ht⟩) hS.2.2 dX11_line_23
set_option maxHeartbeats 8000000 in
set_option maxRecDepth 100000 in
theorem n_X11_sign (l : Launch) (dC : Nat → ClassId) (dI : Nat → Nat → Nat) (ad : Nat → Nat) (cA : Nat → ClassId) (adK adV : Nat → Nat) (sz : Nat) (σ : gs) (hI : InvX σ) (p0 : Int32) (p1 : Int32) (p2 : Int32) : MetD lw_cs l yX11_sign wsX11_sign ({ frames := 6, cells := 0, slots := 0, locals := 154 }) (va_Pc [.ref (ad 0), .int p0, .int p1, .int p2] (gPre adK adV (dC, dI) (wX ad cA σ) (tX cA) sz)) (va_Qi (fun (r : Int32) (τ : gs) => InvX τ ∧ gFr [5, 8, 10, 21] σ τ ∧ (True)) (fun τ t => gPost (dC, dI) (va_A (wX ad cA σ) sz) (wX ad cA τ) t) (va_A (wX ad cA σ) sz)) 0 0 (va_A (wX ad cA σ) sz) := by
  refine MetD.ofW (cc := cX11_sign) (maxL := 5) (ret := (some .int)) (by decide) rfl ?_
  intro p e s m args below meth c s₁ B hml hv hd0
  obtain ⟨rfl, hsz, hP, hK, hD0, hT⟩ := hv
  have hx := B.exec
  have hb := B.bytes
  have hr := B.returns
  have hts0 := atoms_spec (ws := wsX11_sign) B.pre
  have hK0 := hK
  have hown0 : s.vm.findClass RX11 = some m.cls := findClass_of_methodNamed B.named
  have hlocks := B.notSynchronized
  have hinX11 : ∀ w ∈ u_ws RX11 TX11 15, w ∈ wsX11_sign := (fun _ h9 => List.mem_cons_of_mem _ (List.mem_append_left _ (List.mem_append_left _ (List.mem_append_left _ (List.mem_append_left _ (List.mem_append_right _ h9))))))
  have hinX9 : ∀ w ∈ u_ws RX9 TX9 2, w ∈ wsX11_sign := (fun _ h9 => List.mem_cons_of_mem _ (List.mem_append_left _ (List.mem_append_left _ (List.mem_append_left _ (List.mem_append_right _ h9)))))
  subst hsz
  have hD := hD0.self (sz := s.heap.size)
  generalize hAe : va_A (wX ad cA σ) s.heap.size = A at hD hT ⊢
  have hA : ∀ q : Nat, s.heap.size ≤ q → A q := fun q h => by rw [← hAe]; exact Or.inr h
  have hS : va_S A s.heap s.heap [] := va_S.rf
  have hl := lv_entry ([.ref (ad 0), .int p0, .int p1, .int p2]) (n := 5) (Nat.le_of_ble_eq_true rfl)
  rw [lg_entry_eq]
  generalize (lg_sl ([.ref (ad 0), .int p0, .int p1, .int p2]) ++ List.replicate (5 - (lg_sl ([.ref (ad 0), .int p0, .int p1, .int p2])).length) Slot.unset).toArray = ls at hl ⊢
  have hl : lv_has ls 5 [(0, .ref (ad 0)), (1, .int p0), (2, .int p1), (3, .int p2)] := hl
  have hts := dr_words hts0 (s.drawn)
  have hK := gKd hK0 (s.drawn)
  have hown : (s.setDrawn (s.drawn)).vm.findClass RX11 = some m.cls := hown0
  refine lv_aload_n hx hb dX11_sign_0 rfl (lv_at hl 0 rfl) ?_
  refine lv_iload_n hx hb dX11_sign_1 rfl (lv_at hl 1 rfl) ?_
  have hF := gFree hD hS hA
  refine va_callqD hd0 (va_runV_D (As := [.int p0]) (rest := []) ⟨hx, hb, hml, hown, hts⟩ (n_X11_bondOf l dC dI ad cA adK adV s.heap.size σ hI p0) (cwV 1 hts gX11_sign_X11_bondOf rfl rfl rfl (by decide +kernel) ⟨Nat.le_of_ble_eq_true rfl, Nat.le_of_ble_eq_true rfl⟩) ⟨gBlind, va_recv hK hP (ci := 10) (q0 := 0) rfl (at_10 rfl), gStart (As := [.ref (ad 0), .int p0]) hP hD hK0 hT hS hF (s.drawn)⟩ rfl rfl hl.1 rfl (lv_room (Nat.le_of_ble_eq_true rfl)) dX11_sign_2 ⟨Nat.le_of_ble_eq_true rfl, Nat.le_of_ble_eq_true rfl⟩) hS (fun q _ h => hF q h) hF (fun r_1 σ1 t H locs ht hvm hw hB hz1 hk1 hS d_2 hd0 => ?_)
  have hts := dr_words hts0 (d_2)
  have hK := gKd hK0 (d_2)
  have hown : (s.setDrawn (d_2)).vm.findClass RX11 = some m.cls := hown0
  obtain ⟨hP, hD⟩ := gBack hF ht hB
  obtain ⟨hIσ1, hro, hp_3⟩ := hw
  subst hro
  rcases hp_3 with rfl | ⟨b_4, hb_5, rfl, hq_6, hq_7⟩
  · refine W.eq (g2 := F0 m 5 ls [.null]) rfl ?_
    refine lv_astoreN (lv' := [(4, .null), (0, .ref (ad 0)), (1, .int p0), (2, .int p1), (3, .int p2)]) hx hb dX11_sign_5 hl (by decide) rfl (fun ls hl => ?_)
    refine lv_aloadN hx hb dX11_sign_7 (lv_at hl 0 rfl) ?_
    refine lv_ifnullN (tgt := 21) hx hb dX11_sign_9 (by decide) ?_
    refine lv_aload_n hx hb dX11_sign_21 rfl (lv_at hl 1 rfl) ?_
    refine lv_iconst (v := 1) hx hb dX11_sign_22 (by decide) ?_
    have hF := gFree hD hS hA
    refine va_calliD hd0 (va_runV_D (As := [.int 1]) (rest := []) ⟨hx, hb, hml, hown, hts⟩ (n_X11_refuse l dC dI ad cA adK adV H.size σ hI 1) (cwV 1 hts gX11_sign_X11_refuse rfl rfl rfl (by decide +kernel) ⟨Nat.le_of_ble_eq_true rfl, Nat.le_of_ble_eq_true rfl⟩) ⟨gBlind, va_recv hK hP (ci := 10) (q0 := 0) rfl (at_10 rfl), gStart (As := [.ref (ad 0), .int 1]) hP hD hK0 hT hS hF (d_2)⟩ rfl rfl hl.1 rfl (lv_room (Nat.le_of_ble_eq_true rfl)) dX11_sign_23 ⟨Nat.le_of_ble_eq_true rfl, Nat.le_of_ble_eq_true rfl⟩) hS (fun q _ h => hF q h) hF (fun r_8 σ2 t H locs ht hvm hw hB hz1 hk1 hS d_9 hd0 => ?_)
    have hts := dr_words hts0 (d_9)
    have hK := gKd hK0 (d_9)
    have hown : (s.setDrawn (d_9)).vm.findClass RX11 = some m.cls := hown0
    obtain ⟨hP, hD⟩ := gBack hF ht hB
    obtain ⟨hIσ2, fcσ2, hp_10⟩ := hw
    refine W.endD hd0 ?_
    exact W.iret (v := r_8) hx hb hr (fun t ht hW => ⟨⟨r_8, σ2, rfl, ⟨hIσ2, (gFr.tr (gFr.rfl (L := [5, 8, 10, 21]) (σ := σ)) fcσ2 (by decide)), trivial⟩, ⟨by rw [ht]; exact hP, hD⟩⟩, hS.F ht⟩) hS.2.2 dX11_sign_26
  · refine W.eq (g2 := F0 m 5 ls [.ref (ad b_4)]) rfl ?_
    refine lv_astore (lv' := [(4, .ref (ad b_4)), (0, .ref (ad 0)), (1, .int p0), (2, .int p1), (3, .int p2)]) hx hb dX11_sign_5 hl (by decide) rfl (fun ls hl => ?_)
    refine lv_aload hx hb dX11_sign_7 (lv_at hl 0 rfl) ?_
    refine lv_ifnull hx hb dX11_sign_9 ?_
    refine lv_aload hx hb dX11_sign_12 (lv_at hl 0 rfl) ?_
    refine lv_iload_n hx hb dX11_sign_14 rfl (lv_at hl 3 rfl) ?_
    have hF := gFree hD hS hA
    refine va_calliD hd0 (va_runV_D (As := [.int p1]) (rest := []) ⟨hx, hb, hml, hown, hts⟩ (n_X0_hasPeriod l dC dI ad cA adK adV H.size σ hI b_4 hb_5 p1) (cwV 1 hts gX11_sign_X0_hasPeriod rfl rfl rfl (by decide +kernel) ⟨Nat.le_of_ble_eq_true rfl, Nat.le_of_ble_eq_true rfl⟩) ⟨gBlind, va_recv hK hP (ci := 0) (q0 := b_4) rfl (at_0 hb_5), gStart (As := [.ref (ad b_4), .int p1]) hP hD hK0 hT hS hF (d_2)⟩ rfl rfl hl.1 rfl (lv_room (Nat.le_of_ble_eq_true rfl)) dX11_sign_15 ⟨Nat.le_of_ble_eq_true rfl, Nat.le_of_ble_eq_true rfl⟩) hS (fun q _ h => hF q h) hF (fun r_11 σ3 t H locs ht hvm hw hB hz1 hk1 hS d_12 hd0 => ?_)
    have hts := dr_words hts0 (d_12)
    have hK := gKd hK0 (d_12)
    have hown : (s.setDrawn (d_12)).vm.findClass RX11 = some m.cls := hown0
    obtain ⟨hP, hD⟩ := gBack hF ht hB
    obtain ⟨hIσ3, hro, hp_13⟩ := hw
    subst hro
    refine lv_if_ne (tgt := 27) hx hb dX11_sign_18 (by decide) (fun c_14 => ?_) (fun c_14 => ?_)
    · refine lv_aload_n hx hb dX11_sign_27 rfl (lv_at hl 1 rfl) ?_
      refine lv_aload hx hb dX11_sign_28 (lv_at hl 0 rfl) ?_
      refine lv_iload_n hx hb dX11_sign_30 rfl (lv_at hl 3 rfl) ?_
      have hF := gFree hD hS hA
      refine va_callvD hd0 (va_runV_D (As := [.ref (ad b_4), .int p1]) (rest := []) ⟨hx, hb, hml, hown, hts⟩ (n_X11_writeLine l dC dI ad cA adK adV H.size σ hI b_4 hb_5 p1 (hp_13.2 c_14).1 (hp_13.2 c_14).2) (cwV 2 hts gX11_sign_X11_writeLine rfl rfl rfl (by decide +kernel) ⟨Nat.le_of_ble_eq_true rfl, Nat.le_of_ble_eq_true rfl⟩) ⟨gBlind, va_recv hK hP (ci := 10) (q0 := 0) rfl (at_10 rfl), gStart (As := [.ref (ad 0), .ref (ad b_4), .int p1]) hP hD hK0 hT hS hF (d_12)⟩ rfl rfl hl.1 rfl (lv_room (Nat.le_of_ble_eq_true rfl)) dX11_sign_31 ⟨Nat.le_of_ble_eq_true rfl, Nat.le_of_ble_eq_true rfl⟩) hS (fun q _ h => hF q h) hF (fun σ4 t H locs ht hvm hw hB hz1 hk1 hS d_16 hd0 => ?_)
      have hts := dr_words hts0 (d_16)
      have hK := gKd hK0 (d_16)
      have hown : (s.setDrawn (d_16)).vm.findClass RX11 = some m.cls := hown0
      obtain ⟨hP, hD⟩ := gBack hF ht hB
      obtain ⟨hIσ4, fcσ4, hp_17⟩ := hw
      refine lv_iload_n hx hb dX11_sign_34 rfl (lv_at hl 4 rfl) ?_
      refine lv_if_lt (tgt := 61) hx hb dX11_sign_35 (by decide) (fun c_18 => ?_) (fun c_18 => ?_)
      · refine lv_aload_n hx hb dX11_sign_61 rfl (lv_at hl 1 rfl) ?_
        refine lv_iconst (v := 1) hx hb dX11_sign_62 (by decide) ?_
        have hF := gFree hD hS hA
        refine va_calliD hd0 (va_runV_D (As := [.int 1]) (rest := []) ⟨hx, hb, hml, hown, hts⟩ (n_X11_refuse l dC dI ad cA adK adV H.size σ4 hIσ4 1) (cwV 1 hts gX11_sign_X11_refuse rfl rfl rfl (by decide +kernel) ⟨Nat.le_of_ble_eq_true rfl, Nat.le_of_ble_eq_true rfl⟩) ⟨gBlind, va_recv hK hP (ci := 10) (q0 := 0) rfl (at_10 rfl), gStart (As := [.ref (ad 0), .int 1]) hP hD hK0 hT hS hF (d_16)⟩ rfl rfl hl.1 rfl (lv_room (Nat.le_of_ble_eq_true rfl)) dX11_sign_63 ⟨Nat.le_of_ble_eq_true rfl, Nat.le_of_ble_eq_true rfl⟩) hS (fun q _ h => hF q h) hF (fun r_19 σ5 t H locs ht hvm hw hB hz1 hk1 hS d_20 hd0 => ?_)
        have hts := dr_words hts0 (d_20)
        have hK := gKd hK0 (d_20)
        have hown : (s.setDrawn (d_20)).vm.findClass RX11 = some m.cls := hown0
        obtain ⟨hP, hD⟩ := gBack hF ht hB
        obtain ⟨hIσ5, fcσ5, hp_21⟩ := hw
        refine W.endD hd0 ?_
        exact W.iret (v := r_19) hx hb hr (fun t ht hW => ⟨⟨r_19, σ5, rfl, ⟨hIσ5, (gFr.tr (gFr.tr (gFr.rfl (L := [5, 8, 10, 21]) (σ := σ)) fcσ4 (by decide)) fcσ5 (by decide)), trivial⟩, ⟨by rw [ht]; exact hP, hD⟩⟩, hS.F ht⟩) hS.2.2 dX11_sign_66
      · refine lv_iload_n hx hb dX11_sign_38 rfl (lv_at hl 4 rfl) ?_
        refine lv_aload_n hx hb dX11_sign_39 rfl (lv_at hl 1 rfl) ?_
        refine va_get (D := (dC, dI)) (ci := 10) (v := .ref (ad 10)) (C := RX11) (T := TX11) (N := 15) hx hb hts hinX11 hown hK hP 0 (at_10 rfl) rfl 4 (by decide) (hts (.fieldLink RX11 40 "BondCalendars" "sheet" "LBondCalendars$Sheet;") (by decide +kernel)) (fun _ h9 => h9) rfl dX11_sign_40 ?_
        have bd_22 := rd_8_1 (c := 10) hIσ4 rfl
        refine va_get (D := (dC, dI)) (ci := 8) (v := .int ((σ4 10).1 1)) (C := RX9) (T := TX9) (N := 2) hx hb hts hinX9 hown hK hP 10 (at_8 rfl) rfl 1 (by decide) (hts (.fieldLink RX11 239 "BondCalendars$Sheet" "length" "I") (by decide +kernel)) (fun _ h9 => h9) rfl dX11_sign_43 ?_
        refine lv_icmp_ge (tgt := 61) hx hb dX11_sign_46 (by decide) (fun c_23 => ?_) (fun c_23 => ?_)
        · refine lv_aload_n hx hb dX11_sign_61 rfl (lv_at hl 1 rfl) ?_
          refine lv_iconst (v := 1) hx hb dX11_sign_62 (by decide) ?_
          have hF := gFree hD hS hA
          refine va_calliD hd0 (va_runV_D (As := [.int 1]) (rest := []) ⟨hx, hb, hml, hown, hts⟩ (n_X11_refuse l dC dI ad cA adK adV H.size σ4 hIσ4 1) (cwV 1 hts gX11_sign_X11_refuse rfl rfl rfl (by decide +kernel) ⟨Nat.le_of_ble_eq_true rfl, Nat.le_of_ble_eq_true rfl⟩) ⟨gBlind, va_recv hK hP (ci := 10) (q0 := 0) rfl (at_10 rfl), gStart (As := [.ref (ad 0), .int 1]) hP hD hK0 hT hS hF (d_16)⟩ rfl rfl hl.1 rfl (lv_room (Nat.le_of_ble_eq_true rfl)) dX11_sign_63 ⟨Nat.le_of_ble_eq_true rfl, Nat.le_of_ble_eq_true rfl⟩) hS (fun q _ h => hF q h) hF (fun r_24 σ6 t H locs ht hvm hw hB hz1 hk1 hS d_25 hd0 => ?_)
          have hts := dr_words hts0 (d_25)
          have hK := gKd hK0 (d_25)
          have hown : (s.setDrawn (d_25)).vm.findClass RX11 = some m.cls := hown0
          obtain ⟨hP, hD⟩ := gBack hF ht hB
          obtain ⟨hIσ6, fcσ6, hp_26⟩ := hw
          refine W.endD hd0 ?_
          exact W.iret (v := r_24) hx hb hr (fun t ht hW => ⟨⟨r_24, σ6, rfl, ⟨hIσ6, (gFr.tr (gFr.tr (gFr.rfl (L := [5, 8, 10, 21]) (σ := σ)) fcσ4 (by decide)) fcσ6 (by decide)), trivial⟩, ⟨by rw [ht]; exact hP, hD⟩⟩, hS.F ht⟩) hS.2.2 dX11_sign_66
        · refine lv_iload_n hx hb dX11_sign_49 rfl (lv_at hl 4 rfl) ?_
          refine lv_aload_n hx hb dX11_sign_50 rfl (lv_at hl 1 rfl) ?_
          refine va_get (D := (dC, dI)) (ci := 10) (v := .ref (ad 10)) (C := RX11) (T := TX11) (N := 15) hx hb hts hinX11 hown hK hP 0 (at_10 rfl) rfl 4 (by decide) (hts (.fieldLink RX11 40 "BondCalendars" "sheet" "LBondCalendars$Sheet;") (by decide +kernel)) (fun _ h9 => h9) rfl dX11_sign_51 ?_
          refine va_get (D := (dC, dI)) (ci := 8) (v := .ref (ad 11)) (C := RX9) (T := TX9) (N := 2) hx hb hts hinX9 hown hK hP 10 (at_8 rfl) rfl 0 (by decide) (hts (.fieldLink RX11 240 "BondCalendars$Sheet" "signs" "[C") (by decide +kernel)) (fun _ h9 => h9) rfl dX11_sign_54 ?_
          refine va_alen (v := 64) hx hb hK hP 11 11 (at_21 rfl) (ty_21 rfl) rfl dX11_sign_57 ?_
          refine lv_icmp_lt (tgt := 67) hx hb dX11_sign_58 (by decide) (fun c_27 => ?_) (fun c_27 => ?_)
          · refine lv_aload_n hx hb dX11_sign_67 rfl (lv_at hl 1 rfl) ?_
            refine lv_iconst (v := 0) hx hb dX11_sign_68 (by decide) ?_
            refine va_put (D := (dC, dI)) (ci := 10) (v := .int 0) (C := RX11) (T := TX11) (N := 15) hx hb hts hinX11 tyX11 tyX11_ok nmX11 hown hK hP hD hS 0 (at_10 rfl) rfl 12 (by decide) (hts (.fieldLink RX11 74 "BondCalendars" "refusal" "I") (by decide +kernel)) (fun _ h9 => h9) rfl (ty := .int) (by decide +kernel) rfl rfl (Nat.le_of_ble_eq_true rfl) dX11_sign_69 (fun H locs hP hD hS => ?_)
            obtain ⟨σ7, eσ7, hP, hD⟩ := gPut (se_10_12 rfl) hP hD
            have hIσ7 : InvX σ7 := by rw [eσ7]; exact inv_I hIσ4 (ok_10_12 rfl _)
            have frσ7 : gFr [5, 8, 10, 21] σ σ7 := by rw [eσ7]; exact gFr.pI (gFr.tr (gFr.rfl (L := [5, 8, 10, 21]) (σ := σ)) fcσ4 (by decide)) rfl (by decide)
            refine lv_aload_n hx hb dX11_sign_72 rfl (lv_at hl 1 rfl) ?_
            refine va_get (D := (dC, dI)) (ci := 10) (v := .ref (ad 10)) (C := RX11) (T := TX11) (N := 15) hx hb hts hinX11 hown hK hP 0 (at_10 rfl) rfl 4 (by decide) (hts (.fieldLink RX11 40 "BondCalendars" "sheet" "LBondCalendars$Sheet;") (by decide +kernel)) (fun _ h9 => h9) rfl dX11_sign_73 ?_
            refine va_get (D := (dC, dI)) (ci := 8) (v := .ref (ad 11)) (C := RX9) (T := TX9) (N := 2) hx hb hts hinX9 hown hK hP 10 (at_8 rfl) rfl 0 (by decide) (hts (.fieldLink RX11 240 "BondCalendars$Sheet" "signs" "[C") (by decide +kernel)) (fun _ h9 => h9) rfl dX11_sign_76 ?_
            refine lv_iload_n hx hb dX11_sign_79 rfl (lv_at hl 4 rfl) ?_
            refine va_cald hx hb hK hP 11 11 (at_21 rfl) (ty_21 rfl) (gin (N := 64) (by decide) (Int32.not_lt.mp c_18) c_27) dX11_sign_80 ?_
            refine lv_topi (fun x_28 _ => ?_)
            refine W.endD hd0 ?_
            exact W.iret (v := x_28) hx hb hr (fun t ht hW => ⟨⟨x_28, σ7, rfl, ⟨hIσ7, frσ7, trivial⟩, ⟨by rw [ht]; exact hP, hD⟩⟩, hS.F ht⟩) hS.2.2 dX11_sign_81
          · exact absurd (Int32.lt_of_lt_of_le (Int32.not_le.mp c_23) bd_22.2) c_27
    · refine lv_aload_n hx hb dX11_sign_21 rfl (lv_at hl 1 rfl) ?_
      refine lv_iconst (v := 1) hx hb dX11_sign_22 (by decide) ?_
      have hF := gFree hD hS hA
      refine va_calliD hd0 (va_runV_D (As := [.int 1]) (rest := []) ⟨hx, hb, hml, hown, hts⟩ (n_X11_refuse l dC dI ad cA adK adV H.size σ hI 1) (cwV 1 hts gX11_sign_X11_refuse rfl rfl rfl (by decide +kernel) ⟨Nat.le_of_ble_eq_true rfl, Nat.le_of_ble_eq_true rfl⟩) ⟨gBlind, va_recv hK hP (ci := 10) (q0 := 0) rfl (at_10 rfl), gStart (As := [.ref (ad 0), .int 1]) hP hD hK0 hT hS hF (d_12)⟩ rfl rfl hl.1 rfl (lv_room (Nat.le_of_ble_eq_true rfl)) dX11_sign_23 ⟨Nat.le_of_ble_eq_true rfl, Nat.le_of_ble_eq_true rfl⟩) hS (fun q _ h => hF q h) hF (fun r_29 σ8 t H locs ht hvm hw hB hz1 hk1 hS d_30 hd0 => ?_)
      have hts := dr_words hts0 (d_30)
      have hK := gKd hK0 (d_30)
      have hown : (s.setDrawn (d_30)).vm.findClass RX11 = some m.cls := hown0
      obtain ⟨hP, hD⟩ := gBack hF ht hB
      obtain ⟨hIσ8, fcσ8, hp_31⟩ := hw
      refine W.endD hd0 ?_
      exact W.iret (v := r_29) hx hb hr (fun t ht hW => ⟨⟨r_29, σ8, rfl, ⟨hIσ8, (gFr.tr (gFr.rfl (L := [5, 8, 10, 21]) (σ := σ)) fcσ8 (by decide)), trivial⟩, ⟨by rw [ht]; exact hP, hD⟩⟩, hS.F ht⟩) hS.2.2 dX11_sign_26
set_option maxHeartbeats 8000000 in
set_option maxRecDepth 100000 in
theorem n_X11_current (l : Launch) (dC : Nat → ClassId) (dI : Nat → Nat → Nat) (ad : Nat → Nat) (cA : Nat → ClassId) (adK adV : Nat → Nat) (sz : Nat) (σ : gs) (hI : InvX σ) (p0 : Int32) (p1 : Int32) : MetD lw_cs l yX11_current wsX11_current ({ frames := 7, cells := 0, slots := 0, locals := 179 }) (va_Pc [.ref (ad 0), .int p0, .int p1] (gPre adK adV (dC, dI) (wX ad cA σ) (tX cA) sz)) (va_Qi (fun (r : Int32) (τ : gs) => InvX τ ∧ gFr [5, 7, 10] σ τ ∧ (True)) (fun τ t => gPost (dC, dI) (va_A (wX ad cA σ) sz) (wX ad cA τ) t) (va_A (wX ad cA σ) sz)) 0 0 (va_A (wX ad cA σ) sz) := by
  refine MetD.ofW (cc := cX11_current) (maxL := 3) (ret := (some .int)) (by decide) rfl ?_
  intro p e s m args below meth c s₁ B hml hv hd0
  obtain ⟨rfl, hsz, hP, hK, hD0, hT⟩ := hv
  have hx := B.exec
  have hb := B.bytes
  have hr := B.returns
  have hts0 := atoms_spec (ws := wsX11_current) B.pre
  have hK0 := hK
  have hown0 : s.vm.findClass RX11 = some m.cls := findClass_of_methodNamed B.named
  have hlocks := B.notSynchronized
  have hinX11 : ∀ w ∈ u_ws RX11 TX11 15, w ∈ wsX11_current := (fun _ h9 => List.mem_cons_of_mem _ (List.mem_append_left _ (List.mem_append_left _ (List.mem_append_left _ (List.mem_append_left _ (List.mem_append_right _ h9))))))
  have hinX8 : ∀ w ∈ u_ws RX8 TX8 8, w ∈ wsX11_current := (fun _ h9 => List.mem_cons_of_mem _ (List.mem_append_left _ (List.mem_append_left _ (List.mem_append_left _ (List.mem_append_right _ h9)))))
  subst hsz
  have hD := hD0.self (sz := s.heap.size)
  generalize hAe : va_A (wX ad cA σ) s.heap.size = A at hD hT ⊢
  have hA : ∀ q : Nat, s.heap.size ≤ q → A q := fun q h => by rw [← hAe]; exact Or.inr h
  have hS : va_S A s.heap s.heap [] := va_S.rf
  have hl := lv_entry ([.ref (ad 0), .int p0, .int p1]) (n := 3) (Nat.le_of_ble_eq_true rfl)
  rw [lg_entry_eq]
  generalize (lg_sl ([.ref (ad 0), .int p0, .int p1]) ++ List.replicate (3 - (lg_sl ([.ref (ad 0), .int p0, .int p1])).length) Slot.unset).toArray = ls at hl ⊢
  have hl : lv_has ls 3 [(0, .ref (ad 0)), (1, .int p0), (2, .int p1)] := hl
  have hts := dr_words hts0 (s.drawn)
  have hK := gKd hK0 (s.drawn)
  have hown : (s.setDrawn (s.drawn)).vm.findClass RX11 = some m.cls := hown0
  refine lv_aload_n hx hb dX11_current_0 rfl (lv_at hl 0 rfl) ?_
  refine lv_iload_n hx hb dX11_current_1 rfl (lv_at hl 1 rfl) ?_
  refine lv_iload_n hx hb dX11_current_2 rfl (lv_at hl 2 rfl) ?_
  refine lv_iconst (v := 1) hx hb dX11_current_3 (by decide) ?_
  have hF := gFree hD hS hA
  refine va_calliD hd0 (va_runV_D (As := [.int p0, .int p1, .int 1]) (rest := []) ⟨hx, hb, hml, hown, hts⟩ (n_X11_openSettle l dC dI ad cA adK adV s.heap.size σ hI p0 p1 1) (cwV 3 hts gX11_current_X11_openSettle rfl rfl rfl (by decide +kernel) ⟨Nat.le_of_ble_eq_true rfl, Nat.le_of_ble_eq_true rfl⟩) ⟨gBlind, va_recv hK hP (ci := 10) (q0 := 0) rfl (at_10 rfl), gStart (As := [.ref (ad 0), .int p0, .int p1, .int 1]) hP hD hK0 hT hS hF (s.drawn)⟩ rfl rfl hl.1 rfl (lv_room (Nat.le_of_ble_eq_true rfl)) dX11_current_4 ⟨Nat.le_of_ble_eq_true rfl, Nat.le_of_ble_eq_true rfl⟩) hS (fun q _ h => hF q h) hF (fun r_1 σ1 t H locs ht hvm hw hB hz1 hk1 hS d_2 hd0 => ?_)
  have hts := dr_words hts0 (d_2)
  have hK := gKd hK0 (d_2)
  have hown : (s.setDrawn (d_2)).vm.findClass RX11 = some m.cls := hown0
  obtain ⟨hP, hD⟩ := gBack hF ht hB
  obtain ⟨hIσ1, fcσ1, hp_3⟩ := hw
  refine lv_if_ne (tgt := 12) hx hb dX11_current_7 (by decide) (fun c_4 => ?_) (fun c_4 => ?_)
  · refine lv_aload_n hx hb dX11_current_12 rfl (lv_at hl 0 rfl) ?_
    refine va_get (D := (dC, dI)) (ci := 10) (v := .ref (ad 4)) (C := RX11) (T := TX11) (N := 15) hx hb hts hinX11 hown hK hP 0 (at_10 rfl) rfl 1 (by decide) (hts (.fieldLink RX11 19 "BondCalendars" "settle" "LBondCalendars$Settle;") (by decide +kernel)) (fun _ h9 => h9) rfl dX11_current_13 ?_
    refine va_get (D := (dC, dI)) (ci := 7) (v := .int ((σ1 4).1 1)) (C := RX8) (T := TX8) (N := 8) hx hb hts hinX8 hown hK hP 4 (at_7 rfl) rfl 1 (by decide) (hts (.fieldLink RX11 248 "BondCalendars$Settle" "current" "I") (by decide +kernel)) (fun _ h9 => h9) rfl dX11_current_16 ?_
    refine W.endD hd0 ?_
    exact W.iret (v := ((σ1 4).1 1)) hx hb hr (fun t ht hW => ⟨⟨((σ1 4).1 1), σ1, rfl, ⟨hIσ1, (gFr.tr (gFr.rfl (L := [5, 7, 10]) (σ := σ)) fcσ1 (by decide)), trivial⟩, ⟨by rw [ht]; exact hP, hD⟩⟩, hS.F ht⟩) hS.2.2 dX11_current_19
  · refine lv_iconst (v := (-1)) hx hb dX11_current_10 (by decide) ?_
    refine W.endD hd0 ?_
    exact W.iret (v := (-1)) hx hb hr (fun t ht hW => ⟨⟨(-1), σ1, rfl, ⟨hIσ1, (gFr.tr (gFr.rfl (L := [5, 7, 10]) (σ := σ)) fcσ1 (by decide)), trivial⟩, ⟨by rw [ht]; exact hP, hD⟩⟩, hS.F ht⟩) hS.2.2 dX11_current_11
set_option maxHeartbeats 8000000 in
set_option maxRecDepth 100000 in
theorem n_X11_isEx (l : Launch) (dC : Nat → ClassId) (dI : Nat → Nat → Nat) (ad : Nat → Nat) (cA : Nat → ClassId) (adK adV : Nat → Nat) (sz : Nat) (σ : gs) (hI : InvX σ) (p0 : Int32) (p1 : Int32) : MetD lw_cs l yX11_isEx wsX11_isEx ({ frames := 7, cells := 0, slots := 0, locals := 179 }) (va_Pc [.ref (ad 0), .int p0, .int p1] (gPre adK adV (dC, dI) (wX ad cA σ) (tX cA) sz)) (va_Qi (fun (r : Int32) (τ : gs) => InvX τ ∧ gFr [5, 7, 10] σ τ ∧ (True)) (fun τ t => gPost (dC, dI) (va_A (wX ad cA σ) sz) (wX ad cA τ) t) (va_A (wX ad cA σ) sz)) 0 0 (va_A (wX ad cA σ) sz) := by
  refine MetD.ofW (cc := cX11_isEx) (maxL := 3) (ret := (some .int)) (by decide) rfl ?_
  intro p e s m args below meth c s₁ B hml hv hd0
  obtain ⟨rfl, hsz, hP, hK, hD0, hT⟩ := hv
  have hx := B.exec
  have hb := B.bytes
  have hr := B.returns
  have hts0 := atoms_spec (ws := wsX11_isEx) B.pre
  have hK0 := hK
  have hown0 : s.vm.findClass RX11 = some m.cls := findClass_of_methodNamed B.named
  have hlocks := B.notSynchronized
  have hinX11 : ∀ w ∈ u_ws RX11 TX11 15, w ∈ wsX11_isEx := (fun _ h9 => List.mem_cons_of_mem _ (List.mem_append_left _ (List.mem_append_left _ (List.mem_append_left _ (List.mem_append_left _ (List.mem_append_right _ h9))))))
  have hinX8 : ∀ w ∈ u_ws RX8 TX8 8, w ∈ wsX11_isEx := (fun _ h9 => List.mem_cons_of_mem _ (List.mem_append_left _ (List.mem_append_left _ (List.mem_append_left _ (List.mem_append_right _ h9)))))
  subst hsz
  have hD := hD0.self (sz := s.heap.size)
  generalize hAe : va_A (wX ad cA σ) s.heap.size = A at hD hT ⊢
  have hA : ∀ q : Nat, s.heap.size ≤ q → A q := fun q h => by rw [← hAe]; exact Or.inr h
  have hS : va_S A s.heap s.heap [] := va_S.rf
  have hl := lv_entry ([.ref (ad 0), .int p0, .int p1]) (n := 3) (Nat.le_of_ble_eq_true rfl)
  rw [lg_entry_eq]
  generalize (lg_sl ([.ref (ad 0), .int p0, .int p1]) ++ List.replicate (3 - (lg_sl ([.ref (ad 0), .int p0, .int p1])).length) Slot.unset).toArray = ls at hl ⊢
  have hl : lv_has ls 3 [(0, .ref (ad 0)), (1, .int p0), (2, .int p1)] := hl
  have hts := dr_words hts0 (s.drawn)
  have hK := gKd hK0 (s.drawn)
  have hown : (s.setDrawn (s.drawn)).vm.findClass RX11 = some m.cls := hown0
  refine lv_aload_n hx hb dX11_isEx_0 rfl (lv_at hl 0 rfl) ?_
  refine lv_iload_n hx hb dX11_isEx_1 rfl (lv_at hl 1 rfl) ?_
  refine lv_iload_n hx hb dX11_isEx_2 rfl (lv_at hl 2 rfl) ?_
  refine lv_iconst (v := 1) hx hb dX11_isEx_3 (by decide) ?_
  have hF := gFree hD hS hA
  refine va_calliD hd0 (va_runV_D (As := [.int p0, .int p1, .int 1]) (rest := []) ⟨hx, hb, hml, hown, hts⟩ (n_X11_openSettle l dC dI ad cA adK adV s.heap.size σ hI p0 p1 1) (cwV 3 hts gX11_isEx_X11_openSettle rfl rfl rfl (by decide +kernel) ⟨Nat.le_of_ble_eq_true rfl, Nat.le_of_ble_eq_true rfl⟩) ⟨gBlind, va_recv hK hP (ci := 10) (q0 := 0) rfl (at_10 rfl), gStart (As := [.ref (ad 0), .int p0, .int p1, .int 1]) hP hD hK0 hT hS hF (s.drawn)⟩ rfl rfl hl.1 rfl (lv_room (Nat.le_of_ble_eq_true rfl)) dX11_isEx_4 ⟨Nat.le_of_ble_eq_true rfl, Nat.le_of_ble_eq_true rfl⟩) hS (fun q _ h => hF q h) hF (fun r_1 σ1 t H locs ht hvm hw hB hz1 hk1 hS d_2 hd0 => ?_)
  have hts := dr_words hts0 (d_2)
  have hK := gKd hK0 (d_2)
  have hown : (s.setDrawn (d_2)).vm.findClass RX11 = some m.cls := hown0
  obtain ⟨hP, hD⟩ := gBack hF ht hB
  obtain ⟨hIσ1, fcσ1, hp_3⟩ := hw
  refine lv_if_ne (tgt := 12) hx hb dX11_isEx_7 (by decide) (fun c_4 => ?_) (fun c_4 => ?_)
  · refine lv_aload_n hx hb dX11_isEx_12 rfl (lv_at hl 0 rfl) ?_
    refine va_get (D := (dC, dI)) (ci := 10) (v := .ref (ad 4)) (C := RX11) (T := TX11) (N := 15) hx hb hts hinX11 hown hK hP 0 (at_10 rfl) rfl 1 (by decide) (hts (.fieldLink RX11 19 "BondCalendars" "settle" "LBondCalendars$Settle;") (by decide +kernel)) (fun _ h9 => h9) rfl dX11_isEx_13 ?_
    refine va_get (D := (dC, dI)) (ci := 7) (v := .int ((σ1 4).1 2)) (C := RX8) (T := TX8) (N := 8) hx hb hts hinX8 hown hK hP 4 (at_7 rfl) rfl 2 (by decide) (hts (.fieldLink RX11 251 "BondCalendars$Settle" "ex" "Z") (by decide +kernel)) (fun _ h9 => h9) rfl dX11_isEx_16 ?_
    refine lv_if_eq (tgt := 26) hx hb dX11_isEx_19 (by decide) (fun c_5 => ?_) (fun c_5 => ?_)
    · refine lv_iconst (v := 0) hx hb dX11_isEx_26 (by decide) ?_
      refine W.endD hd0 ?_
      exact W.iret (v := 0) hx hb hr (fun t ht hW => ⟨⟨0, σ1, rfl, ⟨hIσ1, (gFr.tr (gFr.rfl (L := [5, 7, 10]) (σ := σ)) fcσ1 (by decide)), trivial⟩, ⟨by rw [ht]; exact hP, hD⟩⟩, hS.F ht⟩) hS.2.2 dX11_isEx_27
    · refine lv_iconst (v := 1) hx hb dX11_isEx_22 (by decide) ?_
      refine lv_goto (tgt := 27) hx hb dX11_isEx_23 (by decide) ?_
      refine W.endD hd0 ?_
      exact W.iret (v := 1) hx hb hr (fun t ht hW => ⟨⟨1, σ1, rfl, ⟨hIσ1, (gFr.tr (gFr.rfl (L := [5, 7, 10]) (σ := σ)) fcσ1 (by decide)), trivial⟩, ⟨by rw [ht]; exact hP, hD⟩⟩, hS.F ht⟩) hS.2.2 dX11_isEx_27
  · refine lv_iconst (v := (-1)) hx hb dX11_isEx_10 (by decide) ?_
    refine W.endD hd0 ?_
    exact W.iret (v := (-1)) hx hb hr (fun t ht hW => ⟨⟨(-1), σ1, rfl, ⟨hIσ1, (gFr.tr (gFr.rfl (L := [5, 7, 10]) (σ := σ)) fcσ1 (by decide)), trivial⟩, ⟨by rw [ht]; exact hP, hD⟩⟩, hS.F ht⟩) hS.2.2 dX11_isEx_11
set_option maxHeartbeats 8000000 in
set_option maxRecDepth 100000 in
theorem n_X11_accrued (l : Launch) (dC : Nat → ClassId) (dI : Nat → Nat → Nat) (ad : Nat → Nat) (cA : Nat → ClassId) (adK adV : Nat → Nat) (sz : Nat) (σ : gs) (hI : InvX σ) (p0 : Int32) (p1 : Int32) (p2 : Int32) : MetD lw_cs l yX11_accrued wsX11_accrued ({ frames := 7, cells := 0, slots := 0, locals := 179 }) (va_Pc [.ref (ad 0), .int p0, .int p1, .int p2] (gPre adK adV (dC, dI) (wX ad cA σ) (tX cA) sz)) (va_Ql (fun (r : Int64) (τ : gs) => InvX τ ∧ gFr [5, 7, 10] σ τ ∧ (True)) (fun τ t => gPost (dC, dI) (va_A (wX ad cA σ) sz) (wX ad cA τ) t) (va_A (wX ad cA σ) sz)) 0 0 (va_A (wX ad cA σ) sz) := by
  refine MetD.ofW (cc := cX11_accrued) (maxL := 4) (ret := (some .long)) (by decide) rfl ?_
  intro p e s m args below meth c s₁ B hml hv hd0
  obtain ⟨rfl, hsz, hP, hK, hD0, hT⟩ := hv
  have hx := B.exec
  have hb := B.bytes
  have hr := B.returns
  have hts0 := atoms_spec (ws := wsX11_accrued) B.pre
  have hK0 := hK
  have hown0 : s.vm.findClass RX11 = some m.cls := findClass_of_methodNamed B.named
  have hlocks := B.notSynchronized
  have hinX11 : ∀ w ∈ u_ws RX11 TX11 15, w ∈ wsX11_accrued := (fun _ h9 => List.mem_cons_of_mem _ (List.mem_append_left _ (List.mem_append_left _ (List.mem_append_left _ (List.mem_append_left _ (List.mem_append_right _ h9))))))
  have hinX8 : ∀ w ∈ u_ws RX8 TX8 8, w ∈ wsX11_accrued := (fun _ h9 => List.mem_cons_of_mem _ (List.mem_append_left _ (List.mem_append_left _ (List.mem_append_left _ (List.mem_append_right _ h9)))))
  subst hsz
  have hD := hD0.self (sz := s.heap.size)
  generalize hAe : va_A (wX ad cA σ) s.heap.size = A at hD hT ⊢
  have hA : ∀ q : Nat, s.heap.size ≤ q → A q := fun q h => by rw [← hAe]; exact Or.inr h
  have hS : va_S A s.heap s.heap [] := va_S.rf
  have hl := lv_entry ([.ref (ad 0), .int p0, .int p1, .int p2]) (n := 4) (Nat.le_of_ble_eq_true rfl)
  rw [lg_entry_eq]
  generalize (lg_sl ([.ref (ad 0), .int p0, .int p1, .int p2]) ++ List.replicate (4 - (lg_sl ([.ref (ad 0), .int p0, .int p1, .int p2])).length) Slot.unset).toArray = ls at hl ⊢
  have hl : lv_has ls 4 [(0, .ref (ad 0)), (1, .int p0), (2, .int p1), (3, .int p2)] := hl
  have hts := dr_words hts0 (s.drawn)
  have hK := gKd hK0 (s.drawn)
  have hown : (s.setDrawn (s.drawn)).vm.findClass RX11 = some m.cls := hown0
  refine lv_aload_n hx hb dX11_accrued_0 rfl (lv_at hl 0 rfl) ?_
  refine lv_iload_n hx hb dX11_accrued_1 rfl (lv_at hl 1 rfl) ?_
  refine lv_iload_n hx hb dX11_accrued_2 rfl (lv_at hl 2 rfl) ?_
  refine lv_iconst (v := 1) hx hb dX11_accrued_3 (by decide) ?_
  have hF := gFree hD hS hA
  refine va_calliD hd0 (va_runV_D (As := [.int p0, .int p1, .int 1]) (rest := []) ⟨hx, hb, hml, hown, hts⟩ (n_X11_openSettle l dC dI ad cA adK adV s.heap.size σ hI p0 p1 1) (cwV 3 hts gX11_accrued_X11_openSettle rfl rfl rfl (by decide +kernel) ⟨Nat.le_of_ble_eq_true rfl, Nat.le_of_ble_eq_true rfl⟩) ⟨gBlind, va_recv hK hP (ci := 10) (q0 := 0) rfl (at_10 rfl), gStart (As := [.ref (ad 0), .int p0, .int p1, .int 1]) hP hD hK0 hT hS hF (s.drawn)⟩ rfl rfl hl.1 rfl (lv_room (Nat.le_of_ble_eq_true rfl)) dX11_accrued_4 ⟨Nat.le_of_ble_eq_true rfl, Nat.le_of_ble_eq_true rfl⟩) hS (fun q _ h => hF q h) hF (fun r_1 σ1 t H locs ht hvm hw hB hz1 hk1 hS d_2 hd0 => ?_)
  have hts := dr_words hts0 (d_2)
  have hK := gKd hK0 (d_2)
  have hown : (s.setDrawn (d_2)).vm.findClass RX11 = some m.cls := hown0
  obtain ⟨hP, hD⟩ := gBack hF ht hB
  obtain ⟨hIσ1, fcσ1, hp_3⟩ := hw
  refine lv_if_ne (tgt := 14) hx hb dX11_accrued_7 (by decide) (fun c_4 => ?_) (fun c_4 => ?_)
  · refine lv_aload_n hx hb dX11_accrued_14 rfl (lv_at hl 0 rfl) ?_
    refine va_get (D := (dC, dI)) (ci := 10) (v := .ref (ad 4)) (C := RX11) (T := TX11) (N := 15) hx hb hts hinX11 hown hK hP 0 (at_10 rfl) rfl 1 (by decide) (hts (.fieldLink RX11 19 "BondCalendars" "settle" "LBondCalendars$Settle;") (by decide +kernel)) (fun _ h9 => h9) rfl dX11_accrued_15 ?_
    refine va_get (D := (dC, dI)) (ci := 7) (v := .ref (ad (4 + 1))) (C := RX8) (T := TX8) (N := 8) hx hb hts hinX8 hown hK hP 4 (at_7 rfl) rfl 3 (by decide) (hts (.fieldLink RX11 258 "BondCalendars$Settle" "accruedRatio" "LBondCalendars$Ratio;") (by decide +kernel)) (fun _ h9 => h9) rfl dX11_accrued_18 ?_
    refine lv_iload_n hx hb dX11_accrued_21 rfl (lv_at hl 3 rfl) ?_
    have hF := gFree hD hS hA
    refine va_calllD hd0 (va_runV_D (As := [.int p2]) (rest := []) ⟨hx, hb, hml, hown, hts⟩ (n_X6_part l dC dI ad cA adK adV H.size σ1 hIσ1 ((4 + 1)) (kk_7_1 rfl) p2) (cwV 1 hts gX11_accrued_X6_part rfl rfl rfl (by decide +kernel) ⟨Nat.le_of_ble_eq_true rfl, Nat.le_of_ble_eq_true rfl⟩) ⟨gBlind, va_recv hK hP (ci := 5) (q0 := ((4 + 1))) rfl (at_5 (kk_7_1 rfl)), gStart (As := [.ref (ad (4 + 1)), .int p2]) hP hD hK0 hT hS hF (d_2)⟩ rfl rfl hl.1 rfl (lv_room (Nat.le_of_ble_eq_true rfl)) dX11_accrued_22 ⟨Nat.le_of_ble_eq_true rfl, Nat.le_of_ble_eq_true rfl⟩) hS (fun q _ h => hF q h) hF (fun r_5 σ2 t H locs ht hvm hw hB hz1 hk1 hS d_6 hd0 => ?_)
    have hts := dr_words hts0 (d_6)
    have hK := gKd hK0 (d_6)
    have hown : (s.setDrawn (d_6)).vm.findClass RX11 = some m.cls := hown0
    obtain ⟨hP, hD⟩ := gBack hF ht hB
    obtain ⟨hIσ2, hro, hp_7⟩ := hw
    subst hro
    refine W.endD hd0 ?_
    exact W.lret (v := r_5) hx hb hr (fun t ht hW => ⟨⟨r_5, σ1, rfl, ⟨hIσ1, (gFr.tr (gFr.rfl (L := [5, 7, 10]) (σ := σ)) fcσ1 (by decide)), trivial⟩, ⟨by rw [ht]; exact hP, hD⟩⟩, hS.F ht⟩) hS.2.2 dX11_accrued_25
  · refine lv_ldc2 (v := (-9223372036854775808)) hx hb hown (hts (.constantLong RX11 256 (-9223372036854775808)) (by decide +kernel)) dX11_accrued_10 ?_
    refine W.endD hd0 ?_
    exact W.lret (v := (-9223372036854775808)) hx hb hr (fun t ht hW => ⟨⟨(-9223372036854775808), σ1, rfl, ⟨hIσ1, (gFr.tr (gFr.rfl (L := [5, 7, 10]) (σ := σ)) fcσ1 (by decide)), trivial⟩, ⟨by rw [ht]; exact hP, hD⟩⟩, hS.F ht⟩) hS.2.2 dX11_accrued_13
set_option maxHeartbeats 8000000 in
set_option maxRecDepth 100000 in
theorem n_X11_rest (l : Launch) (dC : Nat → ClassId) (dI : Nat → Nat → Nat) (ad : Nat → Nat) (cA : Nat → ClassId) (adK adV : Nat → Nat) (sz : Nat) (σ : gs) (hI : InvX σ) (p0 : Int32) (p1 : Int32) (p2 : Int32) : MetD lw_cs l yX11_rest wsX11_rest ({ frames := 7, cells := 0, slots := 0, locals := 179 }) (va_Pc [.ref (ad 0), .int p0, .int p1, .int p2] (gPre adK adV (dC, dI) (wX ad cA σ) (tX cA) sz)) (va_Ql (fun (r : Int64) (τ : gs) => InvX τ ∧ gFr [5, 7, 10] σ τ ∧ (True)) (fun τ t => gPost (dC, dI) (va_A (wX ad cA σ) sz) (wX ad cA τ) t) (va_A (wX ad cA σ) sz)) 0 0 (va_A (wX ad cA σ) sz) := by
  refine MetD.ofW (cc := cX11_rest) (maxL := 4) (ret := (some .long)) (by decide) rfl ?_
  intro p e s m args below meth c s₁ B hml hv hd0
  obtain ⟨rfl, hsz, hP, hK, hD0, hT⟩ := hv
  have hx := B.exec
  have hb := B.bytes
  have hr := B.returns
  have hts0 := atoms_spec (ws := wsX11_rest) B.pre
  have hK0 := hK
  have hown0 : s.vm.findClass RX11 = some m.cls := findClass_of_methodNamed B.named
  have hlocks := B.notSynchronized
  have hinX11 : ∀ w ∈ u_ws RX11 TX11 15, w ∈ wsX11_rest := (fun _ h9 => List.mem_cons_of_mem _ (List.mem_append_left _ (List.mem_append_left _ (List.mem_append_left _ (List.mem_append_left _ (List.mem_append_right _ h9))))))
  have hinX8 : ∀ w ∈ u_ws RX8 TX8 8, w ∈ wsX11_rest := (fun _ h9 => List.mem_cons_of_mem _ (List.mem_append_left _ (List.mem_append_left _ (List.mem_append_left _ (List.mem_append_right _ h9)))))
  subst hsz
  have hD := hD0.self (sz := s.heap.size)
  generalize hAe : va_A (wX ad cA σ) s.heap.size = A at hD hT ⊢
  have hA : ∀ q : Nat, s.heap.size ≤ q → A q := fun q h => by rw [← hAe]; exact Or.inr h
  have hS : va_S A s.heap s.heap [] := va_S.rf
  have hl := lv_entry ([.ref (ad 0), .int p0, .int p1, .int p2]) (n := 4) (Nat.le_of_ble_eq_true rfl)
  rw [lg_entry_eq]
  generalize (lg_sl ([.ref (ad 0), .int p0, .int p1, .int p2]) ++ List.replicate (4 - (lg_sl ([.ref (ad 0), .int p0, .int p1, .int p2])).length) Slot.unset).toArray = ls at hl ⊢
  have hl : lv_has ls 4 [(0, .ref (ad 0)), (1, .int p0), (2, .int p1), (3, .int p2)] := hl
  have hts := dr_words hts0 (s.drawn)
  have hK := gKd hK0 (s.drawn)
  have hown : (s.setDrawn (s.drawn)).vm.findClass RX11 = some m.cls := hown0
  refine lv_aload_n hx hb dX11_rest_0 rfl (lv_at hl 0 rfl) ?_
  refine lv_iload_n hx hb dX11_rest_1 rfl (lv_at hl 1 rfl) ?_
  refine lv_iload_n hx hb dX11_rest_2 rfl (lv_at hl 2 rfl) ?_
  refine lv_iconst (v := 1) hx hb dX11_rest_3 (by decide) ?_
  have hF := gFree hD hS hA
  refine va_calliD hd0 (va_runV_D (As := [.int p0, .int p1, .int 1]) (rest := []) ⟨hx, hb, hml, hown, hts⟩ (n_X11_openSettle l dC dI ad cA adK adV s.heap.size σ hI p0 p1 1) (cwV 3 hts gX11_rest_X11_openSettle rfl rfl rfl (by decide +kernel) ⟨Nat.le_of_ble_eq_true rfl, Nat.le_of_ble_eq_true rfl⟩) ⟨gBlind, va_recv hK hP (ci := 10) (q0 := 0) rfl (at_10 rfl), gStart (As := [.ref (ad 0), .int p0, .int p1, .int 1]) hP hD hK0 hT hS hF (s.drawn)⟩ rfl rfl hl.1 rfl (lv_room (Nat.le_of_ble_eq_true rfl)) dX11_rest_4 ⟨Nat.le_of_ble_eq_true rfl, Nat.le_of_ble_eq_true rfl⟩) hS (fun q _ h => hF q h) hF (fun r_1 σ1 t H locs ht hvm hw hB hz1 hk1 hS d_2 hd0 => ?_)
  have hts := dr_words hts0 (d_2)
  have hK := gKd hK0 (d_2)
  have hown : (s.setDrawn (d_2)).vm.findClass RX11 = some m.cls := hown0
  obtain ⟨hP, hD⟩ := gBack hF ht hB
  obtain ⟨hIσ1, fcσ1, hp_3⟩ := hw
  refine lv_if_ne (tgt := 14) hx hb dX11_rest_7 (by decide) (fun c_4 => ?_) (fun c_4 => ?_)
  · refine lv_aload_n hx hb dX11_rest_14 rfl (lv_at hl 0 rfl) ?_
    refine va_get (D := (dC, dI)) (ci := 10) (v := .ref (ad 4)) (C := RX11) (T := TX11) (N := 15) hx hb hts hinX11 hown hK hP 0 (at_10 rfl) rfl 1 (by decide) (hts (.fieldLink RX11 19 "BondCalendars" "settle" "LBondCalendars$Settle;") (by decide +kernel)) (fun _ h9 => h9) rfl dX11_rest_15 ?_
    refine va_get (D := (dC, dI)) (ci := 7) (v := .ref (ad (4 + 2))) (C := RX8) (T := TX8) (N := 8) hx hb hts hinX8 hown hK hP 4 (at_7 rfl) rfl 4 (by decide) (hts (.fieldLink RX11 263 "BondCalendars$Settle" "restRatio" "LBondCalendars$Ratio;") (by decide +kernel)) (fun _ h9 => h9) rfl dX11_rest_18 ?_
    refine lv_iload_n hx hb dX11_rest_21 rfl (lv_at hl 3 rfl) ?_
    have hF := gFree hD hS hA
    refine va_calllD hd0 (va_runV_D (As := [.int p2]) (rest := []) ⟨hx, hb, hml, hown, hts⟩ (n_X6_part l dC dI ad cA adK adV H.size σ1 hIσ1 ((4 + 2)) (kk_7_2 rfl) p2) (cwV 1 hts gX11_rest_X6_part rfl rfl rfl (by decide +kernel) ⟨Nat.le_of_ble_eq_true rfl, Nat.le_of_ble_eq_true rfl⟩) ⟨gBlind, va_recv hK hP (ci := 5) (q0 := ((4 + 2))) rfl (at_5 (kk_7_2 rfl)), gStart (As := [.ref (ad (4 + 2)), .int p2]) hP hD hK0 hT hS hF (d_2)⟩ rfl rfl hl.1 rfl (lv_room (Nat.le_of_ble_eq_true rfl)) dX11_rest_22 ⟨Nat.le_of_ble_eq_true rfl, Nat.le_of_ble_eq_true rfl⟩) hS (fun q _ h => hF q h) hF (fun r_5 σ2 t H locs ht hvm hw hB hz1 hk1 hS d_6 hd0 => ?_)
    have hts := dr_words hts0 (d_6)
    have hK := gKd hK0 (d_6)
    have hown : (s.setDrawn (d_6)).vm.findClass RX11 = some m.cls := hown0
    obtain ⟨hP, hD⟩ := gBack hF ht hB
    obtain ⟨hIσ2, hro, hp_7⟩ := hw
    subst hro
    refine W.endD hd0 ?_
    exact W.lret (v := r_5) hx hb hr (fun t ht hW => ⟨⟨r_5, σ1, rfl, ⟨hIσ1, (gFr.tr (gFr.rfl (L := [5, 7, 10]) (σ := σ)) fcσ1 (by decide)), trivial⟩, ⟨by rw [ht]; exact hP, hD⟩⟩, hS.F ht⟩) hS.2.2 dX11_rest_25
  · refine lv_ldc2 (v := (-1)) hx hb hown (hts (.constantLong RX11 261 (-1)) (by decide +kernel)) dX11_rest_10 ?_
    refine W.endD hd0 ?_
    exact W.lret (v := (-1)) hx hb hr (fun t ht hW => ⟨⟨(-1), σ1, rfl, ⟨hIσ1, (gFr.tr (gFr.rfl (L := [5, 7, 10]) (σ := σ)) fcσ1 (by decide)), trivial⟩, ⟨by rw [ht]; exact hP, hD⟩⟩, hS.F ht⟩) hS.2.2 dX11_rest_13
set_option maxHeartbeats 8000000 in
set_option maxRecDepth 100000 in
theorem n_X11_dirty (l : Launch) (dC : Nat → ClassId) (dI : Nat → Nat → Nat) (ad : Nat → Nat) (cA : Nat → ClassId) (adK adV : Nat → Nat) (sz : Nat) (σ : gs) (hI : InvX σ) (p0 : Int32) (p1 : Int32) (p2 : Int32) : MetD lw_cs l yX11_dirty wsX11_dirty ({ frames := 7, cells := 0, slots := 0, locals := 179 }) (va_Pc [.ref (ad 0), .int p0, .int p1, .int p2] (gPre adK adV (dC, dI) (wX ad cA σ) (tX cA) sz)) (va_Ql (fun (r : Int64) (τ : gs) => InvX τ ∧ gFr [5, 7, 10] σ τ ∧ (True)) (fun τ t => gPost (dC, dI) (va_A (wX ad cA σ) sz) (wX ad cA τ) t) (va_A (wX ad cA σ) sz)) 0 0 (va_A (wX ad cA σ) sz) := by
  refine MetD.ofW (cc := cX11_dirty) (maxL := 4) (ret := (some .long)) (by decide) rfl ?_
  intro p e s m args below meth c s₁ B hml hv hd0
  obtain ⟨rfl, hsz, hP, hK, hD0, hT⟩ := hv
  have hx := B.exec
  have hb := B.bytes
  have hr := B.returns
  have hts0 := atoms_spec (ws := wsX11_dirty) B.pre
  have hK0 := hK
  have hown0 : s.vm.findClass RX11 = some m.cls := findClass_of_methodNamed B.named
  have hlocks := B.notSynchronized
  have hinX11 : ∀ w ∈ u_ws RX11 TX11 15, w ∈ wsX11_dirty := (fun _ h9 => List.mem_cons_of_mem _ (List.mem_append_left _ (List.mem_append_left _ (List.mem_append_left _ (List.mem_append_left _ (List.mem_append_right _ h9))))))
  subst hsz
  have hD := hD0.self (sz := s.heap.size)
  generalize hAe : va_A (wX ad cA σ) s.heap.size = A at hD hT ⊢
  have hA : ∀ q : Nat, s.heap.size ≤ q → A q := fun q h => by rw [← hAe]; exact Or.inr h
  have hS : va_S A s.heap s.heap [] := va_S.rf
  have hl := lv_entry ([.ref (ad 0), .int p0, .int p1, .int p2]) (n := 4) (Nat.le_of_ble_eq_true rfl)
  rw [lg_entry_eq]
  generalize (lg_sl ([.ref (ad 0), .int p0, .int p1, .int p2]) ++ List.replicate (4 - (lg_sl ([.ref (ad 0), .int p0, .int p1, .int p2])).length) Slot.unset).toArray = ls at hl ⊢
  have hl : lv_has ls 4 [(0, .ref (ad 0)), (1, .int p0), (2, .int p1), (3, .int p2)] := hl
  have hts := dr_words hts0 (s.drawn)
  have hK := gKd hK0 (s.drawn)
  have hown : (s.setDrawn (s.drawn)).vm.findClass RX11 = some m.cls := hown0
  refine lv_aload_n hx hb dX11_dirty_0 rfl (lv_at hl 0 rfl) ?_
  refine lv_iload_n hx hb dX11_dirty_1 rfl (lv_at hl 1 rfl) ?_
  refine lv_iload_n hx hb dX11_dirty_2 rfl (lv_at hl 2 rfl) ?_
  refine lv_iload_n hx hb dX11_dirty_3 rfl (lv_at hl 3 rfl) ?_
  have hF := gFree hD hS hA
  refine va_calliD hd0 (va_runS_D (As := [.int p2]) (rest := [.int p1, .int p0, .ref (ad 0)]) ⟨hx, hb, hml, hown, hts⟩ (n_X11_arePoints l dC dI ad cA adK adV s.heap.size σ hI p2) (va_cwS 1 hts gX11_dirty_X11_arePoints rfl rfl rfl (by decide +kernel) ⟨Nat.le_of_ble_eq_true rfl, Nat.le_of_ble_eq_true rfl⟩) ⟨gBlind, gStart (As := [.int p2]) hP hD hK0 hT hS hF (s.drawn)⟩ rfl rfl hl.1 rfl (lv_room (Nat.le_of_ble_eq_true rfl)) dX11_dirty_4 ⟨Nat.le_of_ble_eq_true rfl, Nat.le_of_ble_eq_true rfl⟩) hS (fun q _ h => hF q h) hF (fun r_1 σ1 t H locs ht hvm hw hB hz1 hk1 hS d_2 hd0 => ?_)
  have hts := dr_words hts0 (d_2)
  have hK := gKd hK0 (d_2)
  have hown : (s.setDrawn (d_2)).vm.findClass RX11 = some m.cls := hown0
  obtain ⟨hP, hD⟩ := gBack hF ht hB
  obtain ⟨hIσ1, hro, hp_3⟩ := hw
  subst hro
  have hF := gFree hD hS hA
  refine va_calliD hd0 (va_runV_D (As := [.int p0, .int p1, .int r_1]) (rest := []) ⟨hx, hb, hml, hown, hts⟩ (n_X11_openSettle l dC dI ad cA adK adV H.size σ hI p0 p1 r_1) (cwV 3 hts gX11_dirty_X11_openSettle rfl rfl rfl (by decide +kernel) ⟨Nat.le_of_ble_eq_true rfl, Nat.le_of_ble_eq_true rfl⟩) ⟨gBlind, va_recv hK hP (ci := 10) (q0 := 0) rfl (at_10 rfl), gStart (As := [.ref (ad 0), .int p0, .int p1, .int r_1]) hP hD hK0 hT hS hF (d_2)⟩ rfl rfl hl.1 rfl (lv_room (Nat.le_of_ble_eq_true rfl)) dX11_dirty_7 ⟨Nat.le_of_ble_eq_true rfl, Nat.le_of_ble_eq_true rfl⟩) hS (fun q _ h => hF q h) hF (fun r_4 σ2 t H locs ht hvm hw hB hz1 hk1 hS d_5 hd0 => ?_)
  have hts := dr_words hts0 (d_5)
  have hK := gKd hK0 (d_5)
  have hown : (s.setDrawn (d_5)).vm.findClass RX11 = some m.cls := hown0
  obtain ⟨hP, hD⟩ := gBack hF ht hB
  obtain ⟨hIσ2, fcσ2, hp_6⟩ := hw
  refine lv_if_ne (tgt := 17) hx hb dX11_dirty_10 (by decide) (fun c_7 => ?_) (fun c_7 => ?_)
  · refine lv_aload_n hx hb dX11_dirty_17 rfl (lv_at hl 0 rfl) ?_
    refine va_get (D := (dC, dI)) (ci := 10) (v := .ref (ad 4)) (C := RX11) (T := TX11) (N := 15) hx hb hts hinX11 hown hK hP 0 (at_10 rfl) rfl 1 (by decide) (hts (.fieldLink RX11 19 "BondCalendars" "settle" "LBondCalendars$Settle;") (by decide +kernel)) (fun _ h9 => h9) rfl dX11_dirty_18 ?_
    refine lv_iload_n hx hb dX11_dirty_21 rfl (lv_at hl 3 rfl) ?_
    have hF := gFree hD hS hA
    refine va_calldD hd0 (va_runS_D (As := [.int p2]) (rest := [.ref (ad 4)]) ⟨hx, hb, hml, hown, hts⟩ (n_X11_yieldOf l dC dI ad cA adK adV H.size σ2 hIσ2 p2) (va_cwS 1 hts gX11_dirty_X11_yieldOf rfl rfl rfl (by decide +kernel) ⟨Nat.le_of_ble_eq_true rfl, Nat.le_of_ble_eq_true rfl⟩) ⟨gBlind, gStart (As := [.int p2]) hP hD hK0 hT hS hF (d_5)⟩ rfl rfl hl.1 rfl (lv_room (Nat.le_of_ble_eq_true rfl)) dX11_dirty_22 ⟨Nat.le_of_ble_eq_true rfl, Nat.le_of_ble_eq_true rfl⟩) hS (fun q _ h => hF q h) hF (fun r_8 σ3 t H locs ht hvm hw hB hz1 hk1 hS d_9 hd0 => ?_)
    have hts := dr_words hts0 (d_9)
    have hK := gKd hK0 (d_9)
    have hown : (s.setDrawn (d_9)).vm.findClass RX11 = some m.cls := hown0
    obtain ⟨hP, hD⟩ := gBack hF ht hB
    obtain ⟨hIσ3, hro, hp_10⟩ := hw
    subst hro
    have hF := gFree hD hS hA
    refine va_calldD hd0 (va_runV_D (As := [.double r_8]) (rest := []) ⟨hx, hb, hml, hown, hts⟩ (n_X8_dirtyAt l dC dI ad cA adK adV H.size σ2 hIσ2 4 rfl r_8) (cwV 1 hts gX11_dirty_X8_dirtyAt rfl rfl rfl (by decide +kernel) ⟨Nat.le_of_ble_eq_true rfl, Nat.le_of_ble_eq_true rfl⟩) ⟨gBlind, va_recv hK hP (ci := 7) (q0 := 4) rfl (at_7 rfl), gStart (As := [.ref (ad 4), .double r_8]) hP hD hK0 hT hS hF (d_9)⟩ rfl rfl hl.1 rfl (lv_room (Nat.le_of_ble_eq_true rfl)) dX11_dirty_25 ⟨Nat.le_of_ble_eq_true rfl, Nat.le_of_ble_eq_true rfl⟩) hS (fun q _ h => hF q h) hF (fun r_11 σ4 t H locs ht hvm hw hB hz1 hk1 hS d_12 hd0 => ?_)
    have hts := dr_words hts0 (d_12)
    have hK := gKd hK0 (d_12)
    have hown : (s.setDrawn (d_12)).vm.findClass RX11 = some m.cls := hown0
    obtain ⟨hP, hD⟩ := gBack hF ht hB
    obtain ⟨hIσ4, hro, hp_13⟩ := hw
    subst hro
    have hF := gFree hD hS hA
    refine va_calllD hd0 (va_runS_D (As := [.double r_11]) (rest := []) ⟨hx, hb, hml, hown, hts⟩ (n_X11_bitsOf l dC dI ad cA adK adV H.size σ2 hIσ2 r_11) (va_cwS 1 hts gX11_dirty_X11_bitsOf rfl rfl rfl (by decide +kernel) ⟨Nat.le_of_ble_eq_true rfl, Nat.le_of_ble_eq_true rfl⟩) ⟨gBlind, gStart (As := [.double r_11]) hP hD hK0 hT hS hF (d_12)⟩ rfl rfl hl.1 rfl (lv_room (Nat.le_of_ble_eq_true rfl)) dX11_dirty_28 ⟨Nat.le_of_ble_eq_true rfl, Nat.le_of_ble_eq_true rfl⟩) hS (fun q _ h => hF q h) hF (fun r_14 σ5 t H locs ht hvm hw hB hz1 hk1 hS d_15 hd0 => ?_)
    have hts := dr_words hts0 (d_15)
    have hK := gKd hK0 (d_15)
    have hown : (s.setDrawn (d_15)).vm.findClass RX11 = some m.cls := hown0
    obtain ⟨hP, hD⟩ := gBack hF ht hB
    obtain ⟨hIσ5, hro, hp_16⟩ := hw
    subst hro
    refine W.endD hd0 ?_
    exact W.lret (v := r_14) hx hb hr (fun t ht hW => ⟨⟨r_14, σ2, rfl, ⟨hIσ2, (gFr.tr (gFr.rfl (L := [5, 7, 10]) (σ := σ)) fcσ2 (by decide)), trivial⟩, ⟨by rw [ht]; exact hP, hD⟩⟩, hS.F ht⟩) hS.2.2 dX11_dirty_31
  · refine lv_ldc2 (v := (-9223372036854775808)) hx hb hown (hts (.constantLong RX11 256 (-9223372036854775808)) (by decide +kernel)) dX11_dirty_13 ?_
    refine W.endD hd0 ?_
    exact W.lret (v := (-9223372036854775808)) hx hb hr (fun t ht hW => ⟨⟨(-9223372036854775808), σ2, rfl, ⟨hIσ2, (gFr.tr (gFr.rfl (L := [5, 7, 10]) (σ := σ)) fcσ2 (by decide)), trivial⟩, ⟨by rw [ht]; exact hP, hD⟩⟩, hS.F ht⟩) hS.2.2 dX11_dirty_16
set_option maxHeartbeats 8000000 in
set_option maxRecDepth 100000 in
theorem n_X11_clean (l : Launch) (dC : Nat → ClassId) (dI : Nat → Nat → Nat) (ad : Nat → Nat) (cA : Nat → ClassId) (adK adV : Nat → Nat) (sz : Nat) (σ : gs) (hI : InvX σ) (p0 : Int32) (p1 : Int32) (p2 : Int32) : MetD lw_cs l yX11_clean wsX11_clean ({ frames := 7, cells := 0, slots := 0, locals := 179 }) (va_Pc [.ref (ad 0), .int p0, .int p1, .int p2] (gPre adK adV (dC, dI) (wX ad cA σ) (tX cA) sz)) (va_Ql (fun (r : Int64) (τ : gs) => InvX τ ∧ gFr [5, 7, 10] σ τ ∧ (True)) (fun τ t => gPost (dC, dI) (va_A (wX ad cA σ) sz) (wX ad cA τ) t) (va_A (wX ad cA σ) sz)) 0 0 (va_A (wX ad cA σ) sz) := by
  refine MetD.ofW (cc := cX11_clean) (maxL := 4) (ret := (some .long)) (by decide) rfl ?_
  intro p e s m args below meth c s₁ B hml hv hd0
  obtain ⟨rfl, hsz, hP, hK, hD0, hT⟩ := hv
  have hx := B.exec
  have hb := B.bytes
  have hr := B.returns
  have hts0 := atoms_spec (ws := wsX11_clean) B.pre
  have hK0 := hK
  have hown0 : s.vm.findClass RX11 = some m.cls := findClass_of_methodNamed B.named
  have hlocks := B.notSynchronized
  have hinX11 : ∀ w ∈ u_ws RX11 TX11 15, w ∈ wsX11_clean := (fun _ h9 => List.mem_cons_of_mem _ (List.mem_append_left _ (List.mem_append_left _ (List.mem_append_left _ (List.mem_append_left _ (List.mem_append_right _ h9))))))
  subst hsz
  have hD := hD0.self (sz := s.heap.size)
  generalize hAe : va_A (wX ad cA σ) s.heap.size = A at hD hT ⊢
  have hA : ∀ q : Nat, s.heap.size ≤ q → A q := fun q h => by rw [← hAe]; exact Or.inr h
  have hS : va_S A s.heap s.heap [] := va_S.rf
  have hl := lv_entry ([.ref (ad 0), .int p0, .int p1, .int p2]) (n := 4) (Nat.le_of_ble_eq_true rfl)
  rw [lg_entry_eq]
  generalize (lg_sl ([.ref (ad 0), .int p0, .int p1, .int p2]) ++ List.replicate (4 - (lg_sl ([.ref (ad 0), .int p0, .int p1, .int p2])).length) Slot.unset).toArray = ls at hl ⊢
  have hl : lv_has ls 4 [(0, .ref (ad 0)), (1, .int p0), (2, .int p1), (3, .int p2)] := hl
  have hts := dr_words hts0 (s.drawn)
  have hK := gKd hK0 (s.drawn)
  have hown : (s.setDrawn (s.drawn)).vm.findClass RX11 = some m.cls := hown0
  refine lv_aload_n hx hb dX11_clean_0 rfl (lv_at hl 0 rfl) ?_
  refine lv_iload_n hx hb dX11_clean_1 rfl (lv_at hl 1 rfl) ?_
  refine lv_iload_n hx hb dX11_clean_2 rfl (lv_at hl 2 rfl) ?_
  refine lv_iload_n hx hb dX11_clean_3 rfl (lv_at hl 3 rfl) ?_
  have hF := gFree hD hS hA
  refine va_calliD hd0 (va_runS_D (As := [.int p2]) (rest := [.int p1, .int p0, .ref (ad 0)]) ⟨hx, hb, hml, hown, hts⟩ (n_X11_arePoints l dC dI ad cA adK adV s.heap.size σ hI p2) (va_cwS 1 hts gX11_clean_X11_arePoints rfl rfl rfl (by decide +kernel) ⟨Nat.le_of_ble_eq_true rfl, Nat.le_of_ble_eq_true rfl⟩) ⟨gBlind, gStart (As := [.int p2]) hP hD hK0 hT hS hF (s.drawn)⟩ rfl rfl hl.1 rfl (lv_room (Nat.le_of_ble_eq_true rfl)) dX11_clean_4 ⟨Nat.le_of_ble_eq_true rfl, Nat.le_of_ble_eq_true rfl⟩) hS (fun q _ h => hF q h) hF (fun r_1 σ1 t H locs ht hvm hw hB hz1 hk1 hS d_2 hd0 => ?_)
  have hts := dr_words hts0 (d_2)
  have hK := gKd hK0 (d_2)
  have hown : (s.setDrawn (d_2)).vm.findClass RX11 = some m.cls := hown0
  obtain ⟨hP, hD⟩ := gBack hF ht hB
  obtain ⟨hIσ1, hro, hp_3⟩ := hw
  subst hro
  have hF := gFree hD hS hA
  refine va_calliD hd0 (va_runV_D (As := [.int p0, .int p1, .int r_1]) (rest := []) ⟨hx, hb, hml, hown, hts⟩ (n_X11_openSettle l dC dI ad cA adK adV H.size σ hI p0 p1 r_1) (cwV 3 hts gX11_clean_X11_openSettle rfl rfl rfl (by decide +kernel) ⟨Nat.le_of_ble_eq_true rfl, Nat.le_of_ble_eq_true rfl⟩) ⟨gBlind, va_recv hK hP (ci := 10) (q0 := 0) rfl (at_10 rfl), gStart (As := [.ref (ad 0), .int p0, .int p1, .int r_1]) hP hD hK0 hT hS hF (d_2)⟩ rfl rfl hl.1 rfl (lv_room (Nat.le_of_ble_eq_true rfl)) dX11_clean_7 ⟨Nat.le_of_ble_eq_true rfl, Nat.le_of_ble_eq_true rfl⟩) hS (fun q _ h => hF q h) hF (fun r_4 σ2 t H locs ht hvm hw hB hz1 hk1 hS d_5 hd0 => ?_)
  have hts := dr_words hts0 (d_5)
  have hK := gKd hK0 (d_5)
  have hown : (s.setDrawn (d_5)).vm.findClass RX11 = some m.cls := hown0
  obtain ⟨hP, hD⟩ := gBack hF ht hB
  obtain ⟨hIσ2, fcσ2, hp_6⟩ := hw
  refine lv_if_ne (tgt := 17) hx hb dX11_clean_10 (by decide) (fun c_7 => ?_) (fun c_7 => ?_)
  · refine lv_aload_n hx hb dX11_clean_17 rfl (lv_at hl 0 rfl) ?_
    refine va_get (D := (dC, dI)) (ci := 10) (v := .ref (ad 4)) (C := RX11) (T := TX11) (N := 15) hx hb hts hinX11 hown hK hP 0 (at_10 rfl) rfl 1 (by decide) (hts (.fieldLink RX11 19 "BondCalendars" "settle" "LBondCalendars$Settle;") (by decide +kernel)) (fun _ h9 => h9) rfl dX11_clean_18 ?_
    refine lv_iload_n hx hb dX11_clean_21 rfl (lv_at hl 3 rfl) ?_
    have hF := gFree hD hS hA
    refine va_calldD hd0 (va_runS_D (As := [.int p2]) (rest := [.ref (ad 4)]) ⟨hx, hb, hml, hown, hts⟩ (n_X11_yieldOf l dC dI ad cA adK adV H.size σ2 hIσ2 p2) (va_cwS 1 hts gX11_clean_X11_yieldOf rfl rfl rfl (by decide +kernel) ⟨Nat.le_of_ble_eq_true rfl, Nat.le_of_ble_eq_true rfl⟩) ⟨gBlind, gStart (As := [.int p2]) hP hD hK0 hT hS hF (d_5)⟩ rfl rfl hl.1 rfl (lv_room (Nat.le_of_ble_eq_true rfl)) dX11_clean_22 ⟨Nat.le_of_ble_eq_true rfl, Nat.le_of_ble_eq_true rfl⟩) hS (fun q _ h => hF q h) hF (fun r_8 σ3 t H locs ht hvm hw hB hz1 hk1 hS d_9 hd0 => ?_)
    have hts := dr_words hts0 (d_9)
    have hK := gKd hK0 (d_9)
    have hown : (s.setDrawn (d_9)).vm.findClass RX11 = some m.cls := hown0
    obtain ⟨hP, hD⟩ := gBack hF ht hB
    obtain ⟨hIσ3, hro, hp_10⟩ := hw
    subst hro
    have hF := gFree hD hS hA
    refine va_calldD hd0 (va_runV_D (As := [.double r_8]) (rest := []) ⟨hx, hb, hml, hown, hts⟩ (n_X8_cleanAt l dC dI ad cA adK adV H.size σ2 hIσ2 4 rfl r_8) (cwV 1 hts gX11_clean_X8_cleanAt rfl rfl rfl (by decide +kernel) ⟨Nat.le_of_ble_eq_true rfl, Nat.le_of_ble_eq_true rfl⟩) ⟨gBlind, va_recv hK hP (ci := 7) (q0 := 4) rfl (at_7 rfl), gStart (As := [.ref (ad 4), .double r_8]) hP hD hK0 hT hS hF (d_9)⟩ rfl rfl hl.1 rfl (lv_room (Nat.le_of_ble_eq_true rfl)) dX11_clean_25 ⟨Nat.le_of_ble_eq_true rfl, Nat.le_of_ble_eq_true rfl⟩) hS (fun q _ h => hF q h) hF (fun r_11 σ4 t H locs ht hvm hw hB hz1 hk1 hS d_12 hd0 => ?_)
    have hts := dr_words hts0 (d_12)
    have hK := gKd hK0 (d_12)
    have hown : (s.setDrawn (d_12)).vm.findClass RX11 = some m.cls := hown0
    obtain ⟨hP, hD⟩ := gBack hF ht hB
    obtain ⟨hIσ4, hro, hp_13⟩ := hw
    subst hro
    have hF := gFree hD hS hA
    refine va_calllD hd0 (va_runS_D (As := [.double r_11]) (rest := []) ⟨hx, hb, hml, hown, hts⟩ (n_X11_bitsOf l dC dI ad cA adK adV H.size σ2 hIσ2 r_11) (va_cwS 1 hts gX11_clean_X11_bitsOf rfl rfl rfl (by decide +kernel) ⟨Nat.le_of_ble_eq_true rfl, Nat.le_of_ble_eq_true rfl⟩) ⟨gBlind, gStart (As := [.double r_11]) hP hD hK0 hT hS hF (d_12)⟩ rfl rfl hl.1 rfl (lv_room (Nat.le_of_ble_eq_true rfl)) dX11_clean_28 ⟨Nat.le_of_ble_eq_true rfl, Nat.le_of_ble_eq_true rfl⟩) hS (fun q _ h => hF q h) hF (fun r_14 σ5 t H locs ht hvm hw hB hz1 hk1 hS d_15 hd0 => ?_)
    have hts := dr_words hts0 (d_15)
    have hK := gKd hK0 (d_15)
    have hown : (s.setDrawn (d_15)).vm.findClass RX11 = some m.cls := hown0
    obtain ⟨hP, hD⟩ := gBack hF ht hB
    obtain ⟨hIσ5, hro, hp_16⟩ := hw
    subst hro
    refine W.endD hd0 ?_
    exact W.lret (v := r_14) hx hb hr (fun t ht hW => ⟨⟨r_14, σ2, rfl, ⟨hIσ2, (gFr.tr (gFr.rfl (L := [5, 7, 10]) (σ := σ)) fcσ2 (by decide)), trivial⟩, ⟨by rw [ht]; exact hP, hD⟩⟩, hS.F ht⟩) hS.2.2 dX11_clean_31
  · refine lv_ldc2 (v := (-9223372036854775808)) hx hb hown (hts (.constantLong RX11 256 (-9223372036854775808)) (by decide +kernel)) dX11_clean_13 ?_
    refine W.endD hd0 ?_
    exact W.lret (v := (-9223372036854775808)) hx hb hr (fun t ht hW => ⟨⟨(-9223372036854775808), σ2, rfl, ⟨hIσ2, (gFr.tr (gFr.rfl (L := [5, 7, 10]) (σ := σ)) fcσ2 (by decide)), trivial⟩, ⟨by rw [ht]; exact hP, hD⟩⟩, hS.F ht⟩) hS.2.2 dX11_clean_16
set_option maxHeartbeats 8000000 in
set_option maxRecDepth 100000 in
theorem n_X11_risk (l : Launch) (dC : Nat → ClassId) (dI : Nat → Nat → Nat) (ad : Nat → Nat) (cA : Nat → ClassId) (adK adV : Nat → Nat) (sz : Nat) (σ : gs) (hI : InvX σ) (p0 : Int32) (p1 : Int32) (p2 : Int32) : MetD lw_cs l yX11_risk wsX11_risk ({ frames := 7, cells := 0, slots := 0, locals := 179 }) (va_Pc [.ref (ad 0), .int p0, .int p1, .int p2] (gPre adK adV (dC, dI) (wX ad cA σ) (tX cA) sz)) (va_Ql (fun (r : Int64) (τ : gs) => InvX τ ∧ gFr [5, 7, 10] σ τ ∧ (True)) (fun τ t => gPost (dC, dI) (va_A (wX ad cA σ) sz) (wX ad cA τ) t) (va_A (wX ad cA σ) sz)) 0 0 (va_A (wX ad cA σ) sz) := by
  refine MetD.ofW (cc := cX11_risk) (maxL := 4) (ret := (some .long)) (by decide) rfl ?_
  intro p e s m args below meth c s₁ B hml hv hd0
  obtain ⟨rfl, hsz, hP, hK, hD0, hT⟩ := hv
  have hx := B.exec
  have hb := B.bytes
  have hr := B.returns
  have hts0 := atoms_spec (ws := wsX11_risk) B.pre
  have hK0 := hK
  have hown0 : s.vm.findClass RX11 = some m.cls := findClass_of_methodNamed B.named
  have hlocks := B.notSynchronized
  have hinX11 : ∀ w ∈ u_ws RX11 TX11 15, w ∈ wsX11_risk := (fun _ h9 => List.mem_cons_of_mem _ (List.mem_append_left _ (List.mem_append_left _ (List.mem_append_left _ (List.mem_append_left _ (List.mem_append_right _ h9))))))
  subst hsz
  have hD := hD0.self (sz := s.heap.size)
  generalize hAe : va_A (wX ad cA σ) s.heap.size = A at hD hT ⊢
  have hA : ∀ q : Nat, s.heap.size ≤ q → A q := fun q h => by rw [← hAe]; exact Or.inr h
  have hS : va_S A s.heap s.heap [] := va_S.rf
  have hl := lv_entry ([.ref (ad 0), .int p0, .int p1, .int p2]) (n := 4) (Nat.le_of_ble_eq_true rfl)
  rw [lg_entry_eq]
  generalize (lg_sl ([.ref (ad 0), .int p0, .int p1, .int p2]) ++ List.replicate (4 - (lg_sl ([.ref (ad 0), .int p0, .int p1, .int p2])).length) Slot.unset).toArray = ls at hl ⊢
  have hl : lv_has ls 4 [(0, .ref (ad 0)), (1, .int p0), (2, .int p1), (3, .int p2)] := hl
  have hts := dr_words hts0 (s.drawn)
  have hK := gKd hK0 (s.drawn)
  have hown : (s.setDrawn (s.drawn)).vm.findClass RX11 = some m.cls := hown0
  refine lv_aload_n hx hb dX11_risk_0 rfl (lv_at hl 0 rfl) ?_
  refine lv_iload_n hx hb dX11_risk_1 rfl (lv_at hl 1 rfl) ?_
  refine lv_iload_n hx hb dX11_risk_2 rfl (lv_at hl 2 rfl) ?_
  refine lv_iload_n hx hb dX11_risk_3 rfl (lv_at hl 3 rfl) ?_
  refine lv_sipush (v := (-2000)) hx hb dX11_risk_4 (by decide) ?_
  refine lv_icmp_le (tgt := 21) hx hb dX11_risk_7 (by decide) (fun c_1 => ?_) (fun c_1 => ?_)
  · refine lv_iconst (v := 0) hx hb dX11_risk_21 (by decide) ?_
    have hF := gFree hD hS hA
    refine va_calliD hd0 (va_runV_D (As := [.int p0, .int p1, .int 0]) (rest := []) ⟨hx, hb, hml, hown, hts⟩ (n_X11_openSettle l dC dI ad cA adK adV s.heap.size σ hI p0 p1 0) (cwV 3 hts gX11_risk_X11_openSettle rfl rfl rfl (by decide +kernel) ⟨Nat.le_of_ble_eq_true rfl, Nat.le_of_ble_eq_true rfl⟩) ⟨gBlind, va_recv hK hP (ci := 10) (q0 := 0) rfl (at_10 rfl), gStart (As := [.ref (ad 0), .int p0, .int p1, .int 0]) hP hD hK0 hT hS hF (s.drawn)⟩ rfl rfl hl.1 rfl (lv_room (Nat.le_of_ble_eq_true rfl)) dX11_risk_22 ⟨Nat.le_of_ble_eq_true rfl, Nat.le_of_ble_eq_true rfl⟩) hS (fun q _ h => hF q h) hF (fun r_2 σ1 t H locs ht hvm hw hB hz1 hk1 hS d_3 hd0 => ?_)
    have hts := dr_words hts0 (d_3)
    have hK := gKd hK0 (d_3)
    have hown : (s.setDrawn (d_3)).vm.findClass RX11 = some m.cls := hown0
    obtain ⟨hP, hD⟩ := gBack hF ht hB
    obtain ⟨hIσ1, fcσ1, hp_4⟩ := hw
    refine lv_if_ne (tgt := 32) hx hb dX11_risk_25 (by decide) (fun c_5 => ?_) (fun c_5 => ?_)
    · refine lv_aload_n hx hb dX11_risk_32 rfl (lv_at hl 0 rfl) ?_
      refine va_get (D := (dC, dI)) (ci := 10) (v := .ref (ad 4)) (C := RX11) (T := TX11) (N := 15) hx hb hts hinX11 hown hK hP 0 (at_10 rfl) rfl 1 (by decide) (hts (.fieldLink RX11 19 "BondCalendars" "settle" "LBondCalendars$Settle;") (by decide +kernel)) (fun _ h9 => h9) rfl dX11_risk_33 ?_
      refine lv_iload_n hx hb dX11_risk_36 rfl (lv_at hl 3 rfl) ?_
      refine lv_iconst (v := 1) hx hb dX11_risk_37 (by decide) ?_
      refine lv_isub hx hb dX11_risk_38 ?_
      refine lv_topi (fun x_6 ex_6 => ?_)
      have hF := gFree hD hS hA
      refine va_calldD hd0 (va_runS_D (As := [.int x_6]) (rest := [.ref (ad 4)]) ⟨hx, hb, hml, hown, hts⟩ (n_X11_yieldOf l dC dI ad cA adK adV H.size σ1 hIσ1 x_6) (va_cwS 1 hts gX11_risk_X11_yieldOf rfl rfl rfl (by decide +kernel) ⟨Nat.le_of_ble_eq_true rfl, Nat.le_of_ble_eq_true rfl⟩) ⟨gBlind, gStart (As := [.int x_6]) hP hD hK0 hT hS hF (d_3)⟩ rfl rfl hl.1 rfl (lv_room (Nat.le_of_ble_eq_true rfl)) dX11_risk_39 ⟨Nat.le_of_ble_eq_true rfl, Nat.le_of_ble_eq_true rfl⟩) hS (fun q _ h => hF q h) hF (fun r_7 σ2 t H locs ht hvm hw hB hz1 hk1 hS d_8 hd0 => ?_)
      have hts := dr_words hts0 (d_8)
      have hK := gKd hK0 (d_8)
      have hown : (s.setDrawn (d_8)).vm.findClass RX11 = some m.cls := hown0
      obtain ⟨hP, hD⟩ := gBack hF ht hB
      obtain ⟨hIσ2, hro, hp_9⟩ := hw
      subst hro
      have hF := gFree hD hS hA
      refine va_calldD hd0 (va_runV_D (As := [.double r_7]) (rest := []) ⟨hx, hb, hml, hown, hts⟩ (n_X8_dirtyAt l dC dI ad cA adK adV H.size σ1 hIσ1 4 rfl r_7) (cwV 1 hts gX11_risk_X8_dirtyAt rfl rfl rfl (by decide +kernel) ⟨Nat.le_of_ble_eq_true rfl, Nat.le_of_ble_eq_true rfl⟩) ⟨gBlind, va_recv hK hP (ci := 7) (q0 := 4) rfl (at_7 rfl), gStart (As := [.ref (ad 4), .double r_7]) hP hD hK0 hT hS hF (d_8)⟩ rfl rfl hl.1 rfl (lv_room (Nat.le_of_ble_eq_true rfl)) dX11_risk_42 ⟨Nat.le_of_ble_eq_true rfl, Nat.le_of_ble_eq_true rfl⟩) hS (fun q _ h => hF q h) hF (fun r_10 σ3 t H locs ht hvm hw hB hz1 hk1 hS d_11 hd0 => ?_)
      have hts := dr_words hts0 (d_11)
      have hK := gKd hK0 (d_11)
      have hown : (s.setDrawn (d_11)).vm.findClass RX11 = some m.cls := hown0
      obtain ⟨hP, hD⟩ := gBack hF ht hB
      obtain ⟨hIσ3, hro, hp_12⟩ := hw
      subst hro
      refine lv_aload_n hx hb dX11_risk_45 rfl (lv_at hl 0 rfl) ?_
      refine va_get (D := (dC, dI)) (ci := 10) (v := .ref (ad 4)) (C := RX11) (T := TX11) (N := 15) hx hb hts hinX11 hown hK hP 0 (at_10 rfl) rfl 1 (by decide) (hts (.fieldLink RX11 19 "BondCalendars" "settle" "LBondCalendars$Settle;") (by decide +kernel)) (fun _ h9 => h9) rfl dX11_risk_46 ?_
      refine lv_iload_n hx hb dX11_risk_49 rfl (lv_at hl 3 rfl) ?_
      refine lv_iconst (v := 1) hx hb dX11_risk_50 (by decide) ?_
      refine lv_iadd hx hb dX11_risk_51 ?_
      refine lv_topi (fun x_13 ex_13 => ?_)
      have hF := gFree hD hS hA
      refine va_calldD hd0 (va_runS_D (As := [.int x_13]) (rest := [.ref (ad 4), .double r_10]) ⟨hx, hb, hml, hown, hts⟩ (n_X11_yieldOf l dC dI ad cA adK adV H.size σ1 hIσ1 x_13) (va_cwS 1 hts gX11_risk_X11_yieldOf rfl rfl rfl (by decide +kernel) ⟨Nat.le_of_ble_eq_true rfl, Nat.le_of_ble_eq_true rfl⟩) ⟨gBlind, gStart (As := [.int x_13]) hP hD hK0 hT hS hF (d_11)⟩ rfl rfl hl.1 rfl (lv_room (Nat.le_of_ble_eq_true rfl)) dX11_risk_52 ⟨Nat.le_of_ble_eq_true rfl, Nat.le_of_ble_eq_true rfl⟩) hS (fun q _ h => hF q h) hF (fun r_14 σ4 t H locs ht hvm hw hB hz1 hk1 hS d_15 hd0 => ?_)
      have hts := dr_words hts0 (d_15)
      have hK := gKd hK0 (d_15)
      have hown : (s.setDrawn (d_15)).vm.findClass RX11 = some m.cls := hown0
      obtain ⟨hP, hD⟩ := gBack hF ht hB
      obtain ⟨hIσ4, hro, hp_16⟩ := hw
      subst hro
      have hF := gFree hD hS hA
      refine va_calldD hd0 (va_runV_D (As := [.double r_14]) (rest := [.double r_10]) ⟨hx, hb, hml, hown, hts⟩ (n_X8_dirtyAt l dC dI ad cA adK adV H.size σ1 hIσ1 4 rfl r_14) (cwV 1 hts gX11_risk_X8_dirtyAt rfl rfl rfl (by decide +kernel) ⟨Nat.le_of_ble_eq_true rfl, Nat.le_of_ble_eq_true rfl⟩) ⟨gBlind, va_recv hK hP (ci := 7) (q0 := 4) rfl (at_7 rfl), gStart (As := [.ref (ad 4), .double r_14]) hP hD hK0 hT hS hF (d_15)⟩ rfl rfl hl.1 rfl (lv_room (Nat.le_of_ble_eq_true rfl)) dX11_risk_55 ⟨Nat.le_of_ble_eq_true rfl, Nat.le_of_ble_eq_true rfl⟩) hS (fun q _ h => hF q h) hF (fun r_17 σ5 t H locs ht hvm hw hB hz1 hk1 hS d_18 hd0 => ?_)
      have hts := dr_words hts0 (d_18)
      have hK := gKd hK0 (d_18)
      have hown : (s.setDrawn (d_18)).vm.findClass RX11 = some m.cls := hown0
      obtain ⟨hP, hD⟩ := gBack hF ht hB
      obtain ⟨hIσ5, hro, hp_19⟩ := hw
      subst hro
      refine lv_dsub_any hd0 lw_bits hx hb dX11_risk_58 (fun y_20 d_21 _ hd0 => ?_)
      have hts := dr_words hts0 (d_21)
      have hK := gKd hK0 (d_21)
      have hown : (s.setDrawn (d_21)).vm.findClass RX11 = some m.cls := hown0
      refine lv_ldc2d (v := 4611686018427387904) hx hb hown (hts (.constantDouble RX11 284 (4611686018427387904)) (by decide +kernel)) dX11_risk_59 ?_
      refine lv_ddiv_any hd0 lw_bits hx hb dX11_risk_62 (fun y_22 d_23 _ hd0 => ?_)
      have hts := dr_words hts0 (d_23)
      have hK := gKd hK0 (d_23)
      have hown : (s.setDrawn (d_23)).vm.findClass RX11 = some m.cls := hown0
      have hF := gFree hD hS hA
      refine va_calllD hd0 (va_runS_D (As := [.double y_22]) (rest := []) ⟨hx, hb, hml, hown, hts⟩ (n_X11_bitsOf l dC dI ad cA adK adV H.size σ1 hIσ1 y_22) (va_cwS 1 hts gX11_risk_X11_bitsOf rfl rfl rfl (by decide +kernel) ⟨Nat.le_of_ble_eq_true rfl, Nat.le_of_ble_eq_true rfl⟩) ⟨gBlind, gStart (As := [.double y_22]) hP hD hK0 hT hS hF (d_23)⟩ rfl rfl hl.1 rfl (lv_room (Nat.le_of_ble_eq_true rfl)) dX11_risk_63 ⟨Nat.le_of_ble_eq_true rfl, Nat.le_of_ble_eq_true rfl⟩) hS (fun q _ h => hF q h) hF (fun r_24 σ6 t H locs ht hvm hw hB hz1 hk1 hS d_25 hd0 => ?_)
      have hts := dr_words hts0 (d_25)
      have hK := gKd hK0 (d_25)
      have hown : (s.setDrawn (d_25)).vm.findClass RX11 = some m.cls := hown0
      obtain ⟨hP, hD⟩ := gBack hF ht hB
      obtain ⟨hIσ6, hro, hp_26⟩ := hw
      subst hro
      refine W.endD hd0 ?_
      exact W.lret (v := r_24) hx hb hr (fun t ht hW => ⟨⟨r_24, σ1, rfl, ⟨hIσ1, (gFr.tr (gFr.rfl (L := [5, 7, 10]) (σ := σ)) fcσ1 (by decide)), trivial⟩, ⟨by rw [ht]; exact hP, hD⟩⟩, hS.F ht⟩) hS.2.2 dX11_risk_66
    · refine lv_ldc2 (v := (-9223372036854775808)) hx hb hown (hts (.constantLong RX11 256 (-9223372036854775808)) (by decide +kernel)) dX11_risk_28 ?_
      refine W.endD hd0 ?_
      exact W.lret (v := (-9223372036854775808)) hx hb hr (fun t ht hW => ⟨⟨(-9223372036854775808), σ1, rfl, ⟨hIσ1, (gFr.tr (gFr.rfl (L := [5, 7, 10]) (σ := σ)) fcσ1 (by decide)), trivial⟩, ⟨by rw [ht]; exact hP, hD⟩⟩, hS.F ht⟩) hS.2.2 dX11_risk_31
  · refine lv_iload_n hx hb dX11_risk_10 rfl (lv_at hl 3 rfl) ?_
    refine lv_sipush (v := 10000) hx hb dX11_risk_11 (by decide) ?_
    refine lv_icmp_ge (tgt := 21) hx hb dX11_risk_14 (by decide) (fun c_27 => ?_) (fun c_27 => ?_)
    · refine lv_iconst (v := 0) hx hb dX11_risk_21 (by decide) ?_
      have hF := gFree hD hS hA
      refine va_calliD hd0 (va_runV_D (As := [.int p0, .int p1, .int 0]) (rest := []) ⟨hx, hb, hml, hown, hts⟩ (n_X11_openSettle l dC dI ad cA adK adV s.heap.size σ hI p0 p1 0) (cwV 3 hts gX11_risk_X11_openSettle rfl rfl rfl (by decide +kernel) ⟨Nat.le_of_ble_eq_true rfl, Nat.le_of_ble_eq_true rfl⟩) ⟨gBlind, va_recv hK hP (ci := 10) (q0 := 0) rfl (at_10 rfl), gStart (As := [.ref (ad 0), .int p0, .int p1, .int 0]) hP hD hK0 hT hS hF (s.drawn)⟩ rfl rfl hl.1 rfl (lv_room (Nat.le_of_ble_eq_true rfl)) dX11_risk_22 ⟨Nat.le_of_ble_eq_true rfl, Nat.le_of_ble_eq_true rfl⟩) hS (fun q _ h => hF q h) hF (fun r_28 σ7 t H locs ht hvm hw hB hz1 hk1 hS d_29 hd0 => ?_)
      have hts := dr_words hts0 (d_29)
      have hK := gKd hK0 (d_29)
      have hown : (s.setDrawn (d_29)).vm.findClass RX11 = some m.cls := hown0
      obtain ⟨hP, hD⟩ := gBack hF ht hB
      obtain ⟨hIσ7, fcσ7, hp_30⟩ := hw
      refine lv_if_ne (tgt := 32) hx hb dX11_risk_25 (by decide) (fun c_31 => ?_) (fun c_31 => ?_)
      · refine lv_aload_n hx hb dX11_risk_32 rfl (lv_at hl 0 rfl) ?_
        refine va_get (D := (dC, dI)) (ci := 10) (v := .ref (ad 4)) (C := RX11) (T := TX11) (N := 15) hx hb hts hinX11 hown hK hP 0 (at_10 rfl) rfl 1 (by decide) (hts (.fieldLink RX11 19 "BondCalendars" "settle" "LBondCalendars$Settle;") (by decide +kernel)) (fun _ h9 => h9) rfl dX11_risk_33 ?_
        refine lv_iload_n hx hb dX11_risk_36 rfl (lv_at hl 3 rfl) ?_
        refine lv_iconst (v := 1) hx hb dX11_risk_37 (by decide) ?_
        refine lv_isub hx hb dX11_risk_38 ?_
        refine lv_topi (fun x_32 ex_32 => ?_)
        have hF := gFree hD hS hA
        refine va_calldD hd0 (va_runS_D (As := [.int x_32]) (rest := [.ref (ad 4)]) ⟨hx, hb, hml, hown, hts⟩ (n_X11_yieldOf l dC dI ad cA adK adV H.size σ7 hIσ7 x_32) (va_cwS 1 hts gX11_risk_X11_yieldOf rfl rfl rfl (by decide +kernel) ⟨Nat.le_of_ble_eq_true rfl, Nat.le_of_ble_eq_true rfl⟩) ⟨gBlind, gStart (As := [.int x_32]) hP hD hK0 hT hS hF (d_29)⟩ rfl rfl hl.1 rfl (lv_room (Nat.le_of_ble_eq_true rfl)) dX11_risk_39 ⟨Nat.le_of_ble_eq_true rfl, Nat.le_of_ble_eq_true rfl⟩) hS (fun q _ h => hF q h) hF (fun r_33 σ8 t H locs ht hvm hw hB hz1 hk1 hS d_34 hd0 => ?_)
        have hts := dr_words hts0 (d_34)
        have hK := gKd hK0 (d_34)
        have hown : (s.setDrawn (d_34)).vm.findClass RX11 = some m.cls := hown0
        obtain ⟨hP, hD⟩ := gBack hF ht hB
        obtain ⟨hIσ8, hro, hp_35⟩ := hw
        subst hro
        have hF := gFree hD hS hA
        refine va_calldD hd0 (va_runV_D (As := [.double r_33]) (rest := []) ⟨hx, hb, hml, hown, hts⟩ (n_X8_dirtyAt l dC dI ad cA adK adV H.size σ7 hIσ7 4 rfl r_33) (cwV 1 hts gX11_risk_X8_dirtyAt rfl rfl rfl (by decide +kernel) ⟨Nat.le_of_ble_eq_true rfl, Nat.le_of_ble_eq_true rfl⟩) ⟨gBlind, va_recv hK hP (ci := 7) (q0 := 4) rfl (at_7 rfl), gStart (As := [.ref (ad 4), .double r_33]) hP hD hK0 hT hS hF (d_34)⟩ rfl rfl hl.1 rfl (lv_room (Nat.le_of_ble_eq_true rfl)) dX11_risk_42 ⟨Nat.le_of_ble_eq_true rfl, Nat.le_of_ble_eq_true rfl⟩) hS (fun q _ h => hF q h) hF (fun r_36 σ9 t H locs ht hvm hw hB hz1 hk1 hS d_37 hd0 => ?_)
        have hts := dr_words hts0 (d_37)
        have hK := gKd hK0 (d_37)
        have hown : (s.setDrawn (d_37)).vm.findClass RX11 = some m.cls := hown0
        obtain ⟨hP, hD⟩ := gBack hF ht hB
        obtain ⟨hIσ9, hro, hp_38⟩ := hw
        subst hro
        refine lv_aload_n hx hb dX11_risk_45 rfl (lv_at hl 0 rfl) ?_
        refine va_get (D := (dC, dI)) (ci := 10) (v := .ref (ad 4)) (C := RX11) (T := TX11) (N := 15) hx hb hts hinX11 hown hK hP 0 (at_10 rfl) rfl 1 (by decide) (hts (.fieldLink RX11 19 "BondCalendars" "settle" "LBondCalendars$Settle;") (by decide +kernel)) (fun _ h9 => h9) rfl dX11_risk_46 ?_
        refine lv_iload_n hx hb dX11_risk_49 rfl (lv_at hl 3 rfl) ?_
        refine lv_iconst (v := 1) hx hb dX11_risk_50 (by decide) ?_
        refine lv_iadd hx hb dX11_risk_51 ?_
        refine lv_topi (fun x_39 ex_39 => ?_)
        have hF := gFree hD hS hA
        refine va_calldD hd0 (va_runS_D (As := [.int x_39]) (rest := [.ref (ad 4), .double r_36]) ⟨hx, hb, hml, hown, hts⟩ (n_X11_yieldOf l dC dI ad cA adK adV H.size σ7 hIσ7 x_39) (va_cwS 1 hts gX11_risk_X11_yieldOf rfl rfl rfl (by decide +kernel) ⟨Nat.le_of_ble_eq_true rfl, Nat.le_of_ble_eq_true rfl⟩) ⟨gBlind, gStart (As := [.int x_39]) hP hD hK0 hT hS hF (d_37)⟩ rfl rfl hl.1 rfl (lv_room (Nat.le_of_ble_eq_true rfl)) dX11_risk_52 ⟨Nat.le_of_ble_eq_true rfl, Nat.le_of_ble_eq_true rfl⟩) hS (fun q _ h => hF q h) hF (fun r_40 σ10 t H locs ht hvm hw hB hz1 hk1 hS d_41 hd0 => ?_)
        have hts := dr_words hts0 (d_41)
        have hK := gKd hK0 (d_41)
        have hown : (s.setDrawn (d_41)).vm.findClass RX11 = some m.cls := hown0
        obtain ⟨hP, hD⟩ := gBack hF ht hB
        obtain ⟨hIσ10, hro, hp_42⟩ := hw
        subst hro
        have hF := gFree hD hS hA
        refine va_calldD hd0 (va_runV_D (As := [.double r_40]) (rest := [.double r_36]) ⟨hx, hb, hml, hown, hts⟩ (n_X8_dirtyAt l dC dI ad cA adK adV H.size σ7 hIσ7 4 rfl r_40) (cwV 1 hts gX11_risk_X8_dirtyAt rfl rfl rfl (by decide +kernel) ⟨Nat.le_of_ble_eq_true rfl, Nat.le_of_ble_eq_true rfl⟩) ⟨gBlind, va_recv hK hP (ci := 7) (q0 := 4) rfl (at_7 rfl), gStart (As := [.ref (ad 4), .double r_40]) hP hD hK0 hT hS hF (d_41)⟩ rfl rfl hl.1 rfl (lv_room (Nat.le_of_ble_eq_true rfl)) dX11_risk_55 ⟨Nat.le_of_ble_eq_true rfl, Nat.le_of_ble_eq_true rfl⟩) hS (fun q _ h => hF q h) hF (fun r_43 σ11 t H locs ht hvm hw hB hz1 hk1 hS d_44 hd0 => ?_)
        have hts := dr_words hts0 (d_44)
        have hK := gKd hK0 (d_44)
        have hown : (s.setDrawn (d_44)).vm.findClass RX11 = some m.cls := hown0
        obtain ⟨hP, hD⟩ := gBack hF ht hB
        obtain ⟨hIσ11, hro, hp_45⟩ := hw
        subst hro
        refine lv_dsub_any hd0 lw_bits hx hb dX11_risk_58 (fun y_46 d_47 _ hd0 => ?_)
        have hts := dr_words hts0 (d_47)
        have hK := gKd hK0 (d_47)
        have hown : (s.setDrawn (d_47)).vm.findClass RX11 = some m.cls := hown0
        refine lv_ldc2d (v := 4611686018427387904) hx hb hown (hts (.constantDouble RX11 284 (4611686018427387904)) (by decide +kernel)) dX11_risk_59 ?_
        refine lv_ddiv_any hd0 lw_bits hx hb dX11_risk_62 (fun y_48 d_49 _ hd0 => ?_)
        have hts := dr_words hts0 (d_49)
        have hK := gKd hK0 (d_49)
        have hown : (s.setDrawn (d_49)).vm.findClass RX11 = some m.cls := hown0
        have hF := gFree hD hS hA
        refine va_calllD hd0 (va_runS_D (As := [.double y_48]) (rest := []) ⟨hx, hb, hml, hown, hts⟩ (n_X11_bitsOf l dC dI ad cA adK adV H.size σ7 hIσ7 y_48) (va_cwS 1 hts gX11_risk_X11_bitsOf rfl rfl rfl (by decide +kernel) ⟨Nat.le_of_ble_eq_true rfl, Nat.le_of_ble_eq_true rfl⟩) ⟨gBlind, gStart (As := [.double y_48]) hP hD hK0 hT hS hF (d_49)⟩ rfl rfl hl.1 rfl (lv_room (Nat.le_of_ble_eq_true rfl)) dX11_risk_63 ⟨Nat.le_of_ble_eq_true rfl, Nat.le_of_ble_eq_true rfl⟩) hS (fun q _ h => hF q h) hF (fun r_50 σ12 t H locs ht hvm hw hB hz1 hk1 hS d_51 hd0 => ?_)
        have hts := dr_words hts0 (d_51)
        have hK := gKd hK0 (d_51)
        have hown : (s.setDrawn (d_51)).vm.findClass RX11 = some m.cls := hown0
        obtain ⟨hP, hD⟩ := gBack hF ht hB
        obtain ⟨hIσ12, hro, hp_52⟩ := hw
        subst hro
        refine W.endD hd0 ?_
        exact W.lret (v := r_50) hx hb hr (fun t ht hW => ⟨⟨r_50, σ7, rfl, ⟨hIσ7, (gFr.tr (gFr.rfl (L := [5, 7, 10]) (σ := σ)) fcσ7 (by decide)), trivial⟩, ⟨by rw [ht]; exact hP, hD⟩⟩, hS.F ht⟩) hS.2.2 dX11_risk_66
      · refine lv_ldc2 (v := (-9223372036854775808)) hx hb hown (hts (.constantLong RX11 256 (-9223372036854775808)) (by decide +kernel)) dX11_risk_28 ?_
        refine W.endD hd0 ?_
        exact W.lret (v := (-9223372036854775808)) hx hb hr (fun t ht hW => ⟨⟨(-9223372036854775808), σ7, rfl, ⟨hIσ7, (gFr.tr (gFr.rfl (L := [5, 7, 10]) (σ := σ)) fcσ7 (by decide)), trivial⟩, ⟨by rw [ht]; exact hP, hD⟩⟩, hS.F ht⟩) hS.2.2 dX11_risk_31
    · refine lv_iconst (v := 1) hx hb dX11_risk_17 (by decide) ?_
      refine lv_goto (tgt := 22) hx hb dX11_risk_18 (by decide) ?_
      have hF := gFree hD hS hA
      refine va_calliD hd0 (va_runV_D (As := [.int p0, .int p1, .int 1]) (rest := []) ⟨hx, hb, hml, hown, hts⟩ (n_X11_openSettle l dC dI ad cA adK adV s.heap.size σ hI p0 p1 1) (cwV 3 hts gX11_risk_X11_openSettle rfl rfl rfl (by decide +kernel) ⟨Nat.le_of_ble_eq_true rfl, Nat.le_of_ble_eq_true rfl⟩) ⟨gBlind, va_recv hK hP (ci := 10) (q0 := 0) rfl (at_10 rfl), gStart (As := [.ref (ad 0), .int p0, .int p1, .int 1]) hP hD hK0 hT hS hF (s.drawn)⟩ rfl rfl hl.1 rfl (lv_room (Nat.le_of_ble_eq_true rfl)) dX11_risk_22 ⟨Nat.le_of_ble_eq_true rfl, Nat.le_of_ble_eq_true rfl⟩) hS (fun q _ h => hF q h) hF (fun r_53 σ13 t H locs ht hvm hw hB hz1 hk1 hS d_54 hd0 => ?_)
      have hts := dr_words hts0 (d_54)
      have hK := gKd hK0 (d_54)
      have hown : (s.setDrawn (d_54)).vm.findClass RX11 = some m.cls := hown0
      obtain ⟨hP, hD⟩ := gBack hF ht hB
      obtain ⟨hIσ13, fcσ13, hp_55⟩ := hw
      refine lv_if_ne (tgt := 32) hx hb dX11_risk_25 (by decide) (fun c_56 => ?_) (fun c_56 => ?_)
      · refine lv_aload_n hx hb dX11_risk_32 rfl (lv_at hl 0 rfl) ?_
        refine va_get (D := (dC, dI)) (ci := 10) (v := .ref (ad 4)) (C := RX11) (T := TX11) (N := 15) hx hb hts hinX11 hown hK hP 0 (at_10 rfl) rfl 1 (by decide) (hts (.fieldLink RX11 19 "BondCalendars" "settle" "LBondCalendars$Settle;") (by decide +kernel)) (fun _ h9 => h9) rfl dX11_risk_33 ?_
        refine lv_iload_n hx hb dX11_risk_36 rfl (lv_at hl 3 rfl) ?_
        refine lv_iconst (v := 1) hx hb dX11_risk_37 (by decide) ?_
        refine lv_isub hx hb dX11_risk_38 ?_
        refine lv_topi (fun x_57 ex_57 => ?_)
        have hF := gFree hD hS hA
        refine va_calldD hd0 (va_runS_D (As := [.int x_57]) (rest := [.ref (ad 4)]) ⟨hx, hb, hml, hown, hts⟩ (n_X11_yieldOf l dC dI ad cA adK adV H.size σ13 hIσ13 x_57) (va_cwS 1 hts gX11_risk_X11_yieldOf rfl rfl rfl (by decide +kernel) ⟨Nat.le_of_ble_eq_true rfl, Nat.le_of_ble_eq_true rfl⟩) ⟨gBlind, gStart (As := [.int x_57]) hP hD hK0 hT hS hF (d_54)⟩ rfl rfl hl.1 rfl (lv_room (Nat.le_of_ble_eq_true rfl)) dX11_risk_39 ⟨Nat.le_of_ble_eq_true rfl, Nat.le_of_ble_eq_true rfl⟩) hS (fun q _ h => hF q h) hF (fun r_58 σ14 t H locs ht hvm hw hB hz1 hk1 hS d_59 hd0 => ?_)
        have hts := dr_words hts0 (d_59)
        have hK := gKd hK0 (d_59)
        have hown : (s.setDrawn (d_59)).vm.findClass RX11 = some m.cls := hown0
        obtain ⟨hP, hD⟩ := gBack hF ht hB
        obtain ⟨hIσ14, hro, hp_60⟩ := hw
        subst hro
        have hF := gFree hD hS hA
        refine va_calldD hd0 (va_runV_D (As := [.double r_58]) (rest := []) ⟨hx, hb, hml, hown, hts⟩ (n_X8_dirtyAt l dC dI ad cA adK adV H.size σ13 hIσ13 4 rfl r_58) (cwV 1 hts gX11_risk_X8_dirtyAt rfl rfl rfl (by decide +kernel) ⟨Nat.le_of_ble_eq_true rfl, Nat.le_of_ble_eq_true rfl⟩) ⟨gBlind, va_recv hK hP (ci := 7) (q0 := 4) rfl (at_7 rfl), gStart (As := [.ref (ad 4), .double r_58]) hP hD hK0 hT hS hF (d_59)⟩ rfl rfl hl.1 rfl (lv_room (Nat.le_of_ble_eq_true rfl)) dX11_risk_42 ⟨Nat.le_of_ble_eq_true rfl, Nat.le_of_ble_eq_true rfl⟩) hS (fun q _ h => hF q h) hF (fun r_61 σ15 t H locs ht hvm hw hB hz1 hk1 hS d_62 hd0 => ?_)
        have hts := dr_words hts0 (d_62)
        have hK := gKd hK0 (d_62)
        have hown : (s.setDrawn (d_62)).vm.findClass RX11 = some m.cls := hown0
        obtain ⟨hP, hD⟩ := gBack hF ht hB
        obtain ⟨hIσ15, hro, hp_63⟩ := hw
        subst hro
        refine lv_aload_n hx hb dX11_risk_45 rfl (lv_at hl 0 rfl) ?_
        refine va_get (D := (dC, dI)) (ci := 10) (v := .ref (ad 4)) (C := RX11) (T := TX11) (N := 15) hx hb hts hinX11 hown hK hP 0 (at_10 rfl) rfl 1 (by decide) (hts (.fieldLink RX11 19 "BondCalendars" "settle" "LBondCalendars$Settle;") (by decide +kernel)) (fun _ h9 => h9) rfl dX11_risk_46 ?_
        refine lv_iload_n hx hb dX11_risk_49 rfl (lv_at hl 3 rfl) ?_
        refine lv_iconst (v := 1) hx hb dX11_risk_50 (by decide) ?_
        refine lv_iadd hx hb dX11_risk_51 ?_
        refine lv_topi (fun x_64 ex_64 => ?_)
        have hF := gFree hD hS hA
        refine va_calldD hd0 (va_runS_D (As := [.int x_64]) (rest := [.ref (ad 4), .double r_61]) ⟨hx, hb, hml, hown, hts⟩ (n_X11_yieldOf l dC dI ad cA adK adV H.size σ13 hIσ13 x_64) (va_cwS 1 hts gX11_risk_X11_yieldOf rfl rfl rfl (by decide +kernel) ⟨Nat.le_of_ble_eq_true rfl, Nat.le_of_ble_eq_true rfl⟩) ⟨gBlind, gStart (As := [.int x_64]) hP hD hK0 hT hS hF (d_62)⟩ rfl rfl hl.1 rfl (lv_room (Nat.le_of_ble_eq_true rfl)) dX11_risk_52 ⟨Nat.le_of_ble_eq_true rfl, Nat.le_of_ble_eq_true rfl⟩) hS (fun q _ h => hF q h) hF (fun r_65 σ16 t H locs ht hvm hw hB hz1 hk1 hS d_66 hd0 => ?_)
        have hts := dr_words hts0 (d_66)
        have hK := gKd hK0 (d_66)
        have hown : (s.setDrawn (d_66)).vm.findClass RX11 = some m.cls := hown0
        obtain ⟨hP, hD⟩ := gBack hF ht hB
        obtain ⟨hIσ16, hro, hp_67⟩ := hw
        subst hro
        have hF := gFree hD hS hA
        refine va_calldD hd0 (va_runV_D (As := [.double r_65]) (rest := [.double r_61]) ⟨hx, hb, hml, hown, hts⟩ (n_X8_dirtyAt l dC dI ad cA adK adV H.size σ13 hIσ13 4 rfl r_65) (cwV 1 hts gX11_risk_X8_dirtyAt rfl rfl rfl (by decide +kernel) ⟨Nat.le_of_ble_eq_true rfl, Nat.le_of_ble_eq_true rfl⟩) ⟨gBlind, va_recv hK hP (ci := 7) (q0 := 4) rfl (at_7 rfl), gStart (As := [.ref (ad 4), .double r_65]) hP hD hK0 hT hS hF (d_66)⟩ rfl rfl hl.1 rfl (lv_room (Nat.le_of_ble_eq_true rfl)) dX11_risk_55 ⟨Nat.le_of_ble_eq_true rfl, Nat.le_of_ble_eq_true rfl⟩) hS (fun q _ h => hF q h) hF (fun r_68 σ17 t H locs ht hvm hw hB hz1 hk1 hS d_69 hd0 => ?_)
        have hts := dr_words hts0 (d_69)
        have hK := gKd hK0 (d_69)
        have hown : (s.setDrawn (d_69)).vm.findClass RX11 = some m.cls := hown0
        obtain ⟨hP, hD⟩ := gBack hF ht hB
        obtain ⟨hIσ17, hro, hp_70⟩ := hw
        subst hro
        refine lv_dsub_any hd0 lw_bits hx hb dX11_risk_58 (fun y_71 d_72 _ hd0 => ?_)
        have hts := dr_words hts0 (d_72)
        have hK := gKd hK0 (d_72)
        have hown : (s.setDrawn (d_72)).vm.findClass RX11 = some m.cls := hown0
        refine lv_ldc2d (v := 4611686018427387904) hx hb hown (hts (.constantDouble RX11 284 (4611686018427387904)) (by decide +kernel)) dX11_risk_59 ?_
        refine lv_ddiv_any hd0 lw_bits hx hb dX11_risk_62 (fun y_73 d_74 _ hd0 => ?_)
        have hts := dr_words hts0 (d_74)
        have hK := gKd hK0 (d_74)
        have hown : (s.setDrawn (d_74)).vm.findClass RX11 = some m.cls := hown0
        have hF := gFree hD hS hA
        refine va_calllD hd0 (va_runS_D (As := [.double y_73]) (rest := []) ⟨hx, hb, hml, hown, hts⟩ (n_X11_bitsOf l dC dI ad cA adK adV H.size σ13 hIσ13 y_73) (va_cwS 1 hts gX11_risk_X11_bitsOf rfl rfl rfl (by decide +kernel) ⟨Nat.le_of_ble_eq_true rfl, Nat.le_of_ble_eq_true rfl⟩) ⟨gBlind, gStart (As := [.double y_73]) hP hD hK0 hT hS hF (d_74)⟩ rfl rfl hl.1 rfl (lv_room (Nat.le_of_ble_eq_true rfl)) dX11_risk_63 ⟨Nat.le_of_ble_eq_true rfl, Nat.le_of_ble_eq_true rfl⟩) hS (fun q _ h => hF q h) hF (fun r_75 σ18 t H locs ht hvm hw hB hz1 hk1 hS d_76 hd0 => ?_)
        have hts := dr_words hts0 (d_76)
        have hK := gKd hK0 (d_76)
        have hown : (s.setDrawn (d_76)).vm.findClass RX11 = some m.cls := hown0
        obtain ⟨hP, hD⟩ := gBack hF ht hB
        obtain ⟨hIσ18, hro, hp_77⟩ := hw
        subst hro
        refine W.endD hd0 ?_
        exact W.lret (v := r_75) hx hb hr (fun t ht hW => ⟨⟨r_75, σ13, rfl, ⟨hIσ13, (gFr.tr (gFr.rfl (L := [5, 7, 10]) (σ := σ)) fcσ13 (by decide)), trivial⟩, ⟨by rw [ht]; exact hP, hD⟩⟩, hS.F ht⟩) hS.2.2 dX11_risk_66
      · refine lv_ldc2 (v := (-9223372036854775808)) hx hb hown (hts (.constantLong RX11 256 (-9223372036854775808)) (by decide +kernel)) dX11_risk_28 ?_
        refine W.endD hd0 ?_
        exact W.lret (v := (-9223372036854775808)) hx hb hr (fun t ht hW => ⟨⟨(-9223372036854775808), σ13, rfl, ⟨hIσ13, (gFr.tr (gFr.rfl (L := [5, 7, 10]) (σ := σ)) fcσ13 (by decide)), trivial⟩, ⟨by rw [ht]; exact hP, hD⟩⟩, hS.F ht⟩) hS.2.2 dX11_risk_31
set_option maxHeartbeats 8000000 in
set_option maxRecDepth 100000 in
theorem n_X11_bracket (l : Launch) (dC : Nat → ClassId) (dI : Nat → Nat → Nat) (ad : Nat → Nat) (cA : Nat → ClassId) (adK adV : Nat → Nat) (sz : Nat) (σ : gs) (hI : InvX σ) (p0 : Int32) (p1 : Int32) (p2 : Int32) (p3 : Int32) (p4 : Int32) : MetD lw_cs l yX11_bracket wsX11_bracket ({ frames := 7, cells := 0, slots := 0, locals := 179 }) (va_Pc [.ref (ad 0), .int p0, .int p1, .int p2, .int p3, .int p4] (gPre adK adV (dC, dI) (wX ad cA σ) (tX cA) sz)) (va_Ql (fun (r : Int64) (τ : gs) => InvX τ ∧ gFr [2, 5, 7, 10] σ τ ∧ (True)) (fun τ t => gPost (dC, dI) (va_A (wX ad cA σ) sz) (wX ad cA τ) t) (va_A (wX ad cA σ) sz)) 0 0 (va_A (wX ad cA σ) sz) := by
  refine MetD.ofW (cc := cX11_bracket) (maxL := 6) (ret := (some .long)) (by decide) rfl ?_
  intro p e s m args below meth c s₁ B hml hv hd0
  obtain ⟨rfl, hsz, hP, hK, hD0, hT⟩ := hv
  have hx := B.exec
  have hb := B.bytes
  have hr := B.returns
  have hts0 := atoms_spec (ws := wsX11_bracket) B.pre
  have hK0 := hK
  have hown0 : s.vm.findClass RX11 = some m.cls := findClass_of_methodNamed B.named
  have hlocks := B.notSynchronized
  have hinX11 : ∀ w ∈ u_ws RX11 TX11 15, w ∈ wsX11_bracket := (fun _ h9 => List.mem_cons_of_mem _ (List.mem_append_left _ (List.mem_append_left _ (List.mem_append_left _ (List.mem_append_left _ (List.mem_append_left _ (List.mem_append_right _ h9)))))))
  have hinX2 : ∀ w ∈ u_ws RX2 TX2 6, w ∈ wsX11_bracket := (fun _ h9 => List.mem_cons_of_mem _ (List.mem_append_left _ (List.mem_append_left _ (List.mem_append_left _ (List.mem_append_left _ (List.mem_append_right _ h9))))))
  subst hsz
  have hD := hD0.self (sz := s.heap.size)
  generalize hAe : va_A (wX ad cA σ) s.heap.size = A at hD hT ⊢
  have hA : ∀ q : Nat, s.heap.size ≤ q → A q := fun q h => by rw [← hAe]; exact Or.inr h
  have hS : va_S A s.heap s.heap [] := va_S.rf
  have hl := lv_entry ([.ref (ad 0), .int p0, .int p1, .int p2, .int p3, .int p4]) (n := 6) (Nat.le_of_ble_eq_true rfl)
  rw [lg_entry_eq]
  generalize (lg_sl ([.ref (ad 0), .int p0, .int p1, .int p2, .int p3, .int p4]) ++ List.replicate (6 - (lg_sl ([.ref (ad 0), .int p0, .int p1, .int p2, .int p3, .int p4])).length) Slot.unset).toArray = ls at hl ⊢
  have hl : lv_has ls 6 [(0, .ref (ad 0)), (1, .int p0), (2, .int p1), (3, .int p2), (4, .int p3), (5, .int p4)] := hl
  have hts := dr_words hts0 (s.drawn)
  have hK := gKd hK0 (s.drawn)
  have hown : (s.setDrawn (s.drawn)).vm.findClass RX11 = some m.cls := hown0
  refine lv_aload_n hx hb dX11_bracket_0 rfl (lv_at hl 0 rfl) ?_
  refine lv_iload_n hx hb dX11_bracket_1 rfl (lv_at hl 1 rfl) ?_
  refine lv_iload_n hx hb dX11_bracket_2 rfl (lv_at hl 2 rfl) ?_
  refine lv_iload_n hx hb dX11_bracket_3 rfl (lv_at hl 3 rfl) ?_
  have hF := gFree hD hS hA
  refine va_calliD hd0 (va_runS_D (As := [.int p2]) (rest := [.int p1, .int p0, .ref (ad 0)]) ⟨hx, hb, hml, hown, hts⟩ (n_X11_isPrice l dC dI ad cA adK adV s.heap.size σ hI p2) (va_cwS 1 hts gX11_bracket_X11_isPrice rfl rfl rfl (by decide +kernel) ⟨Nat.le_of_ble_eq_true rfl, Nat.le_of_ble_eq_true rfl⟩) ⟨gBlind, gStart (As := [.int p2]) hP hD hK0 hT hS hF (s.drawn)⟩ rfl rfl hl.1 rfl (lv_room (Nat.le_of_ble_eq_true rfl)) dX11_bracket_4 ⟨Nat.le_of_ble_eq_true rfl, Nat.le_of_ble_eq_true rfl⟩) hS (fun q _ h => hF q h) hF (fun r_1 σ1 t H locs ht hvm hw hB hz1 hk1 hS d_2 hd0 => ?_)
  have hts := dr_words hts0 (d_2)
  have hK := gKd hK0 (d_2)
  have hown : (s.setDrawn (d_2)).vm.findClass RX11 = some m.cls := hown0
  obtain ⟨hP, hD⟩ := gBack hF ht hB
  obtain ⟨hIσ1, hro, hp_3⟩ := hw
  subst hro
  refine lv_if_eq (tgt := 26) hx hb dX11_bracket_7 (by decide) (fun c_4 => ?_) (fun c_4 => ?_)
  · refine lv_iconst (v := 0) hx hb dX11_bracket_26 (by decide) ?_
    have hF := gFree hD hS hA
    refine va_calliD hd0 (va_runV_D (As := [.int p0, .int p1, .int 0]) (rest := []) ⟨hx, hb, hml, hown, hts⟩ (n_X11_openSettle l dC dI ad cA adK adV H.size σ hI p0 p1 0) (cwV 3 hts gX11_bracket_X11_openSettle rfl rfl rfl (by decide +kernel) ⟨Nat.le_of_ble_eq_true rfl, Nat.le_of_ble_eq_true rfl⟩) ⟨gBlind, va_recv hK hP (ci := 10) (q0 := 0) rfl (at_10 rfl), gStart (As := [.ref (ad 0), .int p0, .int p1, .int 0]) hP hD hK0 hT hS hF (d_2)⟩ rfl rfl hl.1 rfl (lv_room (Nat.le_of_ble_eq_true rfl)) dX11_bracket_27 ⟨Nat.le_of_ble_eq_true rfl, Nat.le_of_ble_eq_true rfl⟩) hS (fun q _ h => hF q h) hF (fun r_5 σ2 t H locs ht hvm hw hB hz1 hk1 hS d_6 hd0 => ?_)
    have hts := dr_words hts0 (d_6)
    have hK := gKd hK0 (d_6)
    have hown : (s.setDrawn (d_6)).vm.findClass RX11 = some m.cls := hown0
    obtain ⟨hP, hD⟩ := gBack hF ht hB
    obtain ⟨hIσ2, fcσ2, hp_7⟩ := hw
    refine lv_if_ne (tgt := 37) hx hb dX11_bracket_30 (by decide) (fun c_8 => ?_) (fun c_8 => ?_)
    · refine lv_aload_n hx hb dX11_bracket_37 rfl (lv_at hl 0 rfl) ?_
      refine va_get (D := (dC, dI)) (ci := 10) (v := .ref (ad 8)) (C := RX11) (T := TX11) (N := 15) hx hb hts hinX11 hown hK hP 0 (at_10 rfl) rfl 2 (by decide) (hts (.fieldLink RX11 26 "BondCalendars" "bracket" "LBondCalendars$Bracket;") (by decide +kernel)) (fun _ h9 => h9) rfl dX11_bracket_38 ?_
      refine lv_aload_n hx hb dX11_bracket_41 rfl (lv_at hl 0 rfl) ?_
      refine va_get (D := (dC, dI)) (ci := 10) (v := .ref (ad 4)) (C := RX11) (T := TX11) (N := 15) hx hb hts hinX11 hown hK hP 0 (at_10 rfl) rfl 1 (by decide) (hts (.fieldLink RX11 19 "BondCalendars" "settle" "LBondCalendars$Settle;") (by decide +kernel)) (fun _ h9 => h9) rfl dX11_bracket_42 ?_
      refine lv_iload_n hx hb dX11_bracket_45 rfl (lv_at hl 3 rfl) ?_
      have hF := gFree hD hS hA
      refine va_calliD hd0 (va_runV_D (As := [.ref (ad 4), .int p2]) (rest := []) ⟨hx, hb, hml, hown, hts⟩ (n_X2_open l dC dI ad cA adK adV H.size σ2 hIσ2 4 rfl p2) (cwV 2 hts gX11_bracket_X2_open rfl rfl rfl (by decide +kernel) ⟨Nat.le_of_ble_eq_true rfl, Nat.le_of_ble_eq_true rfl⟩) ⟨gBlind, va_recv hK hP (ci := 2) (q0 := 8) rfl (at_2 rfl), gStart (As := [.ref (ad 8), .ref (ad 4), .int p2]) hP hD hK0 hT hS hF (d_6)⟩ rfl rfl hl.1 rfl (lv_room (Nat.le_of_ble_eq_true rfl)) dX11_bracket_46 ⟨Nat.le_of_ble_eq_true rfl, Nat.le_of_ble_eq_true rfl⟩) hS (fun q _ h => hF q h) hF (fun r_9 σ3 t H locs ht hvm hw hB hz1 hk1 hS d_10 hd0 => ?_)
      have hts := dr_words hts0 (d_10)
      have hK := gKd hK0 (d_10)
      have hown : (s.setDrawn (d_10)).vm.findClass RX11 = some m.cls := hown0
      obtain ⟨hP, hD⟩ := gBack hF ht hB
      obtain ⟨hIσ3, fcσ3, hp_11⟩ := hw
      refine lv_if_ne (tgt := 61) hx hb dX11_bracket_49 (by decide) (fun c_12 => ?_) (fun c_12 => ?_)
      · refine lv_aload_n hx hb dX11_bracket_61 rfl (lv_at hl 0 rfl) ?_
        refine va_get (D := (dC, dI)) (ci := 10) (v := .ref (ad 8)) (C := RX11) (T := TX11) (N := 15) hx hb hts hinX11 hown hK hP 0 (at_10 rfl) rfl 2 (by decide) (hts (.fieldLink RX11 26 "BondCalendars" "bracket" "LBondCalendars$Bracket;") (by decide +kernel)) (fun _ h9 => h9) rfl dX11_bracket_62 ?_
        refine lv_iload hx hb dX11_bracket_65 (lv_at hl 4 rfl) ?_
        have hF := gFree hD hS hA
        refine va_callvD hd0 (va_runV_D (As := [.int p3]) (rest := []) ⟨hx, hb, hml, hown, hts⟩ (n_X2_narrowTimes l dC dI ad cA adK adV H.size σ3 hIσ3 p3) (cwV 1 hts gX11_bracket_X2_narrowTimes rfl rfl rfl (by decide +kernel) ⟨Nat.le_of_ble_eq_true rfl, Nat.le_of_ble_eq_true rfl⟩) ⟨gBlind, va_recv hK hP (ci := 2) (q0 := 8) rfl (at_2 rfl), gStart (As := [.ref (ad 8), .int p3]) hP hD hK0 hT hS hF (d_10)⟩ rfl rfl hl.1 rfl (lv_room (Nat.le_of_ble_eq_true rfl)) dX11_bracket_67 ⟨Nat.le_of_ble_eq_true rfl, Nat.le_of_ble_eq_true rfl⟩) hS (fun q _ h => hF q h) hF (fun σ4 t H locs ht hvm hw hB hz1 hk1 hS d_14 hd0 => ?_)
        have hts := dr_words hts0 (d_14)
        have hK := gKd hK0 (d_14)
        have hown : (s.setDrawn (d_14)).vm.findClass RX11 = some m.cls := hown0
        obtain ⟨hP, hD⟩ := gBack hF ht hB
        obtain ⟨hIσ4, fcσ4, hp_15⟩ := hw
        refine lv_iload hx hb dX11_bracket_70 (lv_at hl 5 rfl) ?_
        refine lv_if_eq (tgt := 85) hx hb dX11_bracket_72 (by decide) (fun c_16 => ?_) (fun c_16 => ?_)
        · refine lv_aload_n hx hb dX11_bracket_85 rfl (lv_at hl 0 rfl) ?_
          refine va_get (D := (dC, dI)) (ci := 10) (v := .ref (ad 8)) (C := RX11) (T := TX11) (N := 15) hx hb hts hinX11 hown hK hP 0 (at_10 rfl) rfl 2 (by decide) (hts (.fieldLink RX11 26 "BondCalendars" "bracket" "LBondCalendars$Bracket;") (by decide +kernel)) (fun _ h9 => h9) rfl dX11_bracket_86 ?_
          refine va_get (D := (dC, dI)) (ci := 2) (v := .double ((σ4 8).2.2.1 2)) (C := RX2) (T := TX2) (N := 6) hx hb hts hinX2 hown hK hP 8 (at_2 rfl) rfl 2 (by decide) (hts (.fieldLink RX11 299 "BondCalendars$Bracket" "low" "D") (by decide +kernel)) (fun _ h9 => h9) rfl dX11_bracket_89 ?_
          have hF := gFree hD hS hA
          refine va_calllD hd0 (va_runS_D (As := [.double ((σ4 8).2.2.1 2)]) (rest := []) ⟨hx, hb, hml, hown, hts⟩ (n_X11_bitsOf l dC dI ad cA adK adV H.size σ4 hIσ4 ((σ4 8).2.2.1 2)) (va_cwS 1 hts gX11_bracket_X11_bitsOf rfl rfl rfl (by decide +kernel) ⟨Nat.le_of_ble_eq_true rfl, Nat.le_of_ble_eq_true rfl⟩) ⟨gBlind, gStart (As := [.double ((σ4 8).2.2.1 2)]) hP hD hK0 hT hS hF (d_14)⟩ rfl rfl hl.1 rfl (lv_room (Nat.le_of_ble_eq_true rfl)) dX11_bracket_92 ⟨Nat.le_of_ble_eq_true rfl, Nat.le_of_ble_eq_true rfl⟩) hS (fun q _ h => hF q h) hF (fun r_17 σ5 t H locs ht hvm hw hB hz1 hk1 hS d_18 hd0 => ?_)
          have hts := dr_words hts0 (d_18)
          have hK := gKd hK0 (d_18)
          have hown : (s.setDrawn (d_18)).vm.findClass RX11 = some m.cls := hown0
          obtain ⟨hP, hD⟩ := gBack hF ht hB
          obtain ⟨hIσ5, hro, hp_19⟩ := hw
          subst hro
          refine W.endD hd0 ?_
          exact W.lret (v := r_17) hx hb hr (fun t ht hW => ⟨⟨r_17, σ4, rfl, ⟨hIσ4, (gFr.tr (gFr.tr (gFr.tr (gFr.rfl (L := [2, 5, 7, 10]) (σ := σ)) fcσ2 (by decide)) fcσ3 (by decide)) fcσ4 (by decide)), trivial⟩, ⟨by rw [ht]; exact hP, hD⟩⟩, hS.F ht⟩) hS.2.2 dX11_bracket_95
        · refine lv_aload_n hx hb dX11_bracket_75 rfl (lv_at hl 0 rfl) ?_
          refine va_get (D := (dC, dI)) (ci := 10) (v := .ref (ad 8)) (C := RX11) (T := TX11) (N := 15) hx hb hts hinX11 hown hK hP 0 (at_10 rfl) rfl 2 (by decide) (hts (.fieldLink RX11 26 "BondCalendars" "bracket" "LBondCalendars$Bracket;") (by decide +kernel)) (fun _ h9 => h9) rfl dX11_bracket_76 ?_
          refine va_get (D := (dC, dI)) (ci := 2) (v := .double ((σ4 8).2.2.1 3)) (C := RX2) (T := TX2) (N := 6) hx hb hts hinX2 hown hK hP 8 (at_2 rfl) rfl 3 (by decide) (hts (.fieldLink RX11 295 "BondCalendars$Bracket" "high" "D") (by decide +kernel)) (fun _ h9 => h9) rfl dX11_bracket_79 ?_
          refine lv_goto (tgt := 92) hx hb dX11_bracket_82 (by decide) ?_
          have hF := gFree hD hS hA
          refine va_calllD hd0 (va_runS_D (As := [.double ((σ4 8).2.2.1 3)]) (rest := []) ⟨hx, hb, hml, hown, hts⟩ (n_X11_bitsOf l dC dI ad cA adK adV H.size σ4 hIσ4 ((σ4 8).2.2.1 3)) (va_cwS 1 hts gX11_bracket_X11_bitsOf rfl rfl rfl (by decide +kernel) ⟨Nat.le_of_ble_eq_true rfl, Nat.le_of_ble_eq_true rfl⟩) ⟨gBlind, gStart (As := [.double ((σ4 8).2.2.1 3)]) hP hD hK0 hT hS hF (d_14)⟩ rfl rfl hl.1 rfl (lv_room (Nat.le_of_ble_eq_true rfl)) dX11_bracket_92 ⟨Nat.le_of_ble_eq_true rfl, Nat.le_of_ble_eq_true rfl⟩) hS (fun q _ h => hF q h) hF (fun r_20 σ6 t H locs ht hvm hw hB hz1 hk1 hS d_21 hd0 => ?_)
          have hts := dr_words hts0 (d_21)
          have hK := gKd hK0 (d_21)
          have hown : (s.setDrawn (d_21)).vm.findClass RX11 = some m.cls := hown0
          obtain ⟨hP, hD⟩ := gBack hF ht hB
          obtain ⟨hIσ6, hro, hp_22⟩ := hw
          subst hro
          refine W.endD hd0 ?_
          exact W.lret (v := r_20) hx hb hr (fun t ht hW => ⟨⟨r_20, σ4, rfl, ⟨hIσ4, (gFr.tr (gFr.tr (gFr.tr (gFr.rfl (L := [2, 5, 7, 10]) (σ := σ)) fcσ2 (by decide)) fcσ3 (by decide)) fcσ4 (by decide)), trivial⟩, ⟨by rw [ht]; exact hP, hD⟩⟩, hS.F ht⟩) hS.2.2 dX11_bracket_95
      · refine lv_aload_n hx hb dX11_bracket_52 rfl (lv_at hl 0 rfl) ?_
        refine lv_iconst (v := 5) hx hb dX11_bracket_53 (by decide) ?_
        refine va_put (D := (dC, dI)) (ci := 10) (v := .int 5) (C := RX11) (T := TX11) (N := 15) hx hb hts hinX11 tyX11 tyX11_ok nmX11 hown hK hP hD hS 0 (at_10 rfl) rfl 12 (by decide) (hts (.fieldLink RX11 74 "BondCalendars" "refusal" "I") (by decide +kernel)) (fun _ h9 => h9) rfl (ty := .int) (by decide +kernel) rfl rfl (Nat.le_of_ble_eq_true rfl) dX11_bracket_54 (fun H locs hP hD hS => ?_)
        obtain ⟨σ7, eσ7, hP, hD⟩ := gPut (se_10_12 rfl) hP hD
        have hIσ7 : InvX σ7 := by rw [eσ7]; exact inv_I hIσ3 (ok_10_12 rfl _)
        have frσ7 : gFr [2, 5, 7, 10] σ σ7 := by rw [eσ7]; exact gFr.pI (gFr.tr (gFr.tr (gFr.rfl (L := [2, 5, 7, 10]) (σ := σ)) fcσ2 (by decide)) fcσ3 (by decide)) rfl (by decide)
        refine lv_ldc2 (v := (-9223372036854775808)) hx hb hown (hts (.constantLong RX11 256 (-9223372036854775808)) (by decide +kernel)) dX11_bracket_57 ?_
        refine W.endD hd0 ?_
        exact W.lret (v := (-9223372036854775808)) hx hb hr (fun t ht hW => ⟨⟨(-9223372036854775808), σ7, rfl, ⟨hIσ7, frσ7, trivial⟩, ⟨by rw [ht]; exact hP, hD⟩⟩, hS.F ht⟩) hS.2.2 dX11_bracket_60
    · refine lv_ldc2 (v := (-9223372036854775808)) hx hb hown (hts (.constantLong RX11 256 (-9223372036854775808)) (by decide +kernel)) dX11_bracket_33 ?_
      refine W.endD hd0 ?_
      exact W.lret (v := (-9223372036854775808)) hx hb hr (fun t ht hW => ⟨⟨(-9223372036854775808), σ2, rfl, ⟨hIσ2, (gFr.tr (gFr.rfl (L := [2, 5, 7, 10]) (σ := σ)) fcσ2 (by decide)), trivial⟩, ⟨by rw [ht]; exact hP, hD⟩⟩, hS.F ht⟩) hS.2.2 dX11_bracket_36
  · refine lv_iload hx hb dX11_bracket_10 (lv_at hl 4 rfl) ?_
    refine lv_if_lt (tgt := 26) hx hb dX11_bracket_12 (by decide) (fun c_23 => ?_) (fun c_23 => ?_)
    · refine lv_iconst (v := 0) hx hb dX11_bracket_26 (by decide) ?_
      have hF := gFree hD hS hA
      refine va_calliD hd0 (va_runV_D (As := [.int p0, .int p1, .int 0]) (rest := []) ⟨hx, hb, hml, hown, hts⟩ (n_X11_openSettle l dC dI ad cA adK adV H.size σ hI p0 p1 0) (cwV 3 hts gX11_bracket_X11_openSettle rfl rfl rfl (by decide +kernel) ⟨Nat.le_of_ble_eq_true rfl, Nat.le_of_ble_eq_true rfl⟩) ⟨gBlind, va_recv hK hP (ci := 10) (q0 := 0) rfl (at_10 rfl), gStart (As := [.ref (ad 0), .int p0, .int p1, .int 0]) hP hD hK0 hT hS hF (d_2)⟩ rfl rfl hl.1 rfl (lv_room (Nat.le_of_ble_eq_true rfl)) dX11_bracket_27 ⟨Nat.le_of_ble_eq_true rfl, Nat.le_of_ble_eq_true rfl⟩) hS (fun q _ h => hF q h) hF (fun r_24 σ8 t H locs ht hvm hw hB hz1 hk1 hS d_25 hd0 => ?_)
      have hts := dr_words hts0 (d_25)
      have hK := gKd hK0 (d_25)
      have hown : (s.setDrawn (d_25)).vm.findClass RX11 = some m.cls := hown0
      obtain ⟨hP, hD⟩ := gBack hF ht hB
      obtain ⟨hIσ8, fcσ8, hp_26⟩ := hw
      refine lv_if_ne (tgt := 37) hx hb dX11_bracket_30 (by decide) (fun c_27 => ?_) (fun c_27 => ?_)
      · refine lv_aload_n hx hb dX11_bracket_37 rfl (lv_at hl 0 rfl) ?_
        refine va_get (D := (dC, dI)) (ci := 10) (v := .ref (ad 8)) (C := RX11) (T := TX11) (N := 15) hx hb hts hinX11 hown hK hP 0 (at_10 rfl) rfl 2 (by decide) (hts (.fieldLink RX11 26 "BondCalendars" "bracket" "LBondCalendars$Bracket;") (by decide +kernel)) (fun _ h9 => h9) rfl dX11_bracket_38 ?_
        refine lv_aload_n hx hb dX11_bracket_41 rfl (lv_at hl 0 rfl) ?_
        refine va_get (D := (dC, dI)) (ci := 10) (v := .ref (ad 4)) (C := RX11) (T := TX11) (N := 15) hx hb hts hinX11 hown hK hP 0 (at_10 rfl) rfl 1 (by decide) (hts (.fieldLink RX11 19 "BondCalendars" "settle" "LBondCalendars$Settle;") (by decide +kernel)) (fun _ h9 => h9) rfl dX11_bracket_42 ?_
        refine lv_iload_n hx hb dX11_bracket_45 rfl (lv_at hl 3 rfl) ?_
        have hF := gFree hD hS hA
        refine va_calliD hd0 (va_runV_D (As := [.ref (ad 4), .int p2]) (rest := []) ⟨hx, hb, hml, hown, hts⟩ (n_X2_open l dC dI ad cA adK adV H.size σ8 hIσ8 4 rfl p2) (cwV 2 hts gX11_bracket_X2_open rfl rfl rfl (by decide +kernel) ⟨Nat.le_of_ble_eq_true rfl, Nat.le_of_ble_eq_true rfl⟩) ⟨gBlind, va_recv hK hP (ci := 2) (q0 := 8) rfl (at_2 rfl), gStart (As := [.ref (ad 8), .ref (ad 4), .int p2]) hP hD hK0 hT hS hF (d_25)⟩ rfl rfl hl.1 rfl (lv_room (Nat.le_of_ble_eq_true rfl)) dX11_bracket_46 ⟨Nat.le_of_ble_eq_true rfl, Nat.le_of_ble_eq_true rfl⟩) hS (fun q _ h => hF q h) hF (fun r_28 σ9 t H locs ht hvm hw hB hz1 hk1 hS d_29 hd0 => ?_)
        have hts := dr_words hts0 (d_29)
        have hK := gKd hK0 (d_29)
        have hown : (s.setDrawn (d_29)).vm.findClass RX11 = some m.cls := hown0
        obtain ⟨hP, hD⟩ := gBack hF ht hB
        obtain ⟨hIσ9, fcσ9, hp_30⟩ := hw
        refine lv_if_ne (tgt := 61) hx hb dX11_bracket_49 (by decide) (fun c_31 => ?_) (fun c_31 => ?_)
        · refine lv_aload_n hx hb dX11_bracket_61 rfl (lv_at hl 0 rfl) ?_
          refine va_get (D := (dC, dI)) (ci := 10) (v := .ref (ad 8)) (C := RX11) (T := TX11) (N := 15) hx hb hts hinX11 hown hK hP 0 (at_10 rfl) rfl 2 (by decide) (hts (.fieldLink RX11 26 "BondCalendars" "bracket" "LBondCalendars$Bracket;") (by decide +kernel)) (fun _ h9 => h9) rfl dX11_bracket_62 ?_
          refine lv_iload hx hb dX11_bracket_65 (lv_at hl 4 rfl) ?_
          have hF := gFree hD hS hA
          refine va_callvD hd0 (va_runV_D (As := [.int p3]) (rest := []) ⟨hx, hb, hml, hown, hts⟩ (n_X2_narrowTimes l dC dI ad cA adK adV H.size σ9 hIσ9 p3) (cwV 1 hts gX11_bracket_X2_narrowTimes rfl rfl rfl (by decide +kernel) ⟨Nat.le_of_ble_eq_true rfl, Nat.le_of_ble_eq_true rfl⟩) ⟨gBlind, va_recv hK hP (ci := 2) (q0 := 8) rfl (at_2 rfl), gStart (As := [.ref (ad 8), .int p3]) hP hD hK0 hT hS hF (d_29)⟩ rfl rfl hl.1 rfl (lv_room (Nat.le_of_ble_eq_true rfl)) dX11_bracket_67 ⟨Nat.le_of_ble_eq_true rfl, Nat.le_of_ble_eq_true rfl⟩) hS (fun q _ h => hF q h) hF (fun σ10 t H locs ht hvm hw hB hz1 hk1 hS d_33 hd0 => ?_)
          have hts := dr_words hts0 (d_33)
          have hK := gKd hK0 (d_33)
          have hown : (s.setDrawn (d_33)).vm.findClass RX11 = some m.cls := hown0
          obtain ⟨hP, hD⟩ := gBack hF ht hB
          obtain ⟨hIσ10, fcσ10, hp_34⟩ := hw
          refine lv_iload hx hb dX11_bracket_70 (lv_at hl 5 rfl) ?_
          refine lv_if_eq (tgt := 85) hx hb dX11_bracket_72 (by decide) (fun c_35 => ?_) (fun c_35 => ?_)
          · refine lv_aload_n hx hb dX11_bracket_85 rfl (lv_at hl 0 rfl) ?_
            refine va_get (D := (dC, dI)) (ci := 10) (v := .ref (ad 8)) (C := RX11) (T := TX11) (N := 15) hx hb hts hinX11 hown hK hP 0 (at_10 rfl) rfl 2 (by decide) (hts (.fieldLink RX11 26 "BondCalendars" "bracket" "LBondCalendars$Bracket;") (by decide +kernel)) (fun _ h9 => h9) rfl dX11_bracket_86 ?_
            refine va_get (D := (dC, dI)) (ci := 2) (v := .double ((σ10 8).2.2.1 2)) (C := RX2) (T := TX2) (N := 6) hx hb hts hinX2 hown hK hP 8 (at_2 rfl) rfl 2 (by decide) (hts (.fieldLink RX11 299 "BondCalendars$Bracket" "low" "D") (by decide +kernel)) (fun _ h9 => h9) rfl dX11_bracket_89 ?_
            have hF := gFree hD hS hA
            refine va_calllD hd0 (va_runS_D (As := [.double ((σ10 8).2.2.1 2)]) (rest := []) ⟨hx, hb, hml, hown, hts⟩ (n_X11_bitsOf l dC dI ad cA adK adV H.size σ10 hIσ10 ((σ10 8).2.2.1 2)) (va_cwS 1 hts gX11_bracket_X11_bitsOf rfl rfl rfl (by decide +kernel) ⟨Nat.le_of_ble_eq_true rfl, Nat.le_of_ble_eq_true rfl⟩) ⟨gBlind, gStart (As := [.double ((σ10 8).2.2.1 2)]) hP hD hK0 hT hS hF (d_33)⟩ rfl rfl hl.1 rfl (lv_room (Nat.le_of_ble_eq_true rfl)) dX11_bracket_92 ⟨Nat.le_of_ble_eq_true rfl, Nat.le_of_ble_eq_true rfl⟩) hS (fun q _ h => hF q h) hF (fun r_36 σ11 t H locs ht hvm hw hB hz1 hk1 hS d_37 hd0 => ?_)
            have hts := dr_words hts0 (d_37)
            have hK := gKd hK0 (d_37)
            have hown : (s.setDrawn (d_37)).vm.findClass RX11 = some m.cls := hown0
            obtain ⟨hP, hD⟩ := gBack hF ht hB
            obtain ⟨hIσ11, hro, hp_38⟩ := hw
            subst hro
            refine W.endD hd0 ?_
            exact W.lret (v := r_36) hx hb hr (fun t ht hW => ⟨⟨r_36, σ10, rfl, ⟨hIσ10, (gFr.tr (gFr.tr (gFr.tr (gFr.rfl (L := [2, 5, 7, 10]) (σ := σ)) fcσ8 (by decide)) fcσ9 (by decide)) fcσ10 (by decide)), trivial⟩, ⟨by rw [ht]; exact hP, hD⟩⟩, hS.F ht⟩) hS.2.2 dX11_bracket_95
          · refine lv_aload_n hx hb dX11_bracket_75 rfl (lv_at hl 0 rfl) ?_
            refine va_get (D := (dC, dI)) (ci := 10) (v := .ref (ad 8)) (C := RX11) (T := TX11) (N := 15) hx hb hts hinX11 hown hK hP 0 (at_10 rfl) rfl 2 (by decide) (hts (.fieldLink RX11 26 "BondCalendars" "bracket" "LBondCalendars$Bracket;") (by decide +kernel)) (fun _ h9 => h9) rfl dX11_bracket_76 ?_
            refine va_get (D := (dC, dI)) (ci := 2) (v := .double ((σ10 8).2.2.1 3)) (C := RX2) (T := TX2) (N := 6) hx hb hts hinX2 hown hK hP 8 (at_2 rfl) rfl 3 (by decide) (hts (.fieldLink RX11 295 "BondCalendars$Bracket" "high" "D") (by decide +kernel)) (fun _ h9 => h9) rfl dX11_bracket_79 ?_
            refine lv_goto (tgt := 92) hx hb dX11_bracket_82 (by decide) ?_
            have hF := gFree hD hS hA
            refine va_calllD hd0 (va_runS_D (As := [.double ((σ10 8).2.2.1 3)]) (rest := []) ⟨hx, hb, hml, hown, hts⟩ (n_X11_bitsOf l dC dI ad cA adK adV H.size σ10 hIσ10 ((σ10 8).2.2.1 3)) (va_cwS 1 hts gX11_bracket_X11_bitsOf rfl rfl rfl (by decide +kernel) ⟨Nat.le_of_ble_eq_true rfl, Nat.le_of_ble_eq_true rfl⟩) ⟨gBlind, gStart (As := [.double ((σ10 8).2.2.1 3)]) hP hD hK0 hT hS hF (d_33)⟩ rfl rfl hl.1 rfl (lv_room (Nat.le_of_ble_eq_true rfl)) dX11_bracket_92 ⟨Nat.le_of_ble_eq_true rfl, Nat.le_of_ble_eq_true rfl⟩) hS (fun q _ h => hF q h) hF (fun r_39 σ12 t H locs ht hvm hw hB hz1 hk1 hS d_40 hd0 => ?_)
            have hts := dr_words hts0 (d_40)
            have hK := gKd hK0 (d_40)
            have hown : (s.setDrawn (d_40)).vm.findClass RX11 = some m.cls := hown0
            obtain ⟨hP, hD⟩ := gBack hF ht hB
            obtain ⟨hIσ12, hro, hp_41⟩ := hw
            subst hro
            refine W.endD hd0 ?_
            exact W.lret (v := r_39) hx hb hr (fun t ht hW => ⟨⟨r_39, σ10, rfl, ⟨hIσ10, (gFr.tr (gFr.tr (gFr.tr (gFr.rfl (L := [2, 5, 7, 10]) (σ := σ)) fcσ8 (by decide)) fcσ9 (by decide)) fcσ10 (by decide)), trivial⟩, ⟨by rw [ht]; exact hP, hD⟩⟩, hS.F ht⟩) hS.2.2 dX11_bracket_95
        · refine lv_aload_n hx hb dX11_bracket_52 rfl (lv_at hl 0 rfl) ?_
          refine lv_iconst (v := 5) hx hb dX11_bracket_53 (by decide) ?_
          refine va_put (D := (dC, dI)) (ci := 10) (v := .int 5) (C := RX11) (T := TX11) (N := 15) hx hb hts hinX11 tyX11 tyX11_ok nmX11 hown hK hP hD hS 0 (at_10 rfl) rfl 12 (by decide) (hts (.fieldLink RX11 74 "BondCalendars" "refusal" "I") (by decide +kernel)) (fun _ h9 => h9) rfl (ty := .int) (by decide +kernel) rfl rfl (Nat.le_of_ble_eq_true rfl) dX11_bracket_54 (fun H locs hP hD hS => ?_)
          obtain ⟨σ13, eσ13, hP, hD⟩ := gPut (se_10_12 rfl) hP hD
          have hIσ13 : InvX σ13 := by rw [eσ13]; exact inv_I hIσ9 (ok_10_12 rfl _)
          have frσ13 : gFr [2, 5, 7, 10] σ σ13 := by rw [eσ13]; exact gFr.pI (gFr.tr (gFr.tr (gFr.rfl (L := [2, 5, 7, 10]) (σ := σ)) fcσ8 (by decide)) fcσ9 (by decide)) rfl (by decide)
          refine lv_ldc2 (v := (-9223372036854775808)) hx hb hown (hts (.constantLong RX11 256 (-9223372036854775808)) (by decide +kernel)) dX11_bracket_57 ?_
          refine W.endD hd0 ?_
          exact W.lret (v := (-9223372036854775808)) hx hb hr (fun t ht hW => ⟨⟨(-9223372036854775808), σ13, rfl, ⟨hIσ13, frσ13, trivial⟩, ⟨by rw [ht]; exact hP, hD⟩⟩, hS.F ht⟩) hS.2.2 dX11_bracket_60
      · refine lv_ldc2 (v := (-9223372036854775808)) hx hb hown (hts (.constantLong RX11 256 (-9223372036854775808)) (by decide +kernel)) dX11_bracket_33 ?_
        refine W.endD hd0 ?_
        exact W.lret (v := (-9223372036854775808)) hx hb hr (fun t ht hW => ⟨⟨(-9223372036854775808), σ8, rfl, ⟨hIσ8, (gFr.tr (gFr.rfl (L := [2, 5, 7, 10]) (σ := σ)) fcσ8 (by decide)), trivial⟩, ⟨by rw [ht]; exact hP, hD⟩⟩, hS.F ht⟩) hS.2.2 dX11_bracket_36
    · refine lv_iload hx hb dX11_bracket_15 (lv_at hl 4 rfl) ?_
      refine lv_bipush (v := 60) hx hb dX11_bracket_17 (by decide) ?_
      refine lv_icmp_gt (tgt := 26) hx hb dX11_bracket_19 (by decide) (fun c_42 => ?_) (fun c_42 => ?_)
      · refine lv_iconst (v := 0) hx hb dX11_bracket_26 (by decide) ?_
        have hF := gFree hD hS hA
        refine va_calliD hd0 (va_runV_D (As := [.int p0, .int p1, .int 0]) (rest := []) ⟨hx, hb, hml, hown, hts⟩ (n_X11_openSettle l dC dI ad cA adK adV H.size σ hI p0 p1 0) (cwV 3 hts gX11_bracket_X11_openSettle rfl rfl rfl (by decide +kernel) ⟨Nat.le_of_ble_eq_true rfl, Nat.le_of_ble_eq_true rfl⟩) ⟨gBlind, va_recv hK hP (ci := 10) (q0 := 0) rfl (at_10 rfl), gStart (As := [.ref (ad 0), .int p0, .int p1, .int 0]) hP hD hK0 hT hS hF (d_2)⟩ rfl rfl hl.1 rfl (lv_room (Nat.le_of_ble_eq_true rfl)) dX11_bracket_27 ⟨Nat.le_of_ble_eq_true rfl, Nat.le_of_ble_eq_true rfl⟩) hS (fun q _ h => hF q h) hF (fun r_43 σ14 t H locs ht hvm hw hB hz1 hk1 hS d_44 hd0 => ?_)
        have hts := dr_words hts0 (d_44)
        have hK := gKd hK0 (d_44)
        have hown : (s.setDrawn (d_44)).vm.findClass RX11 = some m.cls := hown0
        obtain ⟨hP, hD⟩ := gBack hF ht hB
        obtain ⟨hIσ14, fcσ14, hp_45⟩ := hw
        refine lv_if_ne (tgt := 37) hx hb dX11_bracket_30 (by decide) (fun c_46 => ?_) (fun c_46 => ?_)
        · refine lv_aload_n hx hb dX11_bracket_37 rfl (lv_at hl 0 rfl) ?_
          refine va_get (D := (dC, dI)) (ci := 10) (v := .ref (ad 8)) (C := RX11) (T := TX11) (N := 15) hx hb hts hinX11 hown hK hP 0 (at_10 rfl) rfl 2 (by decide) (hts (.fieldLink RX11 26 "BondCalendars" "bracket" "LBondCalendars$Bracket;") (by decide +kernel)) (fun _ h9 => h9) rfl dX11_bracket_38 ?_
          refine lv_aload_n hx hb dX11_bracket_41 rfl (lv_at hl 0 rfl) ?_
          refine va_get (D := (dC, dI)) (ci := 10) (v := .ref (ad 4)) (C := RX11) (T := TX11) (N := 15) hx hb hts hinX11 hown hK hP 0 (at_10 rfl) rfl 1 (by decide) (hts (.fieldLink RX11 19 "BondCalendars" "settle" "LBondCalendars$Settle;") (by decide +kernel)) (fun _ h9 => h9) rfl dX11_bracket_42 ?_
          refine lv_iload_n hx hb dX11_bracket_45 rfl (lv_at hl 3 rfl) ?_
          have hF := gFree hD hS hA
          refine va_calliD hd0 (va_runV_D (As := [.ref (ad 4), .int p2]) (rest := []) ⟨hx, hb, hml, hown, hts⟩ (n_X2_open l dC dI ad cA adK adV H.size σ14 hIσ14 4 rfl p2) (cwV 2 hts gX11_bracket_X2_open rfl rfl rfl (by decide +kernel) ⟨Nat.le_of_ble_eq_true rfl, Nat.le_of_ble_eq_true rfl⟩) ⟨gBlind, va_recv hK hP (ci := 2) (q0 := 8) rfl (at_2 rfl), gStart (As := [.ref (ad 8), .ref (ad 4), .int p2]) hP hD hK0 hT hS hF (d_44)⟩ rfl rfl hl.1 rfl (lv_room (Nat.le_of_ble_eq_true rfl)) dX11_bracket_46 ⟨Nat.le_of_ble_eq_true rfl, Nat.le_of_ble_eq_true rfl⟩) hS (fun q _ h => hF q h) hF (fun r_47 σ15 t H locs ht hvm hw hB hz1 hk1 hS d_48 hd0 => ?_)
          have hts := dr_words hts0 (d_48)
          have hK := gKd hK0 (d_48)
          have hown : (s.setDrawn (d_48)).vm.findClass RX11 = some m.cls := hown0
          obtain ⟨hP, hD⟩ := gBack hF ht hB
          obtain ⟨hIσ15, fcσ15, hp_49⟩ := hw
          refine lv_if_ne (tgt := 61) hx hb dX11_bracket_49 (by decide) (fun c_50 => ?_) (fun c_50 => ?_)
          · refine lv_aload_n hx hb dX11_bracket_61 rfl (lv_at hl 0 rfl) ?_
            refine va_get (D := (dC, dI)) (ci := 10) (v := .ref (ad 8)) (C := RX11) (T := TX11) (N := 15) hx hb hts hinX11 hown hK hP 0 (at_10 rfl) rfl 2 (by decide) (hts (.fieldLink RX11 26 "BondCalendars" "bracket" "LBondCalendars$Bracket;") (by decide +kernel)) (fun _ h9 => h9) rfl dX11_bracket_62 ?_
            refine lv_iload hx hb dX11_bracket_65 (lv_at hl 4 rfl) ?_
            have hF := gFree hD hS hA
            refine va_callvD hd0 (va_runV_D (As := [.int p3]) (rest := []) ⟨hx, hb, hml, hown, hts⟩ (n_X2_narrowTimes l dC dI ad cA adK adV H.size σ15 hIσ15 p3) (cwV 1 hts gX11_bracket_X2_narrowTimes rfl rfl rfl (by decide +kernel) ⟨Nat.le_of_ble_eq_true rfl, Nat.le_of_ble_eq_true rfl⟩) ⟨gBlind, va_recv hK hP (ci := 2) (q0 := 8) rfl (at_2 rfl), gStart (As := [.ref (ad 8), .int p3]) hP hD hK0 hT hS hF (d_48)⟩ rfl rfl hl.1 rfl (lv_room (Nat.le_of_ble_eq_true rfl)) dX11_bracket_67 ⟨Nat.le_of_ble_eq_true rfl, Nat.le_of_ble_eq_true rfl⟩) hS (fun q _ h => hF q h) hF (fun σ16 t H locs ht hvm hw hB hz1 hk1 hS d_52 hd0 => ?_)
            have hts := dr_words hts0 (d_52)
            have hK := gKd hK0 (d_52)
            have hown : (s.setDrawn (d_52)).vm.findClass RX11 = some m.cls := hown0
            obtain ⟨hP, hD⟩ := gBack hF ht hB
            obtain ⟨hIσ16, fcσ16, hp_53⟩ := hw
            refine lv_iload hx hb dX11_bracket_70 (lv_at hl 5 rfl) ?_
            refine lv_if_eq (tgt := 85) hx hb dX11_bracket_72 (by decide) (fun c_54 => ?_) (fun c_54 => ?_)
            · refine lv_aload_n hx hb dX11_bracket_85 rfl (lv_at hl 0 rfl) ?_
              refine va_get (D := (dC, dI)) (ci := 10) (v := .ref (ad 8)) (C := RX11) (T := TX11) (N := 15) hx hb hts hinX11 hown hK hP 0 (at_10 rfl) rfl 2 (by decide) (hts (.fieldLink RX11 26 "BondCalendars" "bracket" "LBondCalendars$Bracket;") (by decide +kernel)) (fun _ h9 => h9) rfl dX11_bracket_86 ?_
              refine va_get (D := (dC, dI)) (ci := 2) (v := .double ((σ16 8).2.2.1 2)) (C := RX2) (T := TX2) (N := 6) hx hb hts hinX2 hown hK hP 8 (at_2 rfl) rfl 2 (by decide) (hts (.fieldLink RX11 299 "BondCalendars$Bracket" "low" "D") (by decide +kernel)) (fun _ h9 => h9) rfl dX11_bracket_89 ?_
              have hF := gFree hD hS hA
              refine va_calllD hd0 (va_runS_D (As := [.double ((σ16 8).2.2.1 2)]) (rest := []) ⟨hx, hb, hml, hown, hts⟩ (n_X11_bitsOf l dC dI ad cA adK adV H.size σ16 hIσ16 ((σ16 8).2.2.1 2)) (va_cwS 1 hts gX11_bracket_X11_bitsOf rfl rfl rfl (by decide +kernel) ⟨Nat.le_of_ble_eq_true rfl, Nat.le_of_ble_eq_true rfl⟩) ⟨gBlind, gStart (As := [.double ((σ16 8).2.2.1 2)]) hP hD hK0 hT hS hF (d_52)⟩ rfl rfl hl.1 rfl (lv_room (Nat.le_of_ble_eq_true rfl)) dX11_bracket_92 ⟨Nat.le_of_ble_eq_true rfl, Nat.le_of_ble_eq_true rfl⟩) hS (fun q _ h => hF q h) hF (fun r_55 σ17 t H locs ht hvm hw hB hz1 hk1 hS d_56 hd0 => ?_)
              have hts := dr_words hts0 (d_56)
              have hK := gKd hK0 (d_56)
              have hown : (s.setDrawn (d_56)).vm.findClass RX11 = some m.cls := hown0
              obtain ⟨hP, hD⟩ := gBack hF ht hB
              obtain ⟨hIσ17, hro, hp_57⟩ := hw
              subst hro
              refine W.endD hd0 ?_
              exact W.lret (v := r_55) hx hb hr (fun t ht hW => ⟨⟨r_55, σ16, rfl, ⟨hIσ16, (gFr.tr (gFr.tr (gFr.tr (gFr.rfl (L := [2, 5, 7, 10]) (σ := σ)) fcσ14 (by decide)) fcσ15 (by decide)) fcσ16 (by decide)), trivial⟩, ⟨by rw [ht]; exact hP, hD⟩⟩, hS.F ht⟩) hS.2.2 dX11_bracket_95
            · refine lv_aload_n hx hb dX11_bracket_75 rfl (lv_at hl 0 rfl) ?_
              refine va_get (D := (dC, dI)) (ci := 10) (v := .ref (ad 8)) (C := RX11) (T := TX11) (N := 15) hx hb hts hinX11 hown hK hP 0 (at_10 rfl) rfl 2 (by decide) (hts (.fieldLink RX11 26 "BondCalendars" "bracket" "LBondCalendars$Bracket;") (by decide +kernel)) (fun _ h9 => h9) rfl dX11_bracket_76 ?_
              refine va_get (D := (dC, dI)) (ci := 2) (v := .double ((σ16 8).2.2.1 3)) (C := RX2) (T := TX2) (N := 6) hx hb hts hinX2 hown hK hP 8 (at_2 rfl) rfl 3 (by decide) (hts (.fieldLink RX11 295 "BondCalendars$Bracket" "high" "D") (by decide +kernel)) (fun _ h9 => h9) rfl dX11_bracket_79 ?_
              refine lv_goto (tgt := 92) hx hb dX11_bracket_82 (by decide) ?_
              have hF := gFree hD hS hA
              refine va_calllD hd0 (va_runS_D (As := [.double ((σ16 8).2.2.1 3)]) (rest := []) ⟨hx, hb, hml, hown, hts⟩ (n_X11_bitsOf l dC dI ad cA adK adV H.size σ16 hIσ16 ((σ16 8).2.2.1 3)) (va_cwS 1 hts gX11_bracket_X11_bitsOf rfl rfl rfl (by decide +kernel) ⟨Nat.le_of_ble_eq_true rfl, Nat.le_of_ble_eq_true rfl⟩) ⟨gBlind, gStart (As := [.double ((σ16 8).2.2.1 3)]) hP hD hK0 hT hS hF (d_52)⟩ rfl rfl hl.1 rfl (lv_room (Nat.le_of_ble_eq_true rfl)) dX11_bracket_92 ⟨Nat.le_of_ble_eq_true rfl, Nat.le_of_ble_eq_true rfl⟩) hS (fun q _ h => hF q h) hF (fun r_58 σ18 t H locs ht hvm hw hB hz1 hk1 hS d_59 hd0 => ?_)
              have hts := dr_words hts0 (d_59)
              have hK := gKd hK0 (d_59)
              have hown : (s.setDrawn (d_59)).vm.findClass RX11 = some m.cls := hown0
              obtain ⟨hP, hD⟩ := gBack hF ht hB
              obtain ⟨hIσ18, hro, hp_60⟩ := hw
              subst hro
              refine W.endD hd0 ?_
              exact W.lret (v := r_58) hx hb hr (fun t ht hW => ⟨⟨r_58, σ16, rfl, ⟨hIσ16, (gFr.tr (gFr.tr (gFr.tr (gFr.rfl (L := [2, 5, 7, 10]) (σ := σ)) fcσ14 (by decide)) fcσ15 (by decide)) fcσ16 (by decide)), trivial⟩, ⟨by rw [ht]; exact hP, hD⟩⟩, hS.F ht⟩) hS.2.2 dX11_bracket_95
          · refine lv_aload_n hx hb dX11_bracket_52 rfl (lv_at hl 0 rfl) ?_
            refine lv_iconst (v := 5) hx hb dX11_bracket_53 (by decide) ?_
            refine va_put (D := (dC, dI)) (ci := 10) (v := .int 5) (C := RX11) (T := TX11) (N := 15) hx hb hts hinX11 tyX11 tyX11_ok nmX11 hown hK hP hD hS 0 (at_10 rfl) rfl 12 (by decide) (hts (.fieldLink RX11 74 "BondCalendars" "refusal" "I") (by decide +kernel)) (fun _ h9 => h9) rfl (ty := .int) (by decide +kernel) rfl rfl (Nat.le_of_ble_eq_true rfl) dX11_bracket_54 (fun H locs hP hD hS => ?_)
            obtain ⟨σ19, eσ19, hP, hD⟩ := gPut (se_10_12 rfl) hP hD
            have hIσ19 : InvX σ19 := by rw [eσ19]; exact inv_I hIσ15 (ok_10_12 rfl _)
            have frσ19 : gFr [2, 5, 7, 10] σ σ19 := by rw [eσ19]; exact gFr.pI (gFr.tr (gFr.tr (gFr.rfl (L := [2, 5, 7, 10]) (σ := σ)) fcσ14 (by decide)) fcσ15 (by decide)) rfl (by decide)
            refine lv_ldc2 (v := (-9223372036854775808)) hx hb hown (hts (.constantLong RX11 256 (-9223372036854775808)) (by decide +kernel)) dX11_bracket_57 ?_
            refine W.endD hd0 ?_
            exact W.lret (v := (-9223372036854775808)) hx hb hr (fun t ht hW => ⟨⟨(-9223372036854775808), σ19, rfl, ⟨hIσ19, frσ19, trivial⟩, ⟨by rw [ht]; exact hP, hD⟩⟩, hS.F ht⟩) hS.2.2 dX11_bracket_60
        · refine lv_ldc2 (v := (-9223372036854775808)) hx hb hown (hts (.constantLong RX11 256 (-9223372036854775808)) (by decide +kernel)) dX11_bracket_33 ?_
          refine W.endD hd0 ?_
          exact W.lret (v := (-9223372036854775808)) hx hb hr (fun t ht hW => ⟨⟨(-9223372036854775808), σ14, rfl, ⟨hIσ14, (gFr.tr (gFr.rfl (L := [2, 5, 7, 10]) (σ := σ)) fcσ14 (by decide)), trivial⟩, ⟨by rw [ht]; exact hP, hD⟩⟩, hS.F ht⟩) hS.2.2 dX11_bracket_36
      · refine lv_iconst (v := 1) hx hb dX11_bracket_22 (by decide) ?_
        refine lv_goto (tgt := 27) hx hb dX11_bracket_23 (by decide) ?_
        have hF := gFree hD hS hA
        refine va_calliD hd0 (va_runV_D (As := [.int p0, .int p1, .int 1]) (rest := []) ⟨hx, hb, hml, hown, hts⟩ (n_X11_openSettle l dC dI ad cA adK adV H.size σ hI p0 p1 1) (cwV 3 hts gX11_bracket_X11_openSettle rfl rfl rfl (by decide +kernel) ⟨Nat.le_of_ble_eq_true rfl, Nat.le_of_ble_eq_true rfl⟩) ⟨gBlind, va_recv hK hP (ci := 10) (q0 := 0) rfl (at_10 rfl), gStart (As := [.ref (ad 0), .int p0, .int p1, .int 1]) hP hD hK0 hT hS hF (d_2)⟩ rfl rfl hl.1 rfl (lv_room (Nat.le_of_ble_eq_true rfl)) dX11_bracket_27 ⟨Nat.le_of_ble_eq_true rfl, Nat.le_of_ble_eq_true rfl⟩) hS (fun q _ h => hF q h) hF (fun r_61 σ20 t H locs ht hvm hw hB hz1 hk1 hS d_62 hd0 => ?_)
        have hts := dr_words hts0 (d_62)
        have hK := gKd hK0 (d_62)
        have hown : (s.setDrawn (d_62)).vm.findClass RX11 = some m.cls := hown0
        obtain ⟨hP, hD⟩ := gBack hF ht hB
        obtain ⟨hIσ20, fcσ20, hp_63⟩ := hw
        refine lv_if_ne (tgt := 37) hx hb dX11_bracket_30 (by decide) (fun c_64 => ?_) (fun c_64 => ?_)
        · refine lv_aload_n hx hb dX11_bracket_37 rfl (lv_at hl 0 rfl) ?_
          refine va_get (D := (dC, dI)) (ci := 10) (v := .ref (ad 8)) (C := RX11) (T := TX11) (N := 15) hx hb hts hinX11 hown hK hP 0 (at_10 rfl) rfl 2 (by decide) (hts (.fieldLink RX11 26 "BondCalendars" "bracket" "LBondCalendars$Bracket;") (by decide +kernel)) (fun _ h9 => h9) rfl dX11_bracket_38 ?_
          refine lv_aload_n hx hb dX11_bracket_41 rfl (lv_at hl 0 rfl) ?_
          refine va_get (D := (dC, dI)) (ci := 10) (v := .ref (ad 4)) (C := RX11) (T := TX11) (N := 15) hx hb hts hinX11 hown hK hP 0 (at_10 rfl) rfl 1 (by decide) (hts (.fieldLink RX11 19 "BondCalendars" "settle" "LBondCalendars$Settle;") (by decide +kernel)) (fun _ h9 => h9) rfl dX11_bracket_42 ?_
          refine lv_iload_n hx hb dX11_bracket_45 rfl (lv_at hl 3 rfl) ?_
          have hF := gFree hD hS hA
          refine va_calliD hd0 (va_runV_D (As := [.ref (ad 4), .int p2]) (rest := []) ⟨hx, hb, hml, hown, hts⟩ (n_X2_open l dC dI ad cA adK adV H.size σ20 hIσ20 4 rfl p2) (cwV 2 hts gX11_bracket_X2_open rfl rfl rfl (by decide +kernel) ⟨Nat.le_of_ble_eq_true rfl, Nat.le_of_ble_eq_true rfl⟩) ⟨gBlind, va_recv hK hP (ci := 2) (q0 := 8) rfl (at_2 rfl), gStart (As := [.ref (ad 8), .ref (ad 4), .int p2]) hP hD hK0 hT hS hF (d_62)⟩ rfl rfl hl.1 rfl (lv_room (Nat.le_of_ble_eq_true rfl)) dX11_bracket_46 ⟨Nat.le_of_ble_eq_true rfl, Nat.le_of_ble_eq_true rfl⟩) hS (fun q _ h => hF q h) hF (fun r_65 σ21 t H locs ht hvm hw hB hz1 hk1 hS d_66 hd0 => ?_)
          have hts := dr_words hts0 (d_66)
          have hK := gKd hK0 (d_66)
          have hown : (s.setDrawn (d_66)).vm.findClass RX11 = some m.cls := hown0
          obtain ⟨hP, hD⟩ := gBack hF ht hB
          obtain ⟨hIσ21, fcσ21, hp_67⟩ := hw
          refine lv_if_ne (tgt := 61) hx hb dX11_bracket_49 (by decide) (fun c_68 => ?_) (fun c_68 => ?_)
          · refine lv_aload_n hx hb dX11_bracket_61 rfl (lv_at hl 0 rfl) ?_
            refine va_get (D := (dC, dI)) (ci := 10) (v := .ref (ad 8)) (C := RX11) (T := TX11) (N := 15) hx hb hts hinX11 hown hK hP 0 (at_10 rfl) rfl 2 (by decide) (hts (.fieldLink RX11 26 "BondCalendars" "bracket" "LBondCalendars$Bracket;") (by decide +kernel)) (fun _ h9 => h9) rfl dX11_bracket_62 ?_
            refine lv_iload hx hb dX11_bracket_65 (lv_at hl 4 rfl) ?_
            have hF := gFree hD hS hA
            refine va_callvD hd0 (va_runV_D (As := [.int p3]) (rest := []) ⟨hx, hb, hml, hown, hts⟩ (n_X2_narrowTimes l dC dI ad cA adK adV H.size σ21 hIσ21 p3) (cwV 1 hts gX11_bracket_X2_narrowTimes rfl rfl rfl (by decide +kernel) ⟨Nat.le_of_ble_eq_true rfl, Nat.le_of_ble_eq_true rfl⟩) ⟨gBlind, va_recv hK hP (ci := 2) (q0 := 8) rfl (at_2 rfl), gStart (As := [.ref (ad 8), .int p3]) hP hD hK0 hT hS hF (d_66)⟩ rfl rfl hl.1 rfl (lv_room (Nat.le_of_ble_eq_true rfl)) dX11_bracket_67 ⟨Nat.le_of_ble_eq_true rfl, Nat.le_of_ble_eq_true rfl⟩) hS (fun q _ h => hF q h) hF (fun σ22 t H locs ht hvm hw hB hz1 hk1 hS d_70 hd0 => ?_)
            have hts := dr_words hts0 (d_70)
            have hK := gKd hK0 (d_70)
            have hown : (s.setDrawn (d_70)).vm.findClass RX11 = some m.cls := hown0
            obtain ⟨hP, hD⟩ := gBack hF ht hB
            obtain ⟨hIσ22, fcσ22, hp_71⟩ := hw
            refine lv_iload hx hb dX11_bracket_70 (lv_at hl 5 rfl) ?_
            refine lv_if_eq (tgt := 85) hx hb dX11_bracket_72 (by decide) (fun c_72 => ?_) (fun c_72 => ?_)
            · refine lv_aload_n hx hb dX11_bracket_85 rfl (lv_at hl 0 rfl) ?_
              refine va_get (D := (dC, dI)) (ci := 10) (v := .ref (ad 8)) (C := RX11) (T := TX11) (N := 15) hx hb hts hinX11 hown hK hP 0 (at_10 rfl) rfl 2 (by decide) (hts (.fieldLink RX11 26 "BondCalendars" "bracket" "LBondCalendars$Bracket;") (by decide +kernel)) (fun _ h9 => h9) rfl dX11_bracket_86 ?_
              refine va_get (D := (dC, dI)) (ci := 2) (v := .double ((σ22 8).2.2.1 2)) (C := RX2) (T := TX2) (N := 6) hx hb hts hinX2 hown hK hP 8 (at_2 rfl) rfl 2 (by decide) (hts (.fieldLink RX11 299 "BondCalendars$Bracket" "low" "D") (by decide +kernel)) (fun _ h9 => h9) rfl dX11_bracket_89 ?_
              have hF := gFree hD hS hA
              refine va_calllD hd0 (va_runS_D (As := [.double ((σ22 8).2.2.1 2)]) (rest := []) ⟨hx, hb, hml, hown, hts⟩ (n_X11_bitsOf l dC dI ad cA adK adV H.size σ22 hIσ22 ((σ22 8).2.2.1 2)) (va_cwS 1 hts gX11_bracket_X11_bitsOf rfl rfl rfl (by decide +kernel) ⟨Nat.le_of_ble_eq_true rfl, Nat.le_of_ble_eq_true rfl⟩) ⟨gBlind, gStart (As := [.double ((σ22 8).2.2.1 2)]) hP hD hK0 hT hS hF (d_70)⟩ rfl rfl hl.1 rfl (lv_room (Nat.le_of_ble_eq_true rfl)) dX11_bracket_92 ⟨Nat.le_of_ble_eq_true rfl, Nat.le_of_ble_eq_true rfl⟩) hS (fun q _ h => hF q h) hF (fun r_73 σ23 t H locs ht hvm hw hB hz1 hk1 hS d_74 hd0 => ?_)
              have hts := dr_words hts0 (d_74)
              have hK := gKd hK0 (d_74)
              have hown : (s.setDrawn (d_74)).vm.findClass RX11 = some m.cls := hown0
              obtain ⟨hP, hD⟩ := gBack hF ht hB
              obtain ⟨hIσ23, hro, hp_75⟩ := hw
              subst hro
              refine W.endD hd0 ?_
              exact W.lret (v := r_73) hx hb hr (fun t ht hW => ⟨⟨r_73, σ22, rfl, ⟨hIσ22, (gFr.tr (gFr.tr (gFr.tr (gFr.rfl (L := [2, 5, 7, 10]) (σ := σ)) fcσ20 (by decide)) fcσ21 (by decide)) fcσ22 (by decide)), trivial⟩, ⟨by rw [ht]; exact hP, hD⟩⟩, hS.F ht⟩) hS.2.2 dX11_bracket_95
            · refine lv_aload_n hx hb dX11_bracket_75 rfl (lv_at hl 0 rfl) ?_
              refine va_get (D := (dC, dI)) (ci := 10) (v := .ref (ad 8)) (C := RX11) (T := TX11) (N := 15) hx hb hts hinX11 hown hK hP 0 (at_10 rfl) rfl 2 (by decide) (hts (.fieldLink RX11 26 "BondCalendars" "bracket" "LBondCalendars$Bracket;") (by decide +kernel)) (fun _ h9 => h9) rfl dX11_bracket_76 ?_
              refine va_get (D := (dC, dI)) (ci := 2) (v := .double ((σ22 8).2.2.1 3)) (C := RX2) (T := TX2) (N := 6) hx hb hts hinX2 hown hK hP 8 (at_2 rfl) rfl 3 (by decide) (hts (.fieldLink RX11 295 "BondCalendars$Bracket" "high" "D") (by decide +kernel)) (fun _ h9 => h9) rfl dX11_bracket_79 ?_
              refine lv_goto (tgt := 92) hx hb dX11_bracket_82 (by decide) ?_
              have hF := gFree hD hS hA
              refine va_calllD hd0 (va_runS_D (As := [.double ((σ22 8).2.2.1 3)]) (rest := []) ⟨hx, hb, hml, hown, hts⟩ (n_X11_bitsOf l dC dI ad cA adK adV H.size σ22 hIσ22 ((σ22 8).2.2.1 3)) (va_cwS 1 hts gX11_bracket_X11_bitsOf rfl rfl rfl (by decide +kernel) ⟨Nat.le_of_ble_eq_true rfl, Nat.le_of_ble_eq_true rfl⟩) ⟨gBlind, gStart (As := [.double ((σ22 8).2.2.1 3)]) hP hD hK0 hT hS hF (d_70)⟩ rfl rfl hl.1 rfl (lv_room (Nat.le_of_ble_eq_true rfl)) dX11_bracket_92 ⟨Nat.le_of_ble_eq_true rfl, Nat.le_of_ble_eq_true rfl⟩) hS (fun q _ h => hF q h) hF (fun r_76 σ24 t H locs ht hvm hw hB hz1 hk1 hS d_77 hd0 => ?_)
              have hts := dr_words hts0 (d_77)
              have hK := gKd hK0 (d_77)
              have hown : (s.setDrawn (d_77)).vm.findClass RX11 = some m.cls := hown0
              obtain ⟨hP, hD⟩ := gBack hF ht hB
              obtain ⟨hIσ24, hro, hp_78⟩ := hw
              subst hro
              refine W.endD hd0 ?_
              exact W.lret (v := r_76) hx hb hr (fun t ht hW => ⟨⟨r_76, σ22, rfl, ⟨hIσ22, (gFr.tr (gFr.tr (gFr.tr (gFr.rfl (L := [2, 5, 7, 10]) (σ := σ)) fcσ20 (by decide)) fcσ21 (by decide)) fcσ22 (by decide)), trivial⟩, ⟨by rw [ht]; exact hP, hD⟩⟩, hS.F ht⟩) hS.2.2 dX11_bracket_95
          · refine lv_aload_n hx hb dX11_bracket_52 rfl (lv_at hl 0 rfl) ?_
            refine lv_iconst (v := 5) hx hb dX11_bracket_53 (by decide) ?_
            refine va_put (D := (dC, dI)) (ci := 10) (v := .int 5) (C := RX11) (T := TX11) (N := 15) hx hb hts hinX11 tyX11 tyX11_ok nmX11 hown hK hP hD hS 0 (at_10 rfl) rfl 12 (by decide) (hts (.fieldLink RX11 74 "BondCalendars" "refusal" "I") (by decide +kernel)) (fun _ h9 => h9) rfl (ty := .int) (by decide +kernel) rfl rfl (Nat.le_of_ble_eq_true rfl) dX11_bracket_54 (fun H locs hP hD hS => ?_)
            obtain ⟨σ25, eσ25, hP, hD⟩ := gPut (se_10_12 rfl) hP hD
            have hIσ25 : InvX σ25 := by rw [eσ25]; exact inv_I hIσ21 (ok_10_12 rfl _)
            have frσ25 : gFr [2, 5, 7, 10] σ σ25 := by rw [eσ25]; exact gFr.pI (gFr.tr (gFr.tr (gFr.rfl (L := [2, 5, 7, 10]) (σ := σ)) fcσ20 (by decide)) fcσ21 (by decide)) rfl (by decide)
            refine lv_ldc2 (v := (-9223372036854775808)) hx hb hown (hts (.constantLong RX11 256 (-9223372036854775808)) (by decide +kernel)) dX11_bracket_57 ?_
            refine W.endD hd0 ?_
            exact W.lret (v := (-9223372036854775808)) hx hb hr (fun t ht hW => ⟨⟨(-9223372036854775808), σ25, rfl, ⟨hIσ25, frσ25, trivial⟩, ⟨by rw [ht]; exact hP, hD⟩⟩, hS.F ht⟩) hS.2.2 dX11_bracket_60
        · refine lv_ldc2 (v := (-9223372036854775808)) hx hb hown (hts (.constantLong RX11 256 (-9223372036854775808)) (by decide +kernel)) dX11_bracket_33 ?_
          refine W.endD hd0 ?_
          exact W.lret (v := (-9223372036854775808)) hx hb hr (fun t ht hW => ⟨⟨(-9223372036854775808), σ20, rfl, ⟨hIσ20, (gFr.tr (gFr.rfl (L := [2, 5, 7, 10]) (σ := σ)) fcσ20 (by decide)), trivial⟩, ⟨by rw [ht]; exact hP, hD⟩⟩, hS.F ht⟩) hS.2.2 dX11_bracket_36
set_option maxHeartbeats 8000000 in
set_option maxRecDepth 100000 in
theorem n_X11_narrows (l : Launch) (dC : Nat → ClassId) (dI : Nat → Nat → Nat) (ad : Nat → Nat) (cA : Nat → ClassId) (adK adV : Nat → Nat) (sz : Nat) (σ : gs) (hI : InvX σ) (p0 : Int32) (p1 : Int32) (p2 : Int32) : MetD lw_cs l yX11_narrows wsX11_narrows ({ frames := 7, cells := 0, slots := 0, locals := 179 }) (va_Pc [.ref (ad 0), .int p0, .int p1, .int p2] (gPre adK adV (dC, dI) (wX ad cA σ) (tX cA) sz)) (va_Qi (fun (r : Int32) (τ : gs) => InvX τ ∧ gFr [2, 5, 7, 10] σ τ ∧ (True)) (fun τ t => gPost (dC, dI) (va_A (wX ad cA σ) sz) (wX ad cA τ) t) (va_A (wX ad cA σ) sz)) 0 0 (va_A (wX ad cA σ) sz) := by
  refine MetD.ofW (cc := cX11_narrows) (maxL := 5) (ret := (some .int)) (by decide) rfl ?_
  intro p e s m args below meth c s₁ B hml hv hd0
  obtain ⟨rfl, hsz, hP, hK, hD0, hT⟩ := hv
  have hx := B.exec
  have hb := B.bytes
  have hr := B.returns
  have hts0 := atoms_spec (ws := wsX11_narrows) B.pre
  have hK0 := hK
  have hown0 : s.vm.findClass RX11 = some m.cls := findClass_of_methodNamed B.named
  have hlocks := B.notSynchronized
  have hinX11 : ∀ w ∈ u_ws RX11 TX11 15, w ∈ wsX11_narrows := (fun _ h9 => List.mem_cons_of_mem _ (List.mem_append_left _ (List.mem_append_left _ (List.mem_append_left _ (List.mem_append_left _ (List.mem_append_left _ (List.mem_append_right _ h9)))))))
  have hinX2 : ∀ w ∈ u_ws RX2 TX2 6, w ∈ wsX11_narrows := (fun _ h9 => List.mem_cons_of_mem _ (List.mem_append_left _ (List.mem_append_left _ (List.mem_append_left _ (List.mem_append_left _ (List.mem_append_right _ h9))))))
  subst hsz
  have hD := hD0.self (sz := s.heap.size)
  generalize hAe : va_A (wX ad cA σ) s.heap.size = A at hD hT ⊢
  have hA : ∀ q : Nat, s.heap.size ≤ q → A q := fun q h => by rw [← hAe]; exact Or.inr h
  have hS : va_S A s.heap s.heap [] := va_S.rf
  have hl := lv_entry ([.ref (ad 0), .int p0, .int p1, .int p2]) (n := 5) (Nat.le_of_ble_eq_true rfl)
  rw [lg_entry_eq]
  generalize (lg_sl ([.ref (ad 0), .int p0, .int p1, .int p2]) ++ List.replicate (5 - (lg_sl ([.ref (ad 0), .int p0, .int p1, .int p2])).length) Slot.unset).toArray = ls at hl ⊢
  have hl : lv_has ls 5 [(0, .ref (ad 0)), (1, .int p0), (2, .int p1), (3, .int p2)] := hl
  have hts := dr_words hts0 (s.drawn)
  have hK := gKd hK0 (s.drawn)
  have hown : (s.setDrawn (s.drawn)).vm.findClass RX11 = some m.cls := hown0
  refine lv_aload_n hx hb dX11_narrows_0 rfl (lv_at hl 0 rfl) ?_
  refine lv_iload_n hx hb dX11_narrows_1 rfl (lv_at hl 1 rfl) ?_
  refine lv_iload_n hx hb dX11_narrows_2 rfl (lv_at hl 2 rfl) ?_
  refine lv_iload_n hx hb dX11_narrows_3 rfl (lv_at hl 3 rfl) ?_
  have hF := gFree hD hS hA
  refine va_calliD hd0 (va_runS_D (As := [.int p2]) (rest := [.int p1, .int p0, .ref (ad 0)]) ⟨hx, hb, hml, hown, hts⟩ (n_X11_isPrice l dC dI ad cA adK adV s.heap.size σ hI p2) (va_cwS 1 hts gX11_narrows_X11_isPrice rfl rfl rfl (by decide +kernel) ⟨Nat.le_of_ble_eq_true rfl, Nat.le_of_ble_eq_true rfl⟩) ⟨gBlind, gStart (As := [.int p2]) hP hD hK0 hT hS hF (s.drawn)⟩ rfl rfl hl.1 rfl (lv_room (Nat.le_of_ble_eq_true rfl)) dX11_narrows_4 ⟨Nat.le_of_ble_eq_true rfl, Nat.le_of_ble_eq_true rfl⟩) hS (fun q _ h => hF q h) hF (fun r_1 σ1 t H locs ht hvm hw hB hz1 hk1 hS d_2 hd0 => ?_)
  have hts := dr_words hts0 (d_2)
  have hK := gKd hK0 (d_2)
  have hown : (s.setDrawn (d_2)).vm.findClass RX11 = some m.cls := hown0
  obtain ⟨hP, hD⟩ := gBack hF ht hB
  obtain ⟨hIσ1, hro, hp_3⟩ := hw
  subst hro
  have hF := gFree hD hS hA
  refine va_calliD hd0 (va_runV_D (As := [.int p0, .int p1, .int r_1]) (rest := []) ⟨hx, hb, hml, hown, hts⟩ (n_X11_openSettle l dC dI ad cA adK adV H.size σ hI p0 p1 r_1) (cwV 3 hts gX11_narrows_X11_openSettle rfl rfl rfl (by decide +kernel) ⟨Nat.le_of_ble_eq_true rfl, Nat.le_of_ble_eq_true rfl⟩) ⟨gBlind, va_recv hK hP (ci := 10) (q0 := 0) rfl (at_10 rfl), gStart (As := [.ref (ad 0), .int p0, .int p1, .int r_1]) hP hD hK0 hT hS hF (d_2)⟩ rfl rfl hl.1 rfl (lv_room (Nat.le_of_ble_eq_true rfl)) dX11_narrows_7 ⟨Nat.le_of_ble_eq_true rfl, Nat.le_of_ble_eq_true rfl⟩) hS (fun q _ h => hF q h) hF (fun r_4 σ2 t H locs ht hvm hw hB hz1 hk1 hS d_5 hd0 => ?_)
  have hts := dr_words hts0 (d_5)
  have hK := gKd hK0 (d_5)
  have hown : (s.setDrawn (d_5)).vm.findClass RX11 = some m.cls := hown0
  obtain ⟨hP, hD⟩ := gBack hF ht hB
  obtain ⟨hIσ2, fcσ2, hp_6⟩ := hw
  refine lv_if_ne (tgt := 15) hx hb dX11_narrows_10 (by decide) (fun c_7 => ?_) (fun c_7 => ?_)
  · refine lv_aload_n hx hb dX11_narrows_15 rfl (lv_at hl 0 rfl) ?_
    refine va_get (D := (dC, dI)) (ci := 10) (v := .ref (ad 8)) (C := RX11) (T := TX11) (N := 15) hx hb hts hinX11 hown hK hP 0 (at_10 rfl) rfl 2 (by decide) (hts (.fieldLink RX11 26 "BondCalendars" "bracket" "LBondCalendars$Bracket;") (by decide +kernel)) (fun _ h9 => h9) rfl dX11_narrows_16 ?_
    refine lv_aload_n hx hb dX11_narrows_19 rfl (lv_at hl 0 rfl) ?_
    refine va_get (D := (dC, dI)) (ci := 10) (v := .ref (ad 4)) (C := RX11) (T := TX11) (N := 15) hx hb hts hinX11 hown hK hP 0 (at_10 rfl) rfl 1 (by decide) (hts (.fieldLink RX11 19 "BondCalendars" "settle" "LBondCalendars$Settle;") (by decide +kernel)) (fun _ h9 => h9) rfl dX11_narrows_20 ?_
    refine lv_iload_n hx hb dX11_narrows_23 rfl (lv_at hl 3 rfl) ?_
    have hF := gFree hD hS hA
    refine va_calliD hd0 (va_runV_D (As := [.ref (ad 4), .int p2]) (rest := []) ⟨hx, hb, hml, hown, hts⟩ (n_X2_open l dC dI ad cA adK adV H.size σ2 hIσ2 4 rfl p2) (cwV 2 hts gX11_narrows_X2_open rfl rfl rfl (by decide +kernel) ⟨Nat.le_of_ble_eq_true rfl, Nat.le_of_ble_eq_true rfl⟩) ⟨gBlind, va_recv hK hP (ci := 2) (q0 := 8) rfl (at_2 rfl), gStart (As := [.ref (ad 8), .ref (ad 4), .int p2]) hP hD hK0 hT hS hF (d_5)⟩ rfl rfl hl.1 rfl (lv_room (Nat.le_of_ble_eq_true rfl)) dX11_narrows_24 ⟨Nat.le_of_ble_eq_true rfl, Nat.le_of_ble_eq_true rfl⟩) hS (fun q _ h => hF q h) hF (fun r_8 σ3 t H locs ht hvm hw hB hz1 hk1 hS d_9 hd0 => ?_)
    have hts := dr_words hts0 (d_9)
    have hK := gKd hK0 (d_9)
    have hown : (s.setDrawn (d_9)).vm.findClass RX11 = some m.cls := hown0
    obtain ⟨hP, hD⟩ := gBack hF ht hB
    obtain ⟨hIσ3, fcσ3, hp_10⟩ := hw
    refine lv_if_ne (tgt := 36) hx hb dX11_narrows_27 (by decide) (fun c_11 => ?_) (fun c_11 => ?_)
    · refine lv_iconst (v := 0) hx hb dX11_narrows_36 (by decide) ?_
      refine lv_istore (lv' := [(4, .int 0), (0, .ref (ad 0)), (1, .int p0), (2, .int p1), (3, .int p2)]) hx hb dX11_narrows_37 hl (by decide) rfl (fun ls hl => ?_)
      refine (fun (h : ∀ (n : Nat) (i4 : Int32) (σ39x : gs) (d39 : Drawn) (H : Heap) (locs : List Loc) (ls : Array Slot), ((61 : Int32).toInt - i4.toInt).toNat < n → 0 ≤ i4 → InvX σ39x → gFr [2, 5, 7, 10] σ σ39x → s.drawn.sameBut d39 lw_cs → va_P (dC, dI) vwCl (wX ad cA σ39x) H → va_D A (wX ad cA σ39x) → va_S A s.heap H locs → lv_has ls 5 [(4, .int i4), (0, .ref (ad 0)), (1, .int p0), (2, .int p1), (3, .int p2)] → W p l e _ (s.setDrawn d39) m _ below meth c H locs _ _ _ (F0 m 39 ls [])) => h _ 0 σ3 _ _ _ _ (Nat.lt_succ_self _) (by decide) hIσ3 (gFr.tr (gFr.tr (gFr.rfl (L := [2, 5, 7, 10]) (σ := σ)) fcσ2 (by decide)) fcσ3 (by decide)) hd0 hP hD hS (lv_sub hl [0, 1, 2, 3, 4] rfl)) ?_
      intro n39
      induction n39 with
      | zero => intro i4 σ39x d39 H locs ls hm; exact absurd hm (Nat.not_lt_zero _)
      | succ n39 ih39 =>
        intro i4 σ39x d39 H locs ls hm39 iv39_0 hIσ39x frσ39x hd0 hP hD hS hl
        have hts := dr_words hts0 (d39)
        have hK := gKd hK0 (d39)
        have hown : (s.setDrawn (d39)).vm.findClass RX11 = some m.cls := hown0
        refine lv_iload hx hb dX11_narrows_39 (lv_at hl 0 rfl) ?_
        refine lv_bipush (v := 60) hx hb dX11_narrows_41 (by decide) ?_
        refine lv_icmp_gt (tgt := 86) hx hb dX11_narrows_43 (by decide) (fun c_12 => ?_) (fun c_12 => ?_)
        · refine lv_bipush (v := (-2)) hx hb dX11_narrows_86 (by decide) ?_
          refine W.endD hd0 ?_
          exact W.iret (v := (-2)) hx hb hr (fun t ht hW => ⟨⟨(-2), σ39x, rfl, ⟨hIσ39x, frσ39x, trivial⟩, ⟨by rw [ht]; exact hP, hD⟩⟩, hS.F ht⟩) hS.2.2 dX11_narrows_88
        · refine lv_aload_n hx hb dX11_narrows_46 rfl (lv_at hl 1 rfl) ?_
          refine va_get (D := (dC, dI)) (ci := 10) (v := .ref (ad 8)) (C := RX11) (T := TX11) (N := 15) hx hb hts hinX11 hown hK hP 0 (at_10 rfl) rfl 2 (by decide) (hts (.fieldLink RX11 26 "BondCalendars" "bracket" "LBondCalendars$Bracket;") (by decide +kernel)) (fun _ h9 => h9) rfl dX11_narrows_47 ?_
          refine va_get (D := (dC, dI)) (ci := 2) (v := .double ((σ39x 8).2.2.1 3)) (C := RX2) (T := TX2) (N := 6) hx hb hts hinX2 hown hK hP 8 (at_2 rfl) rfl 3 (by decide) (hts (.fieldLink RX11 295 "BondCalendars$Bracket" "high" "D") (by decide +kernel)) (fun _ h9 => h9) rfl dX11_narrows_50 ?_
          refine lv_aload_n hx hb dX11_narrows_53 rfl (lv_at hl 1 rfl) ?_
          refine va_get (D := (dC, dI)) (ci := 10) (v := .ref (ad 8)) (C := RX11) (T := TX11) (N := 15) hx hb hts hinX11 hown hK hP 0 (at_10 rfl) rfl 2 (by decide) (hts (.fieldLink RX11 26 "BondCalendars" "bracket" "LBondCalendars$Bracket;") (by decide +kernel)) (fun _ h9 => h9) rfl dX11_narrows_54 ?_
          refine va_get (D := (dC, dI)) (ci := 2) (v := .double ((σ39x 8).2.2.1 2)) (C := RX2) (T := TX2) (N := 6) hx hb hts hinX2 hown hK hP 8 (at_2 rfl) rfl 2 (by decide) (hts (.fieldLink RX11 299 "BondCalendars$Bracket" "low" "D") (by decide +kernel)) (fun _ h9 => h9) rfl dX11_narrows_57 ?_
          refine lv_dsub_any hd0 lw_bits hx hb dX11_narrows_60 (fun y_13 d_14 _ hd0 => ?_)
          have hts := dr_words hts0 (d_14)
          have hK := gKd hK0 (d_14)
          have hown : (s.setDrawn (d_14)).vm.findClass RX11 = some m.cls := hown0
          refine lv_ldc2d (v := 4517329193108106637) hx hb hown (hts (.constantDouble RX11 302 (4517329193108106637)) (by decide +kernel)) dX11_narrows_61 ?_
          refine lv_dcmp hx hb dX11_narrows_64 ?_
          refine lv_topi (fun x_15 _ => ?_)
          refine lv_if_gt (tgt := 71) hx hb dX11_narrows_65 (by decide) (fun c_16 => ?_) (fun c_16 => ?_)
          · refine lv_aload_n hx hb dX11_narrows_71 rfl (lv_at hl 1 rfl) ?_
            refine va_get (D := (dC, dI)) (ci := 10) (v := .ref (ad 8)) (C := RX11) (T := TX11) (N := 15) hx hb hts hinX11 hown hK hP 0 (at_10 rfl) rfl 2 (by decide) (hts (.fieldLink RX11 26 "BondCalendars" "bracket" "LBondCalendars$Bracket;") (by decide +kernel)) (fun _ h9 => h9) rfl dX11_narrows_72 ?_
            refine lv_iload hx hb dX11_narrows_75 (lv_at hl 0 rfl) ?_
            have hF := gFree hD hS hA
            refine va_callvD hd0 (va_runV_D (As := [.int i4]) (rest := []) ⟨hx, hb, hml, hown, hts⟩ (n_X2_narrow l dC dI ad cA adK adV H.size σ39x hIσ39x i4) (cwV 1 hts gX11_narrows_X2_narrow rfl rfl rfl (by decide +kernel) ⟨Nat.le_of_ble_eq_true rfl, Nat.le_of_ble_eq_true rfl⟩) ⟨gBlind, va_recv hK hP (ci := 2) (q0 := 8) rfl (at_2 rfl), gStart (As := [.ref (ad 8), .int i4]) hP hD hK0 hT hS hF (d_14)⟩ rfl rfl hl.1 rfl (lv_room (Nat.le_of_ble_eq_true rfl)) dX11_narrows_77 ⟨Nat.le_of_ble_eq_true rfl, Nat.le_of_ble_eq_true rfl⟩) hS (fun q _ h => hF q h) hF (fun σ4 t H locs ht hvm hw hB hz1 hk1 hS d_18 hd0 => ?_)
            have hts := dr_words hts0 (d_18)
            have hK := gKd hK0 (d_18)
            have hown : (s.setDrawn (d_18)).vm.findClass RX11 = some m.cls := hown0
            obtain ⟨hP, hD⟩ := gBack hF ht hB
            obtain ⟨hIσ4, fcσ4, hp_19⟩ := hw
            obtain ⟨x_20, ex_20⟩ : ∃ zz : Int32, zz = i4 + 1 := ⟨_, rfl⟩
            refine lv_iinc (v := x_20) (lv' := [(4, .int x_20), (0, .ref (ad 0)), (1, .int p0), (2, .int p1), (3, .int p2)]) hx hb dX11_narrows_80 hl (k := 0) rfl (by rw [ex_20]; rfl) (by decide) rfl (fun ls hl => ?_)
            refine lv_goto (tgt := 39) hx hb dX11_narrows_83 (by decide) ?_
            exact ih39 x_20 σ4 _ _ _ _ (cnt_m iv39_0 (Int32.lt_of_le_of_lt (Int32.not_lt.mp c_12) (show (60 : Int32) < 61 by decide)) hm39 ex_20) (cnt_0 iv39_0 (Int32.lt_of_le_of_lt (Int32.not_lt.mp c_12) (show (60 : Int32) < 61 by decide)) ex_20) hIσ4 (gFr.tr frσ39x fcσ4 (by decide)) hd0 hP hD hS (lv_sub hl [0, 1, 2, 3, 4] rfl)
          · refine lv_iload hx hb dX11_narrows_68 (lv_at hl 0 rfl) ?_
            refine W.endD hd0 ?_
            exact W.iret (v := i4) hx hb hr (fun t ht hW => ⟨⟨i4, σ39x, rfl, ⟨hIσ39x, frσ39x, trivial⟩, ⟨by rw [ht]; exact hP, hD⟩⟩, hS.F ht⟩) hS.2.2 dX11_narrows_70
    · refine lv_aload_n hx hb dX11_narrows_30 rfl (lv_at hl 0 rfl) ?_
      refine lv_iconst (v := 5) hx hb dX11_narrows_31 (by decide) ?_
      have hF := gFree hD hS hA
      refine va_calliD hd0 (va_runV_D (As := [.int 5]) (rest := []) ⟨hx, hb, hml, hown, hts⟩ (n_X11_refuse l dC dI ad cA adK adV H.size σ3 hIσ3 5) (cwV 1 hts gX11_narrows_X11_refuse rfl rfl rfl (by decide +kernel) ⟨Nat.le_of_ble_eq_true rfl, Nat.le_of_ble_eq_true rfl⟩) ⟨gBlind, va_recv hK hP (ci := 10) (q0 := 0) rfl (at_10 rfl), gStart (As := [.ref (ad 0), .int 5]) hP hD hK0 hT hS hF (d_9)⟩ rfl rfl hl.1 rfl (lv_room (Nat.le_of_ble_eq_true rfl)) dX11_narrows_32 ⟨Nat.le_of_ble_eq_true rfl, Nat.le_of_ble_eq_true rfl⟩) hS (fun q _ h => hF q h) hF (fun r_21 σ5 t H locs ht hvm hw hB hz1 hk1 hS d_22 hd0 => ?_)
      have hts := dr_words hts0 (d_22)
      have hK := gKd hK0 (d_22)
      have hown : (s.setDrawn (d_22)).vm.findClass RX11 = some m.cls := hown0
      obtain ⟨hP, hD⟩ := gBack hF ht hB
      obtain ⟨hIσ5, fcσ5, hp_23⟩ := hw
      refine W.endD hd0 ?_
      exact W.iret (v := r_21) hx hb hr (fun t ht hW => ⟨⟨r_21, σ5, rfl, ⟨hIσ5, (gFr.tr (gFr.tr (gFr.tr (gFr.rfl (L := [2, 5, 7, 10]) (σ := σ)) fcσ2 (by decide)) fcσ3 (by decide)) fcσ5 (by decide)), trivial⟩, ⟨by rw [ht]; exact hP, hD⟩⟩, hS.F ht⟩) hS.2.2 dX11_narrows_35
  · refine lv_iconst (v := (-1)) hx hb dX11_narrows_13 (by decide) ?_
    refine W.endD hd0 ?_
    exact W.iret (v := (-1)) hx hb hr (fun t ht hW => ⟨⟨(-1), σ2, rfl, ⟨hIσ2, (gFr.tr (gFr.rfl (L := [2, 5, 7, 10]) (σ := σ)) fcσ2 (by decide)), trivial⟩, ⟨by rw [ht]; exact hP, hD⟩⟩, hS.F ht⟩) hS.2.2 dX11_narrows_14
set_option maxHeartbeats 8000000 in
set_option maxRecDepth 100000 in
theorem n_X11_pointsAt (l : Launch) (dC : Nat → ClassId) (dI : Nat → Nat → Nat) (ad : Nat → Nat) (cA : Nat → ClassId) (adK adV : Nat → Nat) (sz : Nat) (σ : gs) (hI : InvX σ) (p0 : Int32) (p1 : Int32) (p2 : Int32) : MetD lw_cs l yX11_pointsAt wsX11_pointsAt ({ frames := 7, cells := 0, slots := 0, locals := 179 }) (va_Pc [.ref (ad 0), .int p0, .int p1, .int p2] (gPre adK adV (dC, dI) (wX ad cA σ) (tX cA) sz)) (va_Qi (fun (r : Int32) (τ : gs) => InvX τ ∧ gFr [5, 7, 10] σ τ ∧ (True)) (fun τ t => gPost (dC, dI) (va_A (wX ad cA σ) sz) (wX ad cA τ) t) (va_A (wX ad cA σ) sz)) 0 0 (va_A (wX ad cA σ) sz) := by
  refine MetD.ofW (cc := cX11_pointsAt) (maxL := 10) (ret := (some .int)) (by decide) rfl ?_
  intro p e s m args below meth c s₁ B hml hv hd0
  obtain ⟨rfl, hsz, hP, hK, hD0, hT⟩ := hv
  have hx := B.exec
  have hb := B.bytes
  have hr := B.returns
  have hts0 := atoms_spec (ws := wsX11_pointsAt) B.pre
  have hK0 := hK
  have hown0 : s.vm.findClass RX11 = some m.cls := findClass_of_methodNamed B.named
  have hlocks := B.notSynchronized
  have hinX11 : ∀ w ∈ u_ws RX11 TX11 15, w ∈ wsX11_pointsAt := (fun _ h9 => List.mem_cons_of_mem _ (List.mem_append_left _ (List.mem_append_left _ (List.mem_append_left _ (List.mem_append_left _ (List.mem_append_right _ h9))))))
  subst hsz
  have hD := hD0.self (sz := s.heap.size)
  generalize hAe : va_A (wX ad cA σ) s.heap.size = A at hD hT ⊢
  have hA : ∀ q : Nat, s.heap.size ≤ q → A q := fun q h => by rw [← hAe]; exact Or.inr h
  have hS : va_S A s.heap s.heap [] := va_S.rf
  have hl := lv_entry ([.ref (ad 0), .int p0, .int p1, .int p2]) (n := 10) (Nat.le_of_ble_eq_true rfl)
  rw [lg_entry_eq]
  generalize (lg_sl ([.ref (ad 0), .int p0, .int p1, .int p2]) ++ List.replicate (10 - (lg_sl ([.ref (ad 0), .int p0, .int p1, .int p2])).length) Slot.unset).toArray = ls at hl ⊢
  have hl : lv_has ls 10 [(0, .ref (ad 0)), (1, .int p0), (2, .int p1), (3, .int p2)] := hl
  have hts := dr_words hts0 (s.drawn)
  have hK := gKd hK0 (s.drawn)
  have hown : (s.setDrawn (s.drawn)).vm.findClass RX11 = some m.cls := hown0
  refine lv_aload_n hx hb dX11_pointsAt_0 rfl (lv_at hl 0 rfl) ?_
  refine lv_iload_n hx hb dX11_pointsAt_1 rfl (lv_at hl 1 rfl) ?_
  refine lv_iload_n hx hb dX11_pointsAt_2 rfl (lv_at hl 2 rfl) ?_
  refine lv_iload_n hx hb dX11_pointsAt_3 rfl (lv_at hl 3 rfl) ?_
  have hF := gFree hD hS hA
  refine va_calliD hd0 (va_runS_D (As := [.int p2]) (rest := [.int p1, .int p0, .ref (ad 0)]) ⟨hx, hb, hml, hown, hts⟩ (n_X11_isPrice l dC dI ad cA adK adV s.heap.size σ hI p2) (va_cwS 1 hts gX11_pointsAt_X11_isPrice rfl rfl rfl (by decide +kernel) ⟨Nat.le_of_ble_eq_true rfl, Nat.le_of_ble_eq_true rfl⟩) ⟨gBlind, gStart (As := [.int p2]) hP hD hK0 hT hS hF (s.drawn)⟩ rfl rfl hl.1 rfl (lv_room (Nat.le_of_ble_eq_true rfl)) dX11_pointsAt_4 ⟨Nat.le_of_ble_eq_true rfl, Nat.le_of_ble_eq_true rfl⟩) hS (fun q _ h => hF q h) hF (fun r_1 σ1 t H locs ht hvm hw hB hz1 hk1 hS d_2 hd0 => ?_)
  have hts := dr_words hts0 (d_2)
  have hK := gKd hK0 (d_2)
  have hown : (s.setDrawn (d_2)).vm.findClass RX11 = some m.cls := hown0
  obtain ⟨hP, hD⟩ := gBack hF ht hB
  obtain ⟨hIσ1, hro, hp_3⟩ := hw
  subst hro
  have hF := gFree hD hS hA
  refine va_calliD hd0 (va_runV_D (As := [.int p0, .int p1, .int r_1]) (rest := []) ⟨hx, hb, hml, hown, hts⟩ (n_X11_openSettle l dC dI ad cA adK adV H.size σ hI p0 p1 r_1) (cwV 3 hts gX11_pointsAt_X11_openSettle rfl rfl rfl (by decide +kernel) ⟨Nat.le_of_ble_eq_true rfl, Nat.le_of_ble_eq_true rfl⟩) ⟨gBlind, va_recv hK hP (ci := 10) (q0 := 0) rfl (at_10 rfl), gStart (As := [.ref (ad 0), .int p0, .int p1, .int r_1]) hP hD hK0 hT hS hF (d_2)⟩ rfl rfl hl.1 rfl (lv_room (Nat.le_of_ble_eq_true rfl)) dX11_pointsAt_7 ⟨Nat.le_of_ble_eq_true rfl, Nat.le_of_ble_eq_true rfl⟩) hS (fun q _ h => hF q h) hF (fun r_4 σ2 t H locs ht hvm hw hB hz1 hk1 hS d_5 hd0 => ?_)
  have hts := dr_words hts0 (d_5)
  have hK := gKd hK0 (d_5)
  have hown : (s.setDrawn (d_5)).vm.findClass RX11 = some m.cls := hown0
  obtain ⟨hP, hD⟩ := gBack hF ht hB
  obtain ⟨hIσ2, fcσ2, hp_6⟩ := hw
  refine lv_if_ne (tgt := 16) hx hb dX11_pointsAt_10 (by decide) (fun c_7 => ?_) (fun c_7 => ?_)
  · refine lv_iload_n hx hb dX11_pointsAt_16 rfl (lv_at hl 3 rfl) ?_
    refine lv_i2d hx hb dX11_pointsAt_17 ?_
    refine lv_topd (fun y_8 _ => ?_)
    refine lv_ldc2d (v := 4636737291354636288) hx hb hown (hts (.constantDouble RX11 307 (4636737291354636288)) (by decide +kernel)) dX11_pointsAt_18 ?_
    refine lv_ddiv_any hd0 lw_bits hx hb dX11_pointsAt_21 (fun y_9 d_10 _ hd0 => ?_)
    have hts := dr_words hts0 (d_10)
    have hK := gKd hK0 (d_10)
    have hown : (s.setDrawn (d_10)).vm.findClass RX11 = some m.cls := hown0
    refine lv_dstore (lv' := [(4, .double y_9), (0, .ref (ad 0)), (1, .int p0), (2, .int p1), (3, .int p2)]) hx hb dX11_pointsAt_22 hl (by decide) rfl (fun ls hl => ?_)
    refine lv_aload_n hx hb dX11_pointsAt_24 rfl (lv_at hl 1 rfl) ?_
    refine va_get (D := (dC, dI)) (ci := 10) (v := .ref (ad 4)) (C := RX11) (T := TX11) (N := 15) hx hb hts hinX11 hown hK hP 0 (at_10 rfl) rfl 1 (by decide) (hts (.fieldLink RX11 19 "BondCalendars" "settle" "LBondCalendars$Settle;") (by decide +kernel)) (fun _ h9 => h9) rfl dX11_pointsAt_25 ?_
    refine lv_sipush (v := (-2000)) hx hb dX11_pointsAt_28 (by decide) ?_
    have hF := gFree hD hS hA
    refine va_calldD hd0 (va_runS_D (As := [.int (-2000)]) (rest := [.ref (ad 4)]) ⟨hx, hb, hml, hown, hts⟩ (n_X11_yieldOf l dC dI ad cA adK adV H.size σ2 hIσ2 (-2000)) (va_cwS 1 hts gX11_pointsAt_X11_yieldOf rfl rfl rfl (by decide +kernel) ⟨Nat.le_of_ble_eq_true rfl, Nat.le_of_ble_eq_true rfl⟩) ⟨gBlind, gStart (As := [.int (-2000)]) hP hD hK0 hT hS hF (d_10)⟩ rfl rfl hl.1 rfl (lv_room (Nat.le_of_ble_eq_true rfl)) dX11_pointsAt_31 ⟨Nat.le_of_ble_eq_true rfl, Nat.le_of_ble_eq_true rfl⟩) hS (fun q _ h => hF q h) hF (fun r_11 σ3 t H locs ht hvm hw hB hz1 hk1 hS d_12 hd0 => ?_)
    have hts := dr_words hts0 (d_12)
    have hK := gKd hK0 (d_12)
    have hown : (s.setDrawn (d_12)).vm.findClass RX11 = some m.cls := hown0
    obtain ⟨hP, hD⟩ := gBack hF ht hB
    obtain ⟨hIσ3, hro, hp_13⟩ := hw
    subst hro
    have hF := gFree hD hS hA
    refine va_calldD hd0 (va_runV_D (As := [.double r_11]) (rest := []) ⟨hx, hb, hml, hown, hts⟩ (n_X8_cleanAt l dC dI ad cA adK adV H.size σ2 hIσ2 4 rfl r_11) (cwV 1 hts gX11_pointsAt_X8_cleanAt rfl rfl rfl (by decide +kernel) ⟨Nat.le_of_ble_eq_true rfl, Nat.le_of_ble_eq_true rfl⟩) ⟨gBlind, va_recv hK hP (ci := 7) (q0 := 4) rfl (at_7 rfl), gStart (As := [.ref (ad 4), .double r_11]) hP hD hK0 hT hS hF (d_12)⟩ rfl rfl hl.1 rfl (lv_room (Nat.le_of_ble_eq_true rfl)) dX11_pointsAt_34 ⟨Nat.le_of_ble_eq_true rfl, Nat.le_of_ble_eq_true rfl⟩) hS (fun q _ h => hF q h) hF (fun r_14 σ4 t H locs ht hvm hw hB hz1 hk1 hS d_15 hd0 => ?_)
    have hts := dr_words hts0 (d_15)
    have hK := gKd hK0 (d_15)
    have hown : (s.setDrawn (d_15)).vm.findClass RX11 = some m.cls := hown0
    obtain ⟨hP, hD⟩ := gBack hF ht hB
    obtain ⟨hIσ4, hro, hp_16⟩ := hw
    subst hro
    refine lv_dload hx hb dX11_pointsAt_37 (lv_at hl 0 rfl) ?_
    refine lv_dcmp hx hb dX11_pointsAt_39 ?_
    refine lv_topi (fun x_17 _ => ?_)
    refine lv_if_ge (tgt := 46) hx hb dX11_pointsAt_40 (by decide) (fun c_18 => ?_) (fun c_18 => ?_)
    · refine lv_sipush (v := (-2000)) hx hb dX11_pointsAt_46 (by decide) ?_
      refine lv_istore (lv' := [(6, .int (-2000)), (4, .double y_9), (0, .ref (ad 0)), (1, .int p0), (2, .int p1), (3, .int p2)]) hx hb dX11_pointsAt_49 hl (by decide) rfl (fun ls hl => ?_)
      refine lv_sipush (v := 10001) hx hb dX11_pointsAt_51 (by decide) ?_
      refine lv_istore (lv' := [(7, .int 10001), (6, .int (-2000)), (4, .double y_9), (0, .ref (ad 0)), (1, .int p0), (2, .int p1), (3, .int p2)]) hx hb dX11_pointsAt_54 hl (by decide) rfl (fun ls hl => ?_)
      refine lv_iconst (v := 0) hx hb dX11_pointsAt_56 (by decide) ?_
      refine lv_istore (lv' := [(8, .int 0), (7, .int 10001), (6, .int (-2000)), (4, .double y_9), (0, .ref (ad 0)), (1, .int p0), (2, .int p1), (3, .int p2)]) hx hb dX11_pointsAt_57 hl (by decide) rfl (fun ls hl => ?_)
      refine (fun (h : ∀ (n : Nat) (i8 : Int32) (ft : Int32) (bz : Int32) (σ59x : gs) (d59 : Drawn) (H : Heap) (locs : List Loc) (ls : Array Slot), ((32 : Int32).toInt - i8.toInt).toNat < n → 0 ≤ i8 → InvX σ59x → gFr [5, 7, 10] σ σ59x → s.drawn.sameBut d59 lw_cs → va_P (dC, dI) vwCl (wX ad cA σ59x) H → va_D A (wX ad cA σ59x) → va_S A s.heap H locs → lv_has ls 10 [(8, .int i8), (7, .int bz), (6, .int ft), (4, .double y_9), (0, .ref (ad 0)), (1, .int p0), (2, .int p1), (3, .int p2)] → W p l e _ (s.setDrawn d59) m _ below meth c H locs _ _ _ (F0 m 59 ls [])) => h _ 0 (-2000) 10001 σ2 _ _ _ _ (Nat.lt_succ_self _) (by decide) hIσ2 (gFr.tr (gFr.rfl (L := [5, 7, 10]) (σ := σ)) fcσ2 (by decide)) hd0 hP hD hS (lv_sub hl [0, 1, 2, 3, 4, 5, 6, 7] rfl)) ?_
      intro n59
      induction n59 with
      | zero => intro i8 ft bz σ59x d59 H locs ls hm; exact absurd hm (Nat.not_lt_zero _)
      | succ n59 ih59 =>
        intro i8 ft bz σ59x d59 H locs ls hm59 iv59_0 hIσ59x frσ59x hd0 hP hD hS hl
        have hts := dr_words hts0 (d59)
        have hK := gKd hK0 (d59)
        have hown : (s.setDrawn (d59)).vm.findClass RX11 = some m.cls := hown0
        refine lv_iload hx hb dX11_pointsAt_59 (lv_at hl 0 rfl) ?_
        refine lv_bipush (v := 32) hx hb dX11_pointsAt_61 (by decide) ?_
        refine lv_icmp_ge (tgt := 122) hx hb dX11_pointsAt_63 (by decide) (fun c_19 => ?_) (fun c_19 => ?_)
        · refine lv_iload hx hb dX11_pointsAt_122 (lv_at hl 2 rfl) ?_
          refine W.endD hd0 ?_
          exact W.iret (v := ft) hx hb hr (fun t ht hW => ⟨⟨ft, σ59x, rfl, ⟨hIσ59x, frσ59x, trivial⟩, ⟨by rw [ht]; exact hP, hD⟩⟩, hS.F ht⟩) hS.2.2 dX11_pointsAt_124
        · refine lv_iload hx hb dX11_pointsAt_66 (lv_at hl 1 rfl) ?_
          refine lv_iload hx hb dX11_pointsAt_68 (lv_at hl 2 rfl) ?_
          refine lv_isub hx hb dX11_pointsAt_70 ?_
          refine lv_topi (fun x_20 ex_20 => ?_)
          refine lv_iconst (v := 1) hx hb dX11_pointsAt_71 (by decide) ?_
          refine lv_icmp_le (tgt := 122) hx hb dX11_pointsAt_72 (by decide) (fun c_21 => ?_) (fun c_21 => ?_)
          · refine lv_iload hx hb dX11_pointsAt_122 (lv_at hl 2 rfl) ?_
            refine W.endD hd0 ?_
            exact W.iret (v := ft) hx hb hr (fun t ht hW => ⟨⟨ft, σ59x, rfl, ⟨hIσ59x, frσ59x, trivial⟩, ⟨by rw [ht]; exact hP, hD⟩⟩, hS.F ht⟩) hS.2.2 dX11_pointsAt_124
          · refine lv_iload hx hb dX11_pointsAt_75 (lv_at hl 2 rfl) ?_
            refine lv_iload hx hb dX11_pointsAt_77 (lv_at hl 1 rfl) ?_
            refine lv_iload hx hb dX11_pointsAt_79 (lv_at hl 2 rfl) ?_
            refine lv_isub hx hb dX11_pointsAt_81 ?_
            refine lv_topi (fun x_22 ex_22 => ?_)
            refine lv_iconst (v := 2) hx hb dX11_pointsAt_82 (by decide) ?_
            refine lv_idiv hx hb dX11_pointsAt_83 (by decide) ?_
            refine lv_topi (fun x_23 ex_23 => ?_)
            refine lv_iadd hx hb dX11_pointsAt_84 ?_
            refine lv_topi (fun x_24 ex_24 => ?_)
            refine lv_istore (lv' := [(9, .int x_24), (8, .int i8), (7, .int bz), (6, .int ft), (4, .double y_9), (0, .ref (ad 0)), (1, .int p0), (2, .int p1), (3, .int p2)]) hx hb dX11_pointsAt_85 hl (by decide) rfl (fun ls hl => ?_)
            refine lv_aload_n hx hb dX11_pointsAt_87 rfl (lv_at hl 5 rfl) ?_
            refine va_get (D := (dC, dI)) (ci := 10) (v := .ref (ad 4)) (C := RX11) (T := TX11) (N := 15) hx hb hts hinX11 hown hK hP 0 (at_10 rfl) rfl 1 (by decide) (hts (.fieldLink RX11 19 "BondCalendars" "settle" "LBondCalendars$Settle;") (by decide +kernel)) (fun _ h9 => h9) rfl dX11_pointsAt_88 ?_
            refine lv_iload hx hb dX11_pointsAt_91 (lv_at hl 0 rfl) ?_
            have hF := gFree hD hS hA
            refine va_calldD hd0 (va_runS_D (As := [.int x_24]) (rest := [.ref (ad 4)]) ⟨hx, hb, hml, hown, hts⟩ (n_X11_yieldOf l dC dI ad cA adK adV H.size σ59x hIσ59x x_24) (va_cwS 1 hts gX11_pointsAt_X11_yieldOf rfl rfl rfl (by decide +kernel) ⟨Nat.le_of_ble_eq_true rfl, Nat.le_of_ble_eq_true rfl⟩) ⟨gBlind, gStart (As := [.int x_24]) hP hD hK0 hT hS hF (d59)⟩ rfl rfl hl.1 rfl (lv_room (Nat.le_of_ble_eq_true rfl)) dX11_pointsAt_93 ⟨Nat.le_of_ble_eq_true rfl, Nat.le_of_ble_eq_true rfl⟩) hS (fun q _ h => hF q h) hF (fun r_25 σ5 t H locs ht hvm hw hB hz1 hk1 hS d_26 hd0 => ?_)
            have hts := dr_words hts0 (d_26)
            have hK := gKd hK0 (d_26)
            have hown : (s.setDrawn (d_26)).vm.findClass RX11 = some m.cls := hown0
            obtain ⟨hP, hD⟩ := gBack hF ht hB
            obtain ⟨hIσ5, hro, hp_27⟩ := hw
            subst hro
            have hF := gFree hD hS hA
            refine va_calldD hd0 (va_runV_D (As := [.double r_25]) (rest := []) ⟨hx, hb, hml, hown, hts⟩ (n_X8_cleanAt l dC dI ad cA adK adV H.size σ59x hIσ59x 4 rfl r_25) (cwV 1 hts gX11_pointsAt_X8_cleanAt rfl rfl rfl (by decide +kernel) ⟨Nat.le_of_ble_eq_true rfl, Nat.le_of_ble_eq_true rfl⟩) ⟨gBlind, va_recv hK hP (ci := 7) (q0 := 4) rfl (at_7 rfl), gStart (As := [.ref (ad 4), .double r_25]) hP hD hK0 hT hS hF (d_26)⟩ rfl rfl hl.1 rfl (lv_room (Nat.le_of_ble_eq_true rfl)) dX11_pointsAt_96 ⟨Nat.le_of_ble_eq_true rfl, Nat.le_of_ble_eq_true rfl⟩) hS (fun q _ h => hF q h) hF (fun r_28 σ6 t H locs ht hvm hw hB hz1 hk1 hS d_29 hd0 => ?_)
            have hts := dr_words hts0 (d_29)
            have hK := gKd hK0 (d_29)
            have hown : (s.setDrawn (d_29)).vm.findClass RX11 = some m.cls := hown0
            obtain ⟨hP, hD⟩ := gBack hF ht hB
            obtain ⟨hIσ6, hro, hp_30⟩ := hw
            subst hro
            refine lv_dload hx hb dX11_pointsAt_99 (lv_at hl 4 rfl) ?_
            refine lv_dcmp hx hb dX11_pointsAt_101 ?_
            refine lv_topi (fun x_31 _ => ?_)
            refine lv_if_lt (tgt := 112) hx hb dX11_pointsAt_102 (by decide) (fun c_32 => ?_) (fun c_32 => ?_)
            · refine lv_iload hx hb dX11_pointsAt_112 (lv_at hl 0 rfl) ?_
              refine lv_istore (lv' := [(7, .int x_24), (9, .int x_24), (8, .int i8), (6, .int ft), (4, .double y_9), (0, .ref (ad 0)), (1, .int p0), (2, .int p1), (3, .int p2)]) hx hb dX11_pointsAt_114 hl (by decide) rfl (fun ls hl => ?_)
              obtain ⟨x_33, ex_33⟩ : ∃ zz : Int32, zz = i8 + 1 := ⟨_, rfl⟩
              refine lv_iinc (v := x_33) (lv' := [(8, .int x_33), (7, .int x_24), (9, .int x_24), (6, .int ft), (4, .double y_9), (0, .ref (ad 0)), (1, .int p0), (2, .int p1), (3, .int p2)]) hx hb dX11_pointsAt_116 hl (k := 2) rfl (by rw [ex_33]; rfl) (by decide) rfl (fun ls hl => ?_)
              refine lv_goto (tgt := 59) hx hb dX11_pointsAt_119 (by decide) ?_
              exact ih59 x_33 ft x_24 σ59x _ _ _ _ (cnt_m iv59_0 (Int32.not_le.mp c_19) hm59 ex_33) (cnt_0 iv59_0 (Int32.not_le.mp c_19) ex_33) hIσ59x frσ59x hd0 hP hD hS (lv_sub hl [0, 1, 3, 4, 5, 6, 7, 8] rfl)
            · refine lv_iload hx hb dX11_pointsAt_105 (lv_at hl 0 rfl) ?_
              refine lv_istore (lv' := [(6, .int x_24), (9, .int x_24), (8, .int i8), (7, .int bz), (4, .double y_9), (0, .ref (ad 0)), (1, .int p0), (2, .int p1), (3, .int p2)]) hx hb dX11_pointsAt_107 hl (by decide) rfl (fun ls hl => ?_)
              refine lv_goto (tgt := 116) hx hb dX11_pointsAt_109 (by decide) ?_
              obtain ⟨x_34, ex_34⟩ : ∃ zz : Int32, zz = i8 + 1 := ⟨_, rfl⟩
              refine lv_iinc (v := x_34) (lv' := [(8, .int x_34), (6, .int x_24), (9, .int x_24), (7, .int bz), (4, .double y_9), (0, .ref (ad 0)), (1, .int p0), (2, .int p1), (3, .int p2)]) hx hb dX11_pointsAt_116 hl (k := 2) rfl (by rw [ex_34]; rfl) (by decide) rfl (fun ls hl => ?_)
              refine lv_goto (tgt := 59) hx hb dX11_pointsAt_119 (by decide) ?_
              exact ih59 x_34 x_24 bz σ59x _ _ _ _ (cnt_m iv59_0 (Int32.not_le.mp c_19) hm59 ex_34) (cnt_0 iv59_0 (Int32.not_le.mp c_19) ex_34) hIσ59x frσ59x hd0 hP hD hS (lv_sub hl [0, 3, 1, 4, 5, 6, 7, 8] rfl)
    · refine lv_ldc (v := (-2147483648)) hx hb hown (hts (.constant RX11 135 (-2147483648)) (by decide +kernel)) dX11_pointsAt_43 ?_
      refine W.endD hd0 ?_
      exact W.iret (v := (-2147483648)) hx hb hr (fun t ht hW => ⟨⟨(-2147483648), σ2, rfl, ⟨hIσ2, (gFr.tr (gFr.rfl (L := [5, 7, 10]) (σ := σ)) fcσ2 (by decide)), trivial⟩, ⟨by rw [ht]; exact hP, hD⟩⟩, hS.F ht⟩) hS.2.2 dX11_pointsAt_45
  · refine lv_ldc (v := (-2147483648)) hx hb hown (hts (.constant RX11 135 (-2147483648)) (by decide +kernel)) dX11_pointsAt_13 ?_
    refine W.endD hd0 ?_
    exact W.iret (v := (-2147483648)) hx hb hr (fun t ht hW => ⟨⟨(-2147483648), σ2, rfl, ⟨hIσ2, (gFr.tr (gFr.rfl (L := [5, 7, 10]) (σ := σ)) fcσ2 (by decide)), trivial⟩, ⟨by rw [ht]; exact hP, hD⟩⟩, hS.F ht⟩) hS.2.2 dX11_pointsAt_15
set_option maxHeartbeats 8000000 in
set_option maxRecDepth 100000 in
theorem n_X11_quote (l : Launch) (dC : Nat → ClassId) (dI : Nat → Nat → Nat) (ad : Nat → Nat) (cA : Nat → ClassId) (adK adV : Nat → Nat) (sz : Nat) (σ : gs) (hI : InvX σ) (p0 : Int32) (p1 : Int32) : MetD lw_cs l yX11_quote wsX11_quote ({ frames := 1, cells := 0, slots := 0, locals := 29 }) (va_Pc [.ref (ad 0), .int p0, .int p1] (gPre adK adV (dC, dI) (wX ad cA σ) (tX cA) sz)) (va_Qi (fun (r : Int32) (τ : gs) => InvX τ ∧ gFr [10] σ τ ∧ (True)) (fun τ t => gPost (dC, dI) (va_A (wX ad cA σ) sz) (wX ad cA τ) t) (va_A (wX ad cA σ) sz)) 0 0 (va_A (wX ad cA σ) sz) := by
  refine MetD.ofW (cc := cX11_quote) (maxL := 3) (ret := (some .int)) (by decide) rfl ?_
  intro p e s m args below meth c s₁ B hml hv hd0
  obtain ⟨rfl, hsz, hP, hK, hD0, hT⟩ := hv
  have hx := B.exec
  have hb := B.bytes
  have hr := B.returns
  have hts0 := atoms_spec (ws := wsX11_quote) B.pre
  have hK0 := hK
  have hown0 : s.vm.findClass RX11 = some m.cls := findClass_of_methodNamed B.named
  have hlocks := B.notSynchronized
  have hinX11 : ∀ w ∈ u_ws RX11 TX11 15, w ∈ wsX11_quote := (fun _ h9 => List.mem_cons_of_mem _ (List.mem_append_left _ (List.mem_append_right _ h9)))
  have hinX4 : ∀ w ∈ u_ws RX4 TX4 12, w ∈ wsX11_quote := (fun _ h9 => List.mem_cons_of_mem _ (List.mem_append_right _ h9))
  subst hsz
  have hD := hD0.self (sz := s.heap.size)
  generalize hAe : va_A (wX ad cA σ) s.heap.size = A at hD hT ⊢
  have hA : ∀ q : Nat, s.heap.size ≤ q → A q := fun q h => by rw [← hAe]; exact Or.inr h
  have hS : va_S A s.heap s.heap [] := va_S.rf
  have hl := lv_entry ([.ref (ad 0), .int p0, .int p1]) (n := 3) (Nat.le_of_ble_eq_true rfl)
  rw [lg_entry_eq]
  generalize (lg_sl ([.ref (ad 0), .int p0, .int p1]) ++ List.replicate (3 - (lg_sl ([.ref (ad 0), .int p0, .int p1])).length) Slot.unset).toArray = ls at hl ⊢
  have hl : lv_has ls 3 [(0, .ref (ad 0)), (1, .int p0), (2, .int p1)] := hl
  have hts := dr_words hts0 (s.drawn)
  have hK := gKd hK0 (s.drawn)
  have hown : (s.setDrawn (s.drawn)).vm.findClass RX11 = some m.cls := hown0
  refine lv_aload_n hx hb dX11_quote_0 rfl (lv_at hl 0 rfl) ?_
  refine va_get (D := (dC, dI)) (ci := 10) (v := .int ((σ 0).1 10)) (C := RX11) (T := TX11) (N := 15) hx hb hts hinX11 hown hK hP 0 (at_10 rfl) rfl 10 (by decide) (hts (.fieldLink RX11 67 "BondCalendars" "hasDesk" "Z") (by decide +kernel)) (fun _ h9 => h9) rfl dX11_quote_1 ?_
  refine lv_if_eq (tgt := 27) hx hb dX11_quote_4 (by decide) (fun c_1 => ?_) (fun c_1 => ?_)
  · refine lv_aload_n hx hb dX11_quote_27 rfl (lv_at hl 0 rfl) ?_
    refine lv_iconst (v := 1) hx hb dX11_quote_28 (by decide) ?_
    have hF := gFree hD hS hA
    refine va_calliD hd0 (va_runV_D (As := [.int 1]) (rest := []) ⟨hx, hb, hml, hown, hts⟩ (n_X11_refuse l dC dI ad cA adK adV s.heap.size σ hI 1) (cwV 1 hts gX11_quote_X11_refuse rfl rfl rfl (by decide +kernel) ⟨Nat.le_of_ble_eq_true rfl, Nat.le_of_ble_eq_true rfl⟩) ⟨gBlind, va_recv hK hP (ci := 10) (q0 := 0) rfl (at_10 rfl), gStart (As := [.ref (ad 0), .int 1]) hP hD hK0 hT hS hF (s.drawn)⟩ rfl rfl hl.1 rfl (lv_room (Nat.le_of_ble_eq_true rfl)) dX11_quote_29 ⟨Nat.le_of_ble_eq_true rfl, Nat.le_of_ble_eq_true rfl⟩) hS (fun q _ h => hF q h) hF (fun r_2 σ1 t H locs ht hvm hw hB hz1 hk1 hS d_3 hd0 => ?_)
    have hts := dr_words hts0 (d_3)
    have hK := gKd hK0 (d_3)
    have hown : (s.setDrawn (d_3)).vm.findClass RX11 = some m.cls := hown0
    obtain ⟨hP, hD⟩ := gBack hF ht hB
    obtain ⟨hIσ1, fcσ1, hp_4⟩ := hw
    refine W.endD hd0 ?_
    exact W.iret (v := r_2) hx hb hr (fun t ht hW => ⟨⟨r_2, σ1, rfl, ⟨hIσ1, (gFr.tr (gFr.rfl (L := [10]) (σ := σ)) fcσ1 (by decide)), trivial⟩, ⟨by rw [ht]; exact hP, hD⟩⟩, hS.F ht⟩) hS.2.2 dX11_quote_32
  · refine lv_aload_n hx hb dX11_quote_7 rfl (lv_at hl 0 rfl) ?_
    obtain ⟨b_5, hb_6, q_7⟩ := rq_10_8 (c := 0) hI rfl
    refine va_get (D := (dC, dI)) (ci := 10) (v := .ref (ad b_5)) (C := RX11) (T := TX11) (N := 15) hx hb hts hinX11 hown hK hP 0 (at_10 rfl) rfl 8 (by decide) (hts (.fieldLink RX11 60 "BondCalendars" "live" "LBondCalendars$Desk;") (by decide +kernel)) (fun _ h9 => h9) (by show some (va_re ad ((σ 0).2.2.2 8)) = _; rw [q_7]; rfl) dX11_quote_8 ?_
    refine lv_iload_n hx hb dX11_quote_11 rfl (lv_at hl 1 rfl) ?_
    have hF := gFree hD hS hA
    refine va_calliD hd0 (va_runV_D (As := [.int p0]) (rest := []) ⟨hx, hb, hml, hown, hts⟩ (n_X4_hasQuote l dC dI ad cA adK adV s.heap.size σ hI b_5 hb_6 p0) (cwV 1 hts gX11_quote_X4_hasQuote rfl rfl rfl (by decide +kernel) ⟨Nat.le_of_ble_eq_true rfl, Nat.le_of_ble_eq_true rfl⟩) ⟨gBlind, va_recv hK hP (ci := 3) (q0 := b_5) rfl (at_3 hb_6), gStart (As := [.ref (ad b_5), .int p0]) hP hD hK0 hT hS hF (s.drawn)⟩ rfl rfl hl.1 rfl (lv_room (Nat.le_of_ble_eq_true rfl)) dX11_quote_12 ⟨Nat.le_of_ble_eq_true rfl, Nat.le_of_ble_eq_true rfl⟩) hS (fun q _ h => hF q h) hF (fun r_8 σ2 t H locs ht hvm hw hB hz1 hk1 hS d_9 hd0 => ?_)
    have hts := dr_words hts0 (d_9)
    have hK := gKd hK0 (d_9)
    have hown : (s.setDrawn (d_9)).vm.findClass RX11 = some m.cls := hown0
    obtain ⟨hP, hD⟩ := gBack hF ht hB
    obtain ⟨hIσ2, hro, hp_10⟩ := hw
    subst hro
    refine lv_if_eq (tgt := 27) hx hb dX11_quote_15 (by decide) (fun c_11 => ?_) (fun c_11 => ?_)
    · refine lv_aload_n hx hb dX11_quote_27 rfl (lv_at hl 0 rfl) ?_
      refine lv_iconst (v := 1) hx hb dX11_quote_28 (by decide) ?_
      have hF := gFree hD hS hA
      refine va_calliD hd0 (va_runV_D (As := [.int 1]) (rest := []) ⟨hx, hb, hml, hown, hts⟩ (n_X11_refuse l dC dI ad cA adK adV H.size σ hI 1) (cwV 1 hts gX11_quote_X11_refuse rfl rfl rfl (by decide +kernel) ⟨Nat.le_of_ble_eq_true rfl, Nat.le_of_ble_eq_true rfl⟩) ⟨gBlind, va_recv hK hP (ci := 10) (q0 := 0) rfl (at_10 rfl), gStart (As := [.ref (ad 0), .int 1]) hP hD hK0 hT hS hF (d_9)⟩ rfl rfl hl.1 rfl (lv_room (Nat.le_of_ble_eq_true rfl)) dX11_quote_29 ⟨Nat.le_of_ble_eq_true rfl, Nat.le_of_ble_eq_true rfl⟩) hS (fun q _ h => hF q h) hF (fun r_12 σ3 t H locs ht hvm hw hB hz1 hk1 hS d_13 hd0 => ?_)
      have hts := dr_words hts0 (d_13)
      have hK := gKd hK0 (d_13)
      have hown : (s.setDrawn (d_13)).vm.findClass RX11 = some m.cls := hown0
      obtain ⟨hP, hD⟩ := gBack hF ht hB
      obtain ⟨hIσ3, fcσ3, hp_14⟩ := hw
      refine W.endD hd0 ?_
      exact W.iret (v := r_12) hx hb hr (fun t ht hW => ⟨⟨r_12, σ3, rfl, ⟨hIσ3, (gFr.tr (gFr.rfl (L := [10]) (σ := σ)) fcσ3 (by decide)), trivial⟩, ⟨by rw [ht]; exact hP, hD⟩⟩, hS.F ht⟩) hS.2.2 dX11_quote_32
    · refine lv_iload_n hx hb dX11_quote_18 rfl (lv_at hl 2 rfl) ?_
      refine lv_if_lt (tgt := 27) hx hb dX11_quote_19 (by decide) (fun c_15 => ?_) (fun c_15 => ?_)
      · refine lv_aload_n hx hb dX11_quote_27 rfl (lv_at hl 0 rfl) ?_
        refine lv_iconst (v := 1) hx hb dX11_quote_28 (by decide) ?_
        have hF := gFree hD hS hA
        refine va_calliD hd0 (va_runV_D (As := [.int 1]) (rest := []) ⟨hx, hb, hml, hown, hts⟩ (n_X11_refuse l dC dI ad cA adK adV H.size σ hI 1) (cwV 1 hts gX11_quote_X11_refuse rfl rfl rfl (by decide +kernel) ⟨Nat.le_of_ble_eq_true rfl, Nat.le_of_ble_eq_true rfl⟩) ⟨gBlind, va_recv hK hP (ci := 10) (q0 := 0) rfl (at_10 rfl), gStart (As := [.ref (ad 0), .int 1]) hP hD hK0 hT hS hF (d_9)⟩ rfl rfl hl.1 rfl (lv_room (Nat.le_of_ble_eq_true rfl)) dX11_quote_29 ⟨Nat.le_of_ble_eq_true rfl, Nat.le_of_ble_eq_true rfl⟩) hS (fun q _ h => hF q h) hF (fun r_16 σ4 t H locs ht hvm hw hB hz1 hk1 hS d_17 hd0 => ?_)
        have hts := dr_words hts0 (d_17)
        have hK := gKd hK0 (d_17)
        have hown : (s.setDrawn (d_17)).vm.findClass RX11 = some m.cls := hown0
        obtain ⟨hP, hD⟩ := gBack hF ht hB
        obtain ⟨hIσ4, fcσ4, hp_18⟩ := hw
        refine W.endD hd0 ?_
        exact W.iret (v := r_16) hx hb hr (fun t ht hW => ⟨⟨r_16, σ4, rfl, ⟨hIσ4, (gFr.tr (gFr.rfl (L := [10]) (σ := σ)) fcσ4 (by decide)), trivial⟩, ⟨by rw [ht]; exact hP, hD⟩⟩, hS.F ht⟩) hS.2.2 dX11_quote_32
      · refine lv_iload_n hx hb dX11_quote_22 rfl (lv_at hl 2 rfl) ?_
        refine lv_iconst (v := 2) hx hb dX11_quote_23 (by decide) ?_
        refine lv_icmp_le (tgt := 33) hx hb dX11_quote_24 (by decide) (fun c_19 => ?_) (fun c_19 => ?_)
        · refine lv_aload_n hx hb dX11_quote_33 rfl (lv_at hl 0 rfl) ?_
          refine lv_iconst (v := 0) hx hb dX11_quote_34 (by decide) ?_
          refine va_put (D := (dC, dI)) (ci := 10) (v := .int 0) (C := RX11) (T := TX11) (N := 15) hx hb hts hinX11 tyX11 tyX11_ok nmX11 hown hK hP hD hS 0 (at_10 rfl) rfl 12 (by decide) (hts (.fieldLink RX11 74 "BondCalendars" "refusal" "I") (by decide +kernel)) (fun _ h9 => h9) rfl (ty := .int) (by decide +kernel) rfl rfl (Nat.le_of_ble_eq_true rfl) dX11_quote_35 (fun H locs hP hD hS => ?_)
          obtain ⟨σ5, eσ5, hP, hD⟩ := gPut (se_10_12 rfl) hP hD
          have hIσ5 : InvX σ5 := by rw [eσ5]; exact inv_I hI (ok_10_12 rfl _)
          have frσ5 : gFr [10] σ σ5 := by rw [eσ5]; exact gFr.pI (gFr.rfl (L := [10]) (σ := σ)) rfl (by decide)
          refine lv_iload_n hx hb dX11_quote_38 rfl (lv_at hl 2 rfl) ?_
          by_cases c_20 : p1 = 0
          · refine lv_lookup (off := 25) (tgt := 64) hx hb dX11_quote_39 (by decide) (by rw [c_20]; decide) (by decide) ?_
            refine lv_aload_n hx hb dX11_quote_64 rfl (lv_at hl 0 rfl) ?_
            refine va_get (D := (dC, dI)) (ci := 10) (v := .ref (ad b_5)) (C := RX11) (T := TX11) (N := 15) hx hb hts hinX11 hown hK hP 0 (at_10 rfl) rfl 8 (by decide) (hts (.fieldLink RX11 60 "BondCalendars" "live" "LBondCalendars$Desk;") (by decide +kernel)) (fun _ h9 => h9) (by show some (va_re ad ((σ5 0).2.2.2 8)) = _; rw [eσ5, gI_q, q_7]; rfl) dX11_quote_65 ?_
            refine va_get (D := (dC, dI)) (ci := 3) (v := .ref (ad (b_5 + 57))) (C := RX4) (T := TX4) (N := 12) hx hb hts hinX4 hown hK hP b_5 (at_3 hb_6) rfl 6 (by decide) (hts (.fieldLink RX11 312 "BondCalendars$Desk" "quotedBonds" "[I") (by decide +kernel)) (fun _ h9 => h9) rfl dX11_quote_68 ?_
            refine lv_iload_n hx hb dX11_quote_71 rfl (lv_at hl 1 rfl) ?_
            refine va_iald hx hb hK hP ((b_5 + 57)) ((b_5 + 57)) (at_30 (kk_3_57 hb_6)) (ty_30 (kk_3_57 hb_6)) (gin (N := 6) (by decide) (hp_10.2 c_11).1 (hp_10.2 c_11).2) dX11_quote_72 ?_
            refine lv_topi (fun x_21 _ => ?_)
            refine W.endD hd0 ?_
            exact W.iret (v := x_21) hx hb hr (fun t ht hW => ⟨⟨x_21, σ5, rfl, ⟨hIσ5, frσ5, trivial⟩, ⟨by rw [ht]; exact hP, hD⟩⟩, hS.F ht⟩) hS.2.2 dX11_quote_73
          by_cases c_22 : p1 = 1
          · refine lv_lookup (off := 35) (tgt := 74) hx hb dX11_quote_39 (by decide) (by rw [c_22]; decide) (by decide) ?_
            refine lv_aload_n hx hb dX11_quote_74 rfl (lv_at hl 0 rfl) ?_
            refine va_get (D := (dC, dI)) (ci := 10) (v := .ref (ad b_5)) (C := RX11) (T := TX11) (N := 15) hx hb hts hinX11 hown hK hP 0 (at_10 rfl) rfl 8 (by decide) (hts (.fieldLink RX11 60 "BondCalendars" "live" "LBondCalendars$Desk;") (by decide +kernel)) (fun _ h9 => h9) (by show some (va_re ad ((σ5 0).2.2.2 8)) = _; rw [eσ5, gI_q, q_7]; rfl) dX11_quote_75 ?_
            refine va_get (D := (dC, dI)) (ci := 3) (v := .ref (ad (b_5 + 58))) (C := RX4) (T := TX4) (N := 12) hx hb hts hinX4 hown hK hP b_5 (at_3 hb_6) rfl 7 (by decide) (hts (.fieldLink RX11 315 "BondCalendars$Desk" "quotedDays" "[I") (by decide +kernel)) (fun _ h9 => h9) rfl dX11_quote_78 ?_
            refine lv_iload_n hx hb dX11_quote_81 rfl (lv_at hl 1 rfl) ?_
            refine va_iald hx hb hK hP ((b_5 + 58)) ((b_5 + 58)) (at_30 (kk_3_58 hb_6)) (ty_30 (kk_3_58 hb_6)) (gin (N := 6) (by decide) (hp_10.2 c_11).1 (hp_10.2 c_11).2) dX11_quote_82 ?_
            refine lv_topi (fun x_23 _ => ?_)
            have hF := gFree (w := []) (hx_D0 (A := A)) hS hA
            have hKe := hK.sub (tys' := []) [] rfl
            refine va_calli (va_runS (As := [.int x_23]) (rest := []) ⟨hx, hb, hml, hown, hts⟩ (k_X3_numberOf l dC dI H.size x_23 ) (va_cwS 1 hts gX11_quote_X3_numberOf rfl rfl rfl (by decide +kernel) ⟨Nat.le_of_ble_eq_true rfl, Nat.le_of_ble_eq_true rfl⟩) ⟨fun a U g mk q => by obtain ⟨q0, q1, qP, qK, qD⟩ := q; exact ⟨q0, q1, qP, va_K.moved (u := U) (U := U.calling g mk a) (Vm.Alike.refl U.vm) qK, qD⟩, fun U hU hW => ⟨rfl, by rw [hU], hx_P0, va_K.moved hW.alike hKe, hx_D0⟩⟩ rfl rfl hl.1 rfl (lv_room (Nat.le_of_ble_eq_true rfl)) dX11_quote_83 ⟨Nat.le_of_ble_eq_true rfl, Nat.le_of_ble_eq_true rfl⟩) hS (fun q _ h => hF q h) hF (fun r_24 u t H locs ht hvm hw hB hz1 hk1 hS => ?_)
            have hP := gKeep hP hk1
            refine W.endD hd0 ?_
            exact W.iret (v := r_24) hx hb hr (fun t ht hW => ⟨⟨r_24, σ5, rfl, ⟨hIσ5, frσ5, trivial⟩, ⟨by rw [ht]; exact hP, hD⟩⟩, hS.F ht⟩) hS.2.2 dX11_quote_86
          refine lv_lookup (off := 48) (tgt := 87) hx hb dX11_quote_39 (by decide) (by have q0 := lv_neT (a := 0) c_20 rfl; have q1 := lv_neT (a := 1) c_22 rfl; show Op.lookupswitch.offset [(0, 25), (1, 35)] 48 _ = 48; rw [Op.lookupswitch.offset_cons, if_neg (fun e => q0 e.symm), Op.lookupswitch.offset_cons, if_neg (fun e => q1 e.symm)]; rfl) (by decide) ?_
          refine lv_aload_n hx hb dX11_quote_87 rfl (lv_at hl 0 rfl) ?_
          refine va_get (D := (dC, dI)) (ci := 10) (v := .ref (ad b_5)) (C := RX11) (T := TX11) (N := 15) hx hb hts hinX11 hown hK hP 0 (at_10 rfl) rfl 8 (by decide) (hts (.fieldLink RX11 60 "BondCalendars" "live" "LBondCalendars$Desk;") (by decide +kernel)) (fun _ h9 => h9) (by show some (va_re ad ((σ5 0).2.2.2 8)) = _; rw [eσ5, gI_q, q_7]; rfl) dX11_quote_88 ?_
          refine va_get (D := (dC, dI)) (ci := 3) (v := .ref (ad (b_5 + 59))) (C := RX4) (T := TX4) (N := 12) hx hb hts hinX4 hown hK hP b_5 (at_3 hb_6) rfl 8 (by decide) (hts (.fieldLink RX11 318 "BondCalendars$Desk" "quotedPrices" "[I") (by decide +kernel)) (fun _ h9 => h9) rfl dX11_quote_91 ?_
          refine lv_iload_n hx hb dX11_quote_94 rfl (lv_at hl 1 rfl) ?_
          refine va_iald hx hb hK hP ((b_5 + 59)) ((b_5 + 59)) (at_30 (kk_3_59 hb_6)) (ty_30 (kk_3_59 hb_6)) (gin (N := 6) (by decide) (hp_10.2 c_11).1 (hp_10.2 c_11).2) dX11_quote_95 ?_
          refine lv_topi (fun x_25 _ => ?_)
          refine W.endD hd0 ?_
          exact W.iret (v := x_25) hx hb hr (fun t ht hW => ⟨⟨x_25, σ5, rfl, ⟨hIσ5, frσ5, trivial⟩, ⟨by rw [ht]; exact hP, hD⟩⟩, hS.F ht⟩) hS.2.2 dX11_quote_96
        · refine lv_aload_n hx hb dX11_quote_27 rfl (lv_at hl 0 rfl) ?_
          refine lv_iconst (v := 1) hx hb dX11_quote_28 (by decide) ?_
          have hF := gFree hD hS hA
          refine va_calliD hd0 (va_runV_D (As := [.int 1]) (rest := []) ⟨hx, hb, hml, hown, hts⟩ (n_X11_refuse l dC dI ad cA adK adV H.size σ hI 1) (cwV 1 hts gX11_quote_X11_refuse rfl rfl rfl (by decide +kernel) ⟨Nat.le_of_ble_eq_true rfl, Nat.le_of_ble_eq_true rfl⟩) ⟨gBlind, va_recv hK hP (ci := 10) (q0 := 0) rfl (at_10 rfl), gStart (As := [.ref (ad 0), .int 1]) hP hD hK0 hT hS hF (d_9)⟩ rfl rfl hl.1 rfl (lv_room (Nat.le_of_ble_eq_true rfl)) dX11_quote_29 ⟨Nat.le_of_ble_eq_true rfl, Nat.le_of_ble_eq_true rfl⟩) hS (fun q _ h => hF q h) hF (fun r_26 σ6 t H locs ht hvm hw hB hz1 hk1 hS d_27 hd0 => ?_)
          have hts := dr_words hts0 (d_27)
          have hK := gKd hK0 (d_27)
          have hown : (s.setDrawn (d_27)).vm.findClass RX11 = some m.cls := hown0
          obtain ⟨hP, hD⟩ := gBack hF ht hB
          obtain ⟨hIσ6, fcσ6, hp_28⟩ := hw
          refine W.endD hd0 ?_
          exact W.iret (v := r_26) hx hb hr (fun t ht hW => ⟨⟨r_26, σ6, rfl, ⟨hIσ6, (gFr.tr (gFr.rfl (L := [10]) (σ := σ)) fcσ6 (by decide)), trivial⟩, ⟨by rw [ht]; exact hP, hD⟩⟩, hS.F ht⟩) hS.2.2 dX11_quote_32
set_option maxHeartbeats 8000000 in
set_option maxRecDepth 100000 in
theorem n_X11_off (l : Launch) (dC : Nat → ClassId) (dI : Nat → Nat → Nat) (ad : Nat → Nat) (cA : Nat → ClassId) (adK adV : Nat → Nat) (sz : Nat) (σ : gs) (hI : InvX σ) (p0 : Int32) : MetD lw_cs l yX11_off wsX11_off ({ frames := 3, cells := 0, slots := 0, locals := 81 }) (va_Pc [.ref (ad 0), .int p0] (gPre adK adV (dC, dI) (wX ad cA σ) (tX cA) sz)) (va_Ql (fun (r : Int64) (τ : gs) => InvX τ ∧ gFr [10] σ τ ∧ (True)) (fun τ t => gPost (dC, dI) (va_A (wX ad cA σ) sz) (wX ad cA τ) t) (va_A (wX ad cA σ) sz)) 0 0 (va_A (wX ad cA σ) sz) := by
  refine MetD.ofW (cc := cX11_off) (maxL := 2) (ret := (some .long)) (by decide) rfl ?_
  intro p e s m args below meth c s₁ B hml hv hd0
  obtain ⟨rfl, hsz, hP, hK, hD0, hT⟩ := hv
  have hx := B.exec
  have hb := B.bytes
  have hr := B.returns
  have hts0 := atoms_spec (ws := wsX11_off) B.pre
  have hK0 := hK
  have hown0 : s.vm.findClass RX11 = some m.cls := findClass_of_methodNamed B.named
  have hlocks := B.notSynchronized
  have hinX11 : ∀ w ∈ u_ws RX11 TX11 15, w ∈ wsX11_off := (fun _ h9 => List.mem_cons_of_mem _ (List.mem_append_left _ (List.mem_append_left _ (List.mem_append_left _ (List.mem_append_right _ h9)))))
  subst hsz
  have hD := hD0.self (sz := s.heap.size)
  generalize hAe : va_A (wX ad cA σ) s.heap.size = A at hD hT ⊢
  have hA : ∀ q : Nat, s.heap.size ≤ q → A q := fun q h => by rw [← hAe]; exact Or.inr h
  have hS : va_S A s.heap s.heap [] := va_S.rf
  have hl := lv_entry ([.ref (ad 0), .int p0]) (n := 2) (Nat.le_of_ble_eq_true rfl)
  rw [lg_entry_eq]
  generalize (lg_sl ([.ref (ad 0), .int p0]) ++ List.replicate (2 - (lg_sl ([.ref (ad 0), .int p0])).length) Slot.unset).toArray = ls at hl ⊢
  have hl : lv_has ls 2 [(0, .ref (ad 0)), (1, .int p0)] := hl
  have hts := dr_words hts0 (s.drawn)
  have hK := gKd hK0 (s.drawn)
  have hown : (s.setDrawn (s.drawn)).vm.findClass RX11 = some m.cls := hown0
  refine lv_aload_n hx hb dX11_off_0 rfl (lv_at hl 0 rfl) ?_
  refine va_get (D := (dC, dI)) (ci := 10) (v := .int ((σ 0).1 10)) (C := RX11) (T := TX11) (N := 15) hx hb hts hinX11 hown hK hP 0 (at_10 rfl) rfl 10 (by decide) (hts (.fieldLink RX11 67 "BondCalendars" "hasDesk" "Z") (by decide +kernel)) (fun _ h9 => h9) rfl dX11_off_1 ?_
  refine lv_if_ne (tgt := 13) hx hb dX11_off_4 (by decide) (fun c_1 => ?_) (fun c_1 => ?_)
  · refine lv_iload_n hx hb dX11_off_13 rfl (lv_at hl 1 rfl) ?_
    refine lv_if_lt (tgt := 24) hx hb dX11_off_14 (by decide) (fun c_2 => ?_) (fun c_2 => ?_)
    · refine lv_aload_n hx hb dX11_off_24 rfl (lv_at hl 0 rfl) ?_
      refine lv_iconst (v := 2) hx hb dX11_off_25 (by decide) ?_
      have hF := gFree hD hS hA
      refine va_calllD hd0 (va_runV_D (As := [.int 2]) (rest := []) ⟨hx, hb, hml, hown, hts⟩ (n_X11_refuseLong l dC dI ad cA adK adV s.heap.size σ hI 2) (cwV 1 hts gX11_off_X11_refuseLong rfl rfl rfl (by decide +kernel) ⟨Nat.le_of_ble_eq_true rfl, Nat.le_of_ble_eq_true rfl⟩) ⟨gBlind, va_recv hK hP (ci := 10) (q0 := 0) rfl (at_10 rfl), gStart (As := [.ref (ad 0), .int 2]) hP hD hK0 hT hS hF (s.drawn)⟩ rfl rfl hl.1 rfl (lv_room (Nat.le_of_ble_eq_true rfl)) dX11_off_26 ⟨Nat.le_of_ble_eq_true rfl, Nat.le_of_ble_eq_true rfl⟩) hS (fun q _ h => hF q h) hF (fun r_3 σ1 t H locs ht hvm hw hB hz1 hk1 hS d_4 hd0 => ?_)
      have hts := dr_words hts0 (d_4)
      have hK := gKd hK0 (d_4)
      have hown : (s.setDrawn (d_4)).vm.findClass RX11 = some m.cls := hown0
      obtain ⟨hP, hD⟩ := gBack hF ht hB
      obtain ⟨hIσ1, fcσ1, hp_5⟩ := hw
      refine W.endD hd0 ?_
      exact W.lret (v := r_3) hx hb hr (fun t ht hW => ⟨⟨r_3, σ1, rfl, ⟨hIσ1, (gFr.tr (gFr.rfl (L := [10]) (σ := σ)) fcσ1 (by decide)), trivial⟩, ⟨by rw [ht]; exact hP, hD⟩⟩, hS.F ht⟩) hS.2.2 dX11_off_29
    · refine lv_iload_n hx hb dX11_off_17 rfl (lv_at hl 1 rfl) ?_
      refine lv_sipush (v := 2000) hx hb dX11_off_18 (by decide) ?_
      refine lv_icmp_le (tgt := 30) hx hb dX11_off_21 (by decide) (fun c_6 => ?_) (fun c_6 => ?_)
      · refine lv_aload_n hx hb dX11_off_30 rfl (lv_at hl 0 rfl) ?_
        refine lv_iconst (v := 0) hx hb dX11_off_31 (by decide) ?_
        refine va_put (D := (dC, dI)) (ci := 10) (v := .int 0) (C := RX11) (T := TX11) (N := 15) hx hb hts hinX11 tyX11 tyX11_ok nmX11 hown hK hP hD hS 0 (at_10 rfl) rfl 12 (by decide) (hts (.fieldLink RX11 74 "BondCalendars" "refusal" "I") (by decide +kernel)) (fun _ h9 => h9) rfl (ty := .int) (by decide +kernel) rfl rfl (Nat.le_of_ble_eq_true rfl) dX11_off_32 (fun H locs hP hD hS => ?_)
        obtain ⟨σ2, eσ2, hP, hD⟩ := gPut (se_10_12 rfl) hP hD
        have hIσ2 : InvX σ2 := by rw [eσ2]; exact inv_I hI (ok_10_12 rfl _)
        have frσ2 : gFr [10] σ σ2 := by rw [eσ2]; exact gFr.pI (gFr.rfl (L := [10]) (σ := σ)) rfl (by decide)
        refine lv_aload_n hx hb dX11_off_35 rfl (lv_at hl 0 rfl) ?_
        obtain ⟨b_7, hb_8, q_9⟩ := rq_10_8 (c := 0) hI rfl
        refine va_get (D := (dC, dI)) (ci := 10) (v := .ref (ad b_7)) (C := RX11) (T := TX11) (N := 15) hx hb hts hinX11 hown hK hP 0 (at_10 rfl) rfl 8 (by decide) (hts (.fieldLink RX11 60 "BondCalendars" "live" "LBondCalendars$Desk;") (by decide +kernel)) (fun _ h9 => h9) (by show some (va_re ad ((σ2 0).2.2.2 8)) = _; rw [eσ2, gI_q, q_9]; rfl) dX11_off_36 ?_
        refine lv_iload_n hx hb dX11_off_39 rfl (lv_at hl 1 rfl) ?_
        have hF := gFree hD hS hA
        refine va_calldD hd0 (va_runS_D (As := [.int p0]) (rest := [.ref (ad b_7)]) ⟨hx, hb, hml, hown, hts⟩ (n_X11_yieldOf l dC dI ad cA adK adV H.size σ2 hIσ2 p0) (va_cwS 1 hts gX11_off_X11_yieldOf rfl rfl rfl (by decide +kernel) ⟨Nat.le_of_ble_eq_true rfl, Nat.le_of_ble_eq_true rfl⟩) ⟨gBlind, gStart (As := [.int p0]) hP hD hK0 hT hS hF (s.drawn)⟩ rfl rfl hl.1 rfl (lv_room (Nat.le_of_ble_eq_true rfl)) dX11_off_40 ⟨Nat.le_of_ble_eq_true rfl, Nat.le_of_ble_eq_true rfl⟩) hS (fun q _ h => hF q h) hF (fun r_10 σ3 t H locs ht hvm hw hB hz1 hk1 hS d_11 hd0 => ?_)
        have hts := dr_words hts0 (d_11)
        have hK := gKd hK0 (d_11)
        have hown : (s.setDrawn (d_11)).vm.findClass RX11 = some m.cls := hown0
        obtain ⟨hP, hD⟩ := gBack hF ht hB
        obtain ⟨hIσ3, hro, hp_12⟩ := hw
        subst hro
        have hF := gFree hD hS hA
        refine va_calldD hd0 (va_runV_D (As := [.double r_10]) (rest := []) ⟨hx, hb, hml, hown, hts⟩ (n_X4_distanceAt l dC dI ad cA adK adV H.size σ2 hIσ2 b_7 hb_8 r_10) (cwV 1 hts gX11_off_X4_distanceAt rfl rfl rfl (by decide +kernel) ⟨Nat.le_of_ble_eq_true rfl, Nat.le_of_ble_eq_true rfl⟩) ⟨gBlind, va_recv hK hP (ci := 3) (q0 := b_7) rfl (at_3 hb_8), gStart (As := [.ref (ad b_7), .double r_10]) hP hD hK0 hT hS hF (d_11)⟩ rfl rfl hl.1 rfl (lv_room (Nat.le_of_ble_eq_true rfl)) dX11_off_43 ⟨Nat.le_of_ble_eq_true rfl, Nat.le_of_ble_eq_true rfl⟩) hS (fun q _ h => hF q h) hF (fun r_13 σ4 t H locs ht hvm hw hB hz1 hk1 hS d_14 hd0 => ?_)
        have hts := dr_words hts0 (d_14)
        have hK := gKd hK0 (d_14)
        have hown : (s.setDrawn (d_14)).vm.findClass RX11 = some m.cls := hown0
        obtain ⟨hP, hD⟩ := gBack hF ht hB
        obtain ⟨hIσ4, hro, hp_15⟩ := hw
        subst hro
        have hF := gFree hD hS hA
        refine va_calllD hd0 (va_runS_D (As := [.double r_13]) (rest := []) ⟨hx, hb, hml, hown, hts⟩ (n_X11_bitsOf l dC dI ad cA adK adV H.size σ2 hIσ2 r_13) (va_cwS 1 hts gX11_off_X11_bitsOf rfl rfl rfl (by decide +kernel) ⟨Nat.le_of_ble_eq_true rfl, Nat.le_of_ble_eq_true rfl⟩) ⟨gBlind, gStart (As := [.double r_13]) hP hD hK0 hT hS hF (d_14)⟩ rfl rfl hl.1 rfl (lv_room (Nat.le_of_ble_eq_true rfl)) dX11_off_46 ⟨Nat.le_of_ble_eq_true rfl, Nat.le_of_ble_eq_true rfl⟩) hS (fun q _ h => hF q h) hF (fun r_16 σ5 t H locs ht hvm hw hB hz1 hk1 hS d_17 hd0 => ?_)
        have hts := dr_words hts0 (d_17)
        have hK := gKd hK0 (d_17)
        have hown : (s.setDrawn (d_17)).vm.findClass RX11 = some m.cls := hown0
        obtain ⟨hP, hD⟩ := gBack hF ht hB
        obtain ⟨hIσ5, hro, hp_18⟩ := hw
        subst hro
        refine W.endD hd0 ?_
        exact W.lret (v := r_16) hx hb hr (fun t ht hW => ⟨⟨r_16, σ2, rfl, ⟨hIσ2, frσ2, trivial⟩, ⟨by rw [ht]; exact hP, hD⟩⟩, hS.F ht⟩) hS.2.2 dX11_off_49
      · refine lv_aload_n hx hb dX11_off_24 rfl (lv_at hl 0 rfl) ?_
        refine lv_iconst (v := 2) hx hb dX11_off_25 (by decide) ?_
        have hF := gFree hD hS hA
        refine va_calllD hd0 (va_runV_D (As := [.int 2]) (rest := []) ⟨hx, hb, hml, hown, hts⟩ (n_X11_refuseLong l dC dI ad cA adK adV s.heap.size σ hI 2) (cwV 1 hts gX11_off_X11_refuseLong rfl rfl rfl (by decide +kernel) ⟨Nat.le_of_ble_eq_true rfl, Nat.le_of_ble_eq_true rfl⟩) ⟨gBlind, va_recv hK hP (ci := 10) (q0 := 0) rfl (at_10 rfl), gStart (As := [.ref (ad 0), .int 2]) hP hD hK0 hT hS hF (s.drawn)⟩ rfl rfl hl.1 rfl (lv_room (Nat.le_of_ble_eq_true rfl)) dX11_off_26 ⟨Nat.le_of_ble_eq_true rfl, Nat.le_of_ble_eq_true rfl⟩) hS (fun q _ h => hF q h) hF (fun r_19 σ6 t H locs ht hvm hw hB hz1 hk1 hS d_20 hd0 => ?_)
        have hts := dr_words hts0 (d_20)
        have hK := gKd hK0 (d_20)
        have hown : (s.setDrawn (d_20)).vm.findClass RX11 = some m.cls := hown0
        obtain ⟨hP, hD⟩ := gBack hF ht hB
        obtain ⟨hIσ6, fcσ6, hp_21⟩ := hw
        refine W.endD hd0 ?_
        exact W.lret (v := r_19) hx hb hr (fun t ht hW => ⟨⟨r_19, σ6, rfl, ⟨hIσ6, (gFr.tr (gFr.rfl (L := [10]) (σ := σ)) fcσ6 (by decide)), trivial⟩, ⟨by rw [ht]; exact hP, hD⟩⟩, hS.F ht⟩) hS.2.2 dX11_off_29
  · refine lv_aload_n hx hb dX11_off_7 rfl (lv_at hl 0 rfl) ?_
    refine lv_iconst (v := 1) hx hb dX11_off_8 (by decide) ?_
    have hF := gFree hD hS hA
    refine va_calllD hd0 (va_runV_D (As := [.int 1]) (rest := []) ⟨hx, hb, hml, hown, hts⟩ (n_X11_refuseLong l dC dI ad cA adK adV s.heap.size σ hI 1) (cwV 1 hts gX11_off_X11_refuseLong rfl rfl rfl (by decide +kernel) ⟨Nat.le_of_ble_eq_true rfl, Nat.le_of_ble_eq_true rfl⟩) ⟨gBlind, va_recv hK hP (ci := 10) (q0 := 0) rfl (at_10 rfl), gStart (As := [.ref (ad 0), .int 1]) hP hD hK0 hT hS hF (s.drawn)⟩ rfl rfl hl.1 rfl (lv_room (Nat.le_of_ble_eq_true rfl)) dX11_off_9 ⟨Nat.le_of_ble_eq_true rfl, Nat.le_of_ble_eq_true rfl⟩) hS (fun q _ h => hF q h) hF (fun r_22 σ7 t H locs ht hvm hw hB hz1 hk1 hS d_23 hd0 => ?_)
    have hts := dr_words hts0 (d_23)
    have hK := gKd hK0 (d_23)
    have hown : (s.setDrawn (d_23)).vm.findClass RX11 = some m.cls := hown0
    obtain ⟨hP, hD⟩ := gBack hF ht hB
    obtain ⟨hIσ7, fcσ7, hp_24⟩ := hw
    refine W.endD hd0 ?_
    exact W.lret (v := r_22) hx hb hr (fun t ht hW => ⟨⟨r_22, σ7, rfl, ⟨hIσ7, (gFr.tr (gFr.rfl (L := [10]) (σ := σ)) fcσ7 (by decide)), trivial⟩, ⟨by rw [ht]; exact hP, hD⟩⟩, hS.F ht⟩) hS.2.2 dX11_off_12
set_option maxHeartbeats 8000000 in
set_option maxRecDepth 100000 in
theorem n_X11_flat (l : Launch) (dC : Nat → ClassId) (dI : Nat → Nat → Nat) (ad : Nat → Nat) (cA : Nat → ClassId) (adK adV : Nat → Nat) (sz : Nat) (σ : gs) (hI : InvX σ)  : MetD lw_cs l yX11_flat wsX11_flat ({ frames := 4, cells := 0, slots := 0, locals := 107 }) (va_Pc [.ref (ad 0)] (gPre adK adV (dC, dI) (wX ad cA σ) (tX cA) sz)) (va_Qi (fun (r : Int32) (τ : gs) => InvX τ ∧ gFr [3, 10] σ τ ∧ (True)) (fun τ t => gPost (dC, dI) (va_A (wX ad cA σ) sz) (wX ad cA τ) t) (va_A (wX ad cA σ) sz)) 0 0 (va_A (wX ad cA σ) sz) := by
  refine MetD.ofW (cc := cX11_flat) (maxL := 1) (ret := (some .int)) (by decide) rfl ?_
  intro p e s m args below meth c s₁ B hml hv hd0
  obtain ⟨rfl, hsz, hP, hK, hD0, hT⟩ := hv
  have hx := B.exec
  have hb := B.bytes
  have hr := B.returns
  have hts0 := atoms_spec (ws := wsX11_flat) B.pre
  have hK0 := hK
  have hown0 : s.vm.findClass RX11 = some m.cls := findClass_of_methodNamed B.named
  have hlocks := B.notSynchronized
  have hinX11 : ∀ w ∈ u_ws RX11 TX11 15, w ∈ wsX11_flat := (fun _ h9 => List.mem_cons_of_mem _ (List.mem_append_left _ (List.mem_append_left _ (List.mem_append_left _ (List.mem_append_right _ h9)))))
  have hinX4 : ∀ w ∈ u_ws RX4 TX4 12, w ∈ wsX11_flat := (fun _ h9 => List.mem_cons_of_mem _ (List.mem_append_left _ (List.mem_append_left _ (List.mem_append_right _ h9))))
  subst hsz
  have hD := hD0.self (sz := s.heap.size)
  generalize hAe : va_A (wX ad cA σ) s.heap.size = A at hD hT ⊢
  have hA : ∀ q : Nat, s.heap.size ≤ q → A q := fun q h => by rw [← hAe]; exact Or.inr h
  have hS : va_S A s.heap s.heap [] := va_S.rf
  have hl := lv_entry ([.ref (ad 0)]) (n := 1) (Nat.le_of_ble_eq_true rfl)
  rw [lg_entry_eq]
  generalize (lg_sl ([.ref (ad 0)]) ++ List.replicate (1 - (lg_sl ([.ref (ad 0)])).length) Slot.unset).toArray = ls at hl ⊢
  have hl : lv_has ls 1 [(0, .ref (ad 0))] := hl
  have hts := dr_words hts0 (s.drawn)
  have hK := gKd hK0 (s.drawn)
  have hown : (s.setDrawn (s.drawn)).vm.findClass RX11 = some m.cls := hown0
  refine lv_aload_n hx hb dX11_flat_0 rfl (lv_at hl 0 rfl) ?_
  refine va_get (D := (dC, dI)) (ci := 10) (v := .int ((σ 0).1 10)) (C := RX11) (T := TX11) (N := 15) hx hb hts hinX11 hown hK hP 0 (at_10 rfl) rfl 10 (by decide) (hts (.fieldLink RX11 67 "BondCalendars" "hasDesk" "Z") (by decide +kernel)) (fun _ h9 => h9) rfl dX11_flat_1 ?_
  refine lv_if_ne (tgt := 13) hx hb dX11_flat_4 (by decide) (fun c_1 => ?_) (fun c_1 => ?_)
  · refine lv_aload_n hx hb dX11_flat_13 rfl (lv_at hl 0 rfl) ?_
    refine lv_iconst (v := 0) hx hb dX11_flat_14 (by decide) ?_
    refine va_put (D := (dC, dI)) (ci := 10) (v := .int 0) (C := RX11) (T := TX11) (N := 15) hx hb hts hinX11 tyX11 tyX11_ok nmX11 hown hK hP hD hS 0 (at_10 rfl) rfl 12 (by decide) (hts (.fieldLink RX11 74 "BondCalendars" "refusal" "I") (by decide +kernel)) (fun _ h9 => h9) rfl (ty := .int) (by decide +kernel) rfl rfl (Nat.le_of_ble_eq_true rfl) dX11_flat_15 (fun H locs hP hD hS => ?_)
    obtain ⟨σ1, eσ1, hP, hD⟩ := gPut (se_10_12 rfl) hP hD
    have hIσ1 : InvX σ1 := by rw [eσ1]; exact inv_I hI (ok_10_12 rfl _)
    have frσ1 : gFr [3, 10] σ σ1 := by rw [eσ1]; exact gFr.pI (gFr.rfl (L := [3, 10]) (σ := σ)) rfl (by decide)
    refine lv_aload_n hx hb dX11_flat_18 rfl (lv_at hl 0 rfl) ?_
    obtain ⟨b_2, hb_3, q_4⟩ := rq_10_8 (c := 0) hI rfl
    refine va_get (D := (dC, dI)) (ci := 10) (v := .ref (ad b_2)) (C := RX11) (T := TX11) (N := 15) hx hb hts hinX11 hown hK hP 0 (at_10 rfl) rfl 8 (by decide) (hts (.fieldLink RX11 60 "BondCalendars" "live" "LBondCalendars$Desk;") (by decide +kernel)) (fun _ h9 => h9) (by show some (va_re ad ((σ1 0).2.2.2 8)) = _; rw [eσ1, gI_q, q_4]; rfl) dX11_flat_19 ?_
    refine va_get (D := (dC, dI)) (ci := 3) (v := .int ((σ b_2).1 9)) (C := RX4) (T := TX4) (N := 12) hx hb hts hinX4 hown hK hP b_2 (at_3 hb_3) rfl 9 (by decide) (hts (.fieldLink RX11 328 "BondCalendars$Desk" "quoteCount" "I") (by decide +kernel)) (fun _ h9 => h9) (congrArg (fun z => some (Value.int z)) (show (σ1 b_2).1 9 = ((σ b_2).1 9) from by rw [eσ1, gI_ne _ _ _ (kne hb_3 rfl (by decide))])) dX11_flat_22 ?_
    refine lv_if_ne (tgt := 31) hx hb dX11_flat_25 (by decide) (fun c_5 => ?_) (fun c_5 => ?_)
    · refine lv_aload_n hx hb dX11_flat_31 rfl (lv_at hl 0 rfl) ?_
      refine va_get (D := (dC, dI)) (ci := 10) (v := .ref (ad b_2)) (C := RX11) (T := TX11) (N := 15) hx hb hts hinX11 hown hK hP 0 (at_10 rfl) rfl 8 (by decide) (hts (.fieldLink RX11 60 "BondCalendars" "live" "LBondCalendars$Desk;") (by decide +kernel)) (fun _ h9 => h9) (by show some (va_re ad ((σ1 0).2.2.2 8)) = _; rw [eσ1, gI_q, q_4]; rfl) dX11_flat_32 ?_
      refine va_get (D := (dC, dI)) (ci := 3) (v := .int ((σ b_2).1 10)) (C := RX4) (T := TX4) (N := 12) hx hb hts hinX4 hown hK hP b_2 (at_3 hb_3) rfl 10 (by decide) (hts (.fieldLink RX11 331 "BondCalendars$Desk" "flatPoints" "I") (by decide +kernel)) (fun _ h9 => h9) (congrArg (fun z => some (Value.int z)) (show (σ1 b_2).1 10 = ((σ b_2).1 10) from by rw [eσ1, gI_ne _ _ _ (kne hb_3 rfl (by decide))])) dX11_flat_35 ?_
      refine lv_iconst (v := (-1)) hx hb dX11_flat_38 (by decide) ?_
      refine lv_icmp_ne (tgt := 53) hx hb dX11_flat_39 (by decide) (fun c_6 => ?_) (fun c_6 => ?_)
      · refine lv_aload_n hx hb dX11_flat_53 rfl (lv_at hl 0 rfl) ?_
        refine va_get (D := (dC, dI)) (ci := 10) (v := .ref (ad b_2)) (C := RX11) (T := TX11) (N := 15) hx hb hts hinX11 hown hK hP 0 (at_10 rfl) rfl 8 (by decide) (hts (.fieldLink RX11 60 "BondCalendars" "live" "LBondCalendars$Desk;") (by decide +kernel)) (fun _ h9 => h9) (by show some (va_re ad ((σ1 0).2.2.2 8)) = _; rw [eσ1, gI_q, q_4]; rfl) dX11_flat_54 ?_
        refine va_get (D := (dC, dI)) (ci := 3) (v := .int ((σ b_2).1 10)) (C := RX4) (T := TX4) (N := 12) hx hb hts hinX4 hown hK hP b_2 (at_3 hb_3) rfl 10 (by decide) (hts (.fieldLink RX11 331 "BondCalendars$Desk" "flatPoints" "I") (by decide +kernel)) (fun _ h9 => h9) (congrArg (fun z => some (Value.int z)) (show (σ1 b_2).1 10 = ((σ b_2).1 10) from by rw [eσ1, gI_ne _ _ _ (kne hb_3 rfl (by decide))])) dX11_flat_57 ?_
        refine W.endD hd0 ?_
        exact W.iret (v := ((σ b_2).1 10)) hx hb hr (fun t ht hW => ⟨⟨((σ b_2).1 10), σ1, rfl, ⟨hIσ1, frσ1, trivial⟩, ⟨by rw [ht]; exact hP, hD⟩⟩, hS.F ht⟩) hS.2.2 dX11_flat_60
      · refine lv_aload_n hx hb dX11_flat_42 rfl (lv_at hl 0 rfl) ?_
        refine va_get (D := (dC, dI)) (ci := 10) (v := .ref (ad b_2)) (C := RX11) (T := TX11) (N := 15) hx hb hts hinX11 hown hK hP 0 (at_10 rfl) rfl 8 (by decide) (hts (.fieldLink RX11 60 "BondCalendars" "live" "LBondCalendars$Desk;") (by decide +kernel)) (fun _ h9 => h9) (by show some (va_re ad ((σ1 0).2.2.2 8)) = _; rw [eσ1, gI_q, q_4]; rfl) dX11_flat_43 ?_
        refine lv_aload_n hx hb dX11_flat_46 rfl (lv_at hl 0 rfl) ?_
        have hF := gFree hD hS hA
        refine va_calliD hd0 (va_runV_D (As := []) (rest := [.ref (ad b_2)]) ⟨hx, hb, hml, hown, hts⟩ (n_X11_nearestPoints l dC dI ad cA adK adV H.size σ1 hIσ1 ) (cwV 0 hts gX11_flat_X11_nearestPoints rfl rfl rfl (by decide +kernel) ⟨Nat.le_of_ble_eq_true rfl, Nat.le_of_ble_eq_true rfl⟩) ⟨gBlind, va_recv hK hP (ci := 10) (q0 := 0) rfl (at_10 rfl), gStart (As := [.ref (ad 0)]) hP hD hK0 hT hS hF (s.drawn)⟩ rfl rfl hl.1 rfl (lv_room (Nat.le_of_ble_eq_true rfl)) dX11_flat_47 ⟨Nat.le_of_ble_eq_true rfl, Nat.le_of_ble_eq_true rfl⟩) hS (fun q _ h => hF q h) hF (fun r_7 σ2 t H locs ht hvm hw hB hz1 hk1 hS d_8 hd0 => ?_)
        have hts := dr_words hts0 (d_8)
        have hK := gKd hK0 (d_8)
        have hown : (s.setDrawn (d_8)).vm.findClass RX11 = some m.cls := hown0
        obtain ⟨hP, hD⟩ := gBack hF ht hB
        obtain ⟨hIσ2, hro, hp_9⟩ := hw
        subst hro
        refine va_put (D := (dC, dI)) (ci := 3) (v := .int r_7) (C := RX4) (T := TX4) (N := 12) hx hb hts hinX4 tyX4 tyX4_ok nmX4 hown hK hP hD hS b_2 (at_3 hb_3) rfl 10 (by decide) (hts (.fieldLink RX11 331 "BondCalendars$Desk" "flatPoints" "I") (by decide +kernel)) (fun _ h9 => h9) rfl (ty := .int) (by decide +kernel) rfl rfl (Nat.le_of_ble_eq_true rfl) dX11_flat_50 (fun H locs hP hD hS => ?_)
        obtain ⟨σ3, eσ3, hP, hD⟩ := gPut (se_3_10 hb_3) hP hD
        have hIσ3 : InvX σ3 := by rw [eσ3]; exact inv_I hIσ1 (ok_3_10 hb_3 _)
        have frσ3 : gFr [3, 10] σ σ3 := by rw [eσ3]; exact gFr.pI frσ1 hb_3 (by decide)
        refine lv_aload_n hx hb dX11_flat_53 rfl (lv_at hl 0 rfl) ?_
        refine va_get (D := (dC, dI)) (ci := 10) (v := .ref (ad b_2)) (C := RX11) (T := TX11) (N := 15) hx hb hts hinX11 hown hK hP 0 (at_10 rfl) rfl 8 (by decide) (hts (.fieldLink RX11 60 "BondCalendars" "live" "LBondCalendars$Desk;") (by decide +kernel)) (fun _ h9 => h9) (by show some (va_re ad ((σ3 0).2.2.2 8)) = _; rw [eσ3, gI_ne _ _ _ (kne rfl hb_3 (by decide)), eσ1, gI_q, q_4]; rfl) dX11_flat_54 ?_
        refine va_get (D := (dC, dI)) (ci := 3) (v := .int r_7) (C := RX4) (T := TX4) (N := 12) hx hb hts hinX4 hown hK hP b_2 (at_3 hb_3) rfl 10 (by decide) (hts (.fieldLink RX11 331 "BondCalendars$Desk" "flatPoints" "I") (by decide +kernel)) (fun _ h9 => h9) (congrArg (fun z => some (Value.int z)) (show (σ3 b_2).1 10 = r_7 from by rw [eσ3, gI_self])) dX11_flat_57 ?_
        refine W.endD hd0 ?_
        exact W.iret (v := r_7) hx hb hr (fun t ht hW => ⟨⟨r_7, σ3, rfl, ⟨hIσ3, frσ3, trivial⟩, ⟨by rw [ht]; exact hP, hD⟩⟩, hS.F ht⟩) hS.2.2 dX11_flat_60
    · refine lv_bipush (v := (-2)) hx hb dX11_flat_28 (by decide) ?_
      refine W.endD hd0 ?_
      exact W.iret (v := (-2)) hx hb hr (fun t ht hW => ⟨⟨(-2), σ1, rfl, ⟨hIσ1, frσ1, trivial⟩, ⟨by rw [ht]; exact hP, hD⟩⟩, hS.F ht⟩) hS.2.2 dX11_flat_30
  · refine lv_aload_n hx hb dX11_flat_7 rfl (lv_at hl 0 rfl) ?_
    refine lv_iconst (v := 1) hx hb dX11_flat_8 (by decide) ?_
    have hF := gFree hD hS hA
    refine va_calliD hd0 (va_runV_D (As := [.int 1]) (rest := []) ⟨hx, hb, hml, hown, hts⟩ (n_X11_refuse l dC dI ad cA adK adV s.heap.size σ hI 1) (cwV 1 hts gX11_flat_X11_refuse rfl rfl rfl (by decide +kernel) ⟨Nat.le_of_ble_eq_true rfl, Nat.le_of_ble_eq_true rfl⟩) ⟨gBlind, va_recv hK hP (ci := 10) (q0 := 0) rfl (at_10 rfl), gStart (As := [.ref (ad 0), .int 1]) hP hD hK0 hT hS hF (s.drawn)⟩ rfl rfl hl.1 rfl (lv_room (Nat.le_of_ble_eq_true rfl)) dX11_flat_9 ⟨Nat.le_of_ble_eq_true rfl, Nat.le_of_ble_eq_true rfl⟩) hS (fun q _ h => hF q h) hF (fun r_10 σ4 t H locs ht hvm hw hB hz1 hk1 hS d_11 hd0 => ?_)
    have hts := dr_words hts0 (d_11)
    have hK := gKd hK0 (d_11)
    have hown : (s.setDrawn (d_11)).vm.findClass RX11 = some m.cls := hown0
    obtain ⟨hP, hD⟩ := gBack hF ht hB
    obtain ⟨hIσ4, fcσ4, hp_12⟩ := hw
    refine W.endD hd0 ?_
    exact W.iret (v := r_10) hx hb hr (fun t ht hW => ⟨⟨r_10, σ4, rfl, ⟨hIσ4, (gFr.tr (gFr.rfl (L := [3, 10]) (σ := σ)) fcσ4 (by decide)), trivial⟩, ⟨by rw [ht]; exact hP, hD⟩⟩, hS.F ht⟩) hS.2.2 dX11_flat_12
set_option maxHeartbeats 8000000 in
set_option maxRecDepth 100000 in
theorem n_X11_now (l : Launch) (dC : Nat → ClassId) (dI : Nat → Nat → Nat) (ad : Nat → Nat) (cA : Nat → ClassId) (adK adV : Nat → Nat) (sz : Nat) (σ : gs) (hI : InvX σ)  : MetD lw_cs l yX11_now wsX11_now ({ frames := 1, cells := 0, slots := 0, locals := 29 }) (va_Pc [.ref (ad 0)] (gPre adK adV (dC, dI) (wX ad cA σ) (tX cA) sz)) (va_Qi (fun (r : Int32) (τ : gs) => InvX τ ∧ gFr [10] σ τ ∧ (True)) (fun τ t => gPost (dC, dI) (va_A (wX ad cA σ) sz) (wX ad cA τ) t) (va_A (wX ad cA σ) sz)) 0 0 (va_A (wX ad cA σ) sz) := by
  refine MetD.ofW (cc := cX11_now) (maxL := 1) (ret := (some .int)) (by decide) rfl ?_
  intro p e s m args below meth c s₁ B hml hv hd0
  obtain ⟨rfl, hsz, hP, hK, hD0, hT⟩ := hv
  have hx := B.exec
  have hb := B.bytes
  have hr := B.returns
  have hts0 := atoms_spec (ws := wsX11_now) B.pre
  have hK0 := hK
  have hown0 : s.vm.findClass RX11 = some m.cls := findClass_of_methodNamed B.named
  have hlocks := B.notSynchronized
  have hinX11 : ∀ w ∈ u_ws RX11 TX11 15, w ∈ wsX11_now := (fun _ h9 => List.mem_cons_of_mem _ (List.mem_append_left _ (List.mem_append_right _ h9)))
  have hinX1 : ∀ w ∈ u_ws RX1 TX1 4, w ∈ wsX11_now := (fun _ h9 => List.mem_cons_of_mem _ (List.mem_append_right _ h9))
  subst hsz
  have hD := hD0.self (sz := s.heap.size)
  generalize hAe : va_A (wX ad cA σ) s.heap.size = A at hD hT ⊢
  have hA : ∀ q : Nat, s.heap.size ≤ q → A q := fun q h => by rw [← hAe]; exact Or.inr h
  have hS : va_S A s.heap s.heap [] := va_S.rf
  have hl := lv_entry ([.ref (ad 0)]) (n := 1) (Nat.le_of_ble_eq_true rfl)
  rw [lg_entry_eq]
  generalize (lg_sl ([.ref (ad 0)]) ++ List.replicate (1 - (lg_sl ([.ref (ad 0)])).length) Slot.unset).toArray = ls at hl ⊢
  have hl : lv_has ls 1 [(0, .ref (ad 0))] := hl
  have hts := dr_words hts0 (s.drawn)
  have hK := gKd hK0 (s.drawn)
  have hown : (s.setDrawn (s.drawn)).vm.findClass RX11 = some m.cls := hown0
  refine lv_aload_n hx hb dX11_now_0 rfl (lv_at hl 0 rfl) ?_
  refine va_get (D := (dC, dI)) (ci := 10) (v := .int ((σ 0).1 10)) (C := RX11) (T := TX11) (N := 15) hx hb hts hinX11 hown hK hP 0 (at_10 rfl) rfl 10 (by decide) (hts (.fieldLink RX11 67 "BondCalendars" "hasDesk" "Z") (by decide +kernel)) (fun _ h9 => h9) rfl dX11_now_1 ?_
  refine lv_if_ne (tgt := 13) hx hb dX11_now_4 (by decide) (fun c_1 => ?_) (fun c_1 => ?_)
  · refine lv_aload_n hx hb dX11_now_13 rfl (lv_at hl 0 rfl) ?_
    refine lv_iconst (v := 0) hx hb dX11_now_14 (by decide) ?_
    refine va_put (D := (dC, dI)) (ci := 10) (v := .int 0) (C := RX11) (T := TX11) (N := 15) hx hb hts hinX11 tyX11 tyX11_ok nmX11 hown hK hP hD hS 0 (at_10 rfl) rfl 12 (by decide) (hts (.fieldLink RX11 74 "BondCalendars" "refusal" "I") (by decide +kernel)) (fun _ h9 => h9) rfl (ty := .int) (by decide +kernel) rfl rfl (Nat.le_of_ble_eq_true rfl) dX11_now_15 (fun H locs hP hD hS => ?_)
    obtain ⟨σ1, eσ1, hP, hD⟩ := gPut (se_10_12 rfl) hP hD
    have hIσ1 : InvX σ1 := by rw [eσ1]; exact inv_I hI (ok_10_12 rfl _)
    have frσ1 : gFr [10] σ σ1 := by rw [eσ1]; exact gFr.pI (gFr.rfl (L := [10]) (σ := σ)) rfl (by decide)
    refine lv_aload_n hx hb dX11_now_18 rfl (lv_at hl 0 rfl) ?_
    refine va_get (D := (dC, dI)) (ci := 10) (v := .ref (ad 12)) (C := RX11) (T := TX11) (N := 15) hx hb hts hinX11 hown hK hP 0 (at_10 rfl) rfl 5 (by decide) (hts (.fieldLink RX11 47 "BondCalendars" "book" "LBondCalendars$Book;") (by decide +kernel)) (fun _ h9 => h9) rfl dX11_now_19 ?_
    refine va_get (D := (dC, dI)) (ci := 1) (v := .int ((σ 12).1 3)) (C := RX1) (T := TX1) (N := 4) hx hb hts hinX1 hown hK hP 12 (at_1 rfl) rfl 3 (by decide) (hts (.fieldLink RX11 342 "BondCalendars$Book" "today" "I") (by decide +kernel)) (fun _ h9 => h9) (congrArg (fun z => some (Value.int z)) (show (σ1 12).1 3 = ((σ 12).1 3) from by rw [eσ1, gI_ne _ _ _ (by decide)])) dX11_now_22 ?_
    have hF := gFree (w := []) (hx_D0 (A := A)) hS hA
    have hKe := hK.sub (tys' := []) [] rfl
    refine va_calli (va_runS (As := [.int ((σ 12).1 3)]) (rest := []) ⟨hx, hb, hml, hown, hts⟩ (k_X3_numberOf l dC dI H.size ((σ 12).1 3) ) (va_cwS 1 hts gX11_now_X3_numberOf rfl rfl rfl (by decide +kernel) ⟨Nat.le_of_ble_eq_true rfl, Nat.le_of_ble_eq_true rfl⟩) ⟨fun a U g mk q => by obtain ⟨q0, q1, qP, qK, qD⟩ := q; exact ⟨q0, q1, qP, va_K.moved (u := U) (U := U.calling g mk a) (Vm.Alike.refl U.vm) qK, qD⟩, fun U hU hW => ⟨rfl, by rw [hU], hx_P0, va_K.moved hW.alike hKe, hx_D0⟩⟩ rfl rfl hl.1 rfl (lv_room (Nat.le_of_ble_eq_true rfl)) dX11_now_25 ⟨Nat.le_of_ble_eq_true rfl, Nat.le_of_ble_eq_true rfl⟩) hS (fun q _ h => hF q h) hF (fun r_2 u t H locs ht hvm hw hB hz1 hk1 hS => ?_)
    have hP := gKeep hP hk1
    refine W.endD hd0 ?_
    exact W.iret (v := r_2) hx hb hr (fun t ht hW => ⟨⟨r_2, σ1, rfl, ⟨hIσ1, frσ1, trivial⟩, ⟨by rw [ht]; exact hP, hD⟩⟩, hS.F ht⟩) hS.2.2 dX11_now_28
  · refine lv_aload_n hx hb dX11_now_7 rfl (lv_at hl 0 rfl) ?_
    refine lv_iconst (v := 1) hx hb dX11_now_8 (by decide) ?_
    have hF := gFree hD hS hA
    refine va_calliD hd0 (va_runV_D (As := [.int 1]) (rest := []) ⟨hx, hb, hml, hown, hts⟩ (n_X11_refuse l dC dI ad cA adK adV s.heap.size σ hI 1) (cwV 1 hts gX11_now_X11_refuse rfl rfl rfl (by decide +kernel) ⟨Nat.le_of_ble_eq_true rfl, Nat.le_of_ble_eq_true rfl⟩) ⟨gBlind, va_recv hK hP (ci := 10) (q0 := 0) rfl (at_10 rfl), gStart (As := [.ref (ad 0), .int 1]) hP hD hK0 hT hS hF (s.drawn)⟩ rfl rfl hl.1 rfl (lv_room (Nat.le_of_ble_eq_true rfl)) dX11_now_9 ⟨Nat.le_of_ble_eq_true rfl, Nat.le_of_ble_eq_true rfl⟩) hS (fun q _ h => hF q h) hF (fun r_3 σ2 t H locs ht hvm hw hB hz1 hk1 hS d_4 hd0 => ?_)
    have hts := dr_words hts0 (d_4)
    have hK := gKd hK0 (d_4)
    have hown : (s.setDrawn (d_4)).vm.findClass RX11 = some m.cls := hown0
    obtain ⟨hP, hD⟩ := gBack hF ht hB
    obtain ⟨hIσ2, fcσ2, hp_5⟩ := hw
    refine W.endD hd0 ?_
    exact W.iret (v := r_3) hx hb hr (fun t ht hW => ⟨⟨r_3, σ2, rfl, ⟨hIσ2, (gFr.tr (gFr.rfl (L := [10]) (σ := σ)) fcσ2 (by decide)), trivial⟩, ⟨by rw [ht]; exact hP, hD⟩⟩, hS.F ht⟩) hS.2.2 dX11_now_12
set_option maxHeartbeats 8000000 in
set_option maxRecDepth 100000 in
theorem n_X11_cash (l : Launch) (dC : Nat → ClassId) (dI : Nat → Nat → Nat) (ad : Nat → Nat) (cA : Nat → ClassId) (adK adV : Nat → Nat) (sz : Nat) (σ : gs) (hI : InvX σ)  : MetD lw_cs l yX11_cash wsX11_cash ({ frames := 1, cells := 0, slots := 0, locals := 21 }) (va_Pc [.ref (ad 0)] (gPre adK adV (dC, dI) (wX ad cA σ) (tX cA) sz)) (va_Ql (fun (r : Int64) (τ : gs) => InvX τ ∧ gFr [10] σ τ ∧ (True)) (fun τ t => gPost (dC, dI) (va_A (wX ad cA σ) sz) (wX ad cA τ) t) (va_A (wX ad cA σ) sz)) 0 0 (va_A (wX ad cA σ) sz) := by
  refine MetD.ofW (cc := cX11_cash) (maxL := 1) (ret := (some .long)) (by decide) rfl ?_
  intro p e s m args below meth c s₁ B hml hv hd0
  obtain ⟨rfl, hsz, hP, hK, hD0, hT⟩ := hv
  have hx := B.exec
  have hb := B.bytes
  have hr := B.returns
  have hts0 := atoms_spec (ws := wsX11_cash) B.pre
  have hK0 := hK
  have hown0 : s.vm.findClass RX11 = some m.cls := findClass_of_methodNamed B.named
  have hlocks := B.notSynchronized
  have hinX11 : ∀ w ∈ u_ws RX11 TX11 15, w ∈ wsX11_cash := (fun _ h9 => List.mem_cons_of_mem _ (List.mem_append_left _ (List.mem_append_right _ h9)))
  have hinX1 : ∀ w ∈ u_ws RX1 TX1 4, w ∈ wsX11_cash := (fun _ h9 => List.mem_cons_of_mem _ (List.mem_append_right _ h9))
  subst hsz
  have hD := hD0.self (sz := s.heap.size)
  generalize hAe : va_A (wX ad cA σ) s.heap.size = A at hD hT ⊢
  have hA : ∀ q : Nat, s.heap.size ≤ q → A q := fun q h => by rw [← hAe]; exact Or.inr h
  have hS : va_S A s.heap s.heap [] := va_S.rf
  have hl := lv_entry ([.ref (ad 0)]) (n := 1) (Nat.le_of_ble_eq_true rfl)
  rw [lg_entry_eq]
  generalize (lg_sl ([.ref (ad 0)]) ++ List.replicate (1 - (lg_sl ([.ref (ad 0)])).length) Slot.unset).toArray = ls at hl ⊢
  have hl : lv_has ls 1 [(0, .ref (ad 0))] := hl
  have hts := dr_words hts0 (s.drawn)
  have hK := gKd hK0 (s.drawn)
  have hown : (s.setDrawn (s.drawn)).vm.findClass RX11 = some m.cls := hown0
  refine lv_aload_n hx hb dX11_cash_0 rfl (lv_at hl 0 rfl) ?_
  refine va_get (D := (dC, dI)) (ci := 10) (v := .int ((σ 0).1 10)) (C := RX11) (T := TX11) (N := 15) hx hb hts hinX11 hown hK hP 0 (at_10 rfl) rfl 10 (by decide) (hts (.fieldLink RX11 67 "BondCalendars" "hasDesk" "Z") (by decide +kernel)) (fun _ h9 => h9) rfl dX11_cash_1 ?_
  refine lv_if_ne (tgt := 13) hx hb dX11_cash_4 (by decide) (fun c_1 => ?_) (fun c_1 => ?_)
  · refine lv_aload_n hx hb dX11_cash_13 rfl (lv_at hl 0 rfl) ?_
    refine lv_iconst (v := 0) hx hb dX11_cash_14 (by decide) ?_
    refine va_put (D := (dC, dI)) (ci := 10) (v := .int 0) (C := RX11) (T := TX11) (N := 15) hx hb hts hinX11 tyX11 tyX11_ok nmX11 hown hK hP hD hS 0 (at_10 rfl) rfl 12 (by decide) (hts (.fieldLink RX11 74 "BondCalendars" "refusal" "I") (by decide +kernel)) (fun _ h9 => h9) rfl (ty := .int) (by decide +kernel) rfl rfl (Nat.le_of_ble_eq_true rfl) dX11_cash_15 (fun H locs hP hD hS => ?_)
    obtain ⟨σ1, eσ1, hP, hD⟩ := gPut (se_10_12 rfl) hP hD
    have hIσ1 : InvX σ1 := by rw [eσ1]; exact inv_I hI (ok_10_12 rfl _)
    have frσ1 : gFr [10] σ σ1 := by rw [eσ1]; exact gFr.pI (gFr.rfl (L := [10]) (σ := σ)) rfl (by decide)
    refine lv_aload_n hx hb dX11_cash_18 rfl (lv_at hl 0 rfl) ?_
    refine va_get (D := (dC, dI)) (ci := 10) (v := .ref (ad 12)) (C := RX11) (T := TX11) (N := 15) hx hb hts hinX11 hown hK hP 0 (at_10 rfl) rfl 5 (by decide) (hts (.fieldLink RX11 47 "BondCalendars" "book" "LBondCalendars$Book;") (by decide +kernel)) (fun _ h9 => h9) rfl dX11_cash_19 ?_
    refine va_get (D := (dC, dI)) (ci := 1) (v := .long ((σ 12).2.1 2)) (C := RX1) (T := TX1) (N := 4) hx hb hts hinX1 hown hK hP 12 (at_1 rfl) rfl 2 (by decide) (hts (.fieldLink RX11 345 "BondCalendars$Book" "money" "J") (by decide +kernel)) (fun _ h9 => h9) (congrArg (fun z => some (Value.long z)) (show (σ1 12).2.1 2 = ((σ 12).2.1 2) from by rw [eσ1, gI_ne _ _ _ (by decide)])) dX11_cash_22 ?_
    refine W.endD hd0 ?_
    exact W.lret (v := ((σ 12).2.1 2)) hx hb hr (fun t ht hW => ⟨⟨((σ 12).2.1 2), σ1, rfl, ⟨hIσ1, frσ1, trivial⟩, ⟨by rw [ht]; exact hP, hD⟩⟩, hS.F ht⟩) hS.2.2 dX11_cash_25
  · refine lv_aload_n hx hb dX11_cash_7 rfl (lv_at hl 0 rfl) ?_
    refine lv_iconst (v := 1) hx hb dX11_cash_8 (by decide) ?_
    have hF := gFree hD hS hA
    refine va_calllD hd0 (va_runV_D (As := [.int 1]) (rest := []) ⟨hx, hb, hml, hown, hts⟩ (n_X11_refuseLong l dC dI ad cA adK adV s.heap.size σ hI 1) (cwV 1 hts gX11_cash_X11_refuseLong rfl rfl rfl (by decide +kernel) ⟨Nat.le_of_ble_eq_true rfl, Nat.le_of_ble_eq_true rfl⟩) ⟨gBlind, va_recv hK hP (ci := 10) (q0 := 0) rfl (at_10 rfl), gStart (As := [.ref (ad 0), .int 1]) hP hD hK0 hT hS hF (s.drawn)⟩ rfl rfl hl.1 rfl (lv_room (Nat.le_of_ble_eq_true rfl)) dX11_cash_9 ⟨Nat.le_of_ble_eq_true rfl, Nat.le_of_ble_eq_true rfl⟩) hS (fun q _ h => hF q h) hF (fun r_2 σ2 t H locs ht hvm hw hB hz1 hk1 hS d_3 hd0 => ?_)
    have hts := dr_words hts0 (d_3)
    have hK := gKd hK0 (d_3)
    have hown : (s.setDrawn (d_3)).vm.findClass RX11 = some m.cls := hown0
    obtain ⟨hP, hD⟩ := gBack hF ht hB
    obtain ⟨hIσ2, fcσ2, hp_4⟩ := hw
    refine W.endD hd0 ?_
    exact W.lret (v := r_2) hx hb hr (fun t ht hW => ⟨⟨r_2, σ2, rfl, ⟨hIσ2, (gFr.tr (gFr.rfl (L := [10]) (σ := σ)) fcσ2 (by decide)), trivial⟩, ⟨by rw [ht]; exact hP, hD⟩⟩, hS.F ht⟩) hS.2.2 dX11_cash_12
set_option maxHeartbeats 8000000 in
set_option maxRecDepth 100000 in
theorem n_X11_holding (l : Launch) (dC : Nat → ClassId) (dI : Nat → Nat → Nat) (ad : Nat → Nat) (cA : Nat → ClassId) (adK adV : Nat → Nat) (sz : Nat) (σ : gs) (hI : InvX σ) (p0 : Int32) : MetD lw_cs l yX11_holding wsX11_holding ({ frames := 1, cells := 0, slots := 0, locals := 21 }) (va_Pc [.ref (ad 0), .int p0] (gPre adK adV (dC, dI) (wX ad cA σ) (tX cA) sz)) (va_Qi (fun (r : Int32) (τ : gs) => InvX τ ∧ gFr [10] σ τ ∧ (True)) (fun τ t => gPost (dC, dI) (va_A (wX ad cA σ) sz) (wX ad cA τ) t) (va_A (wX ad cA σ) sz)) 0 0 (va_A (wX ad cA σ) sz) := by
  refine MetD.ofW (cc := cX11_holding) (maxL := 2) (ret := (some .int)) (by decide) rfl ?_
  intro p e s m args below meth c s₁ B hml hv hd0
  obtain ⟨rfl, hsz, hP, hK, hD0, hT⟩ := hv
  have hx := B.exec
  have hb := B.bytes
  have hr := B.returns
  have hts0 := atoms_spec (ws := wsX11_holding) B.pre
  have hK0 := hK
  have hown0 : s.vm.findClass RX11 = some m.cls := findClass_of_methodNamed B.named
  have hlocks := B.notSynchronized
  have hinX11 : ∀ w ∈ u_ws RX11 TX11 15, w ∈ wsX11_holding := (fun _ h9 => List.mem_cons_of_mem _ (List.mem_append_left _ (List.mem_append_left _ (List.mem_append_right _ h9))))
  have hinX1 : ∀ w ∈ u_ws RX1 TX1 4, w ∈ wsX11_holding := (fun _ h9 => List.mem_cons_of_mem _ (List.mem_append_left _ (List.mem_append_right _ h9)))
  subst hsz
  have hD := hD0.self (sz := s.heap.size)
  generalize hAe : va_A (wX ad cA σ) s.heap.size = A at hD hT ⊢
  have hA : ∀ q : Nat, s.heap.size ≤ q → A q := fun q h => by rw [← hAe]; exact Or.inr h
  have hS : va_S A s.heap s.heap [] := va_S.rf
  have hl := lv_entry ([.ref (ad 0), .int p0]) (n := 2) (Nat.le_of_ble_eq_true rfl)
  rw [lg_entry_eq]
  generalize (lg_sl ([.ref (ad 0), .int p0]) ++ List.replicate (2 - (lg_sl ([.ref (ad 0), .int p0])).length) Slot.unset).toArray = ls at hl ⊢
  have hl : lv_has ls 2 [(0, .ref (ad 0)), (1, .int p0)] := hl
  have hts := dr_words hts0 (s.drawn)
  have hK := gKd hK0 (s.drawn)
  have hown : (s.setDrawn (s.drawn)).vm.findClass RX11 = some m.cls := hown0
  refine lv_aload_n hx hb dX11_holding_0 rfl (lv_at hl 0 rfl) ?_
  refine lv_iload_n hx hb dX11_holding_1 rfl (lv_at hl 1 rfl) ?_
  have hF := gFree hD hS hA
  refine va_callqD hd0 (va_runV_D (As := [.int p0]) (rest := []) ⟨hx, hb, hml, hown, hts⟩ (n_X11_bondOf l dC dI ad cA adK adV s.heap.size σ hI p0) (cwV 1 hts gX11_holding_X11_bondOf rfl rfl rfl (by decide +kernel) ⟨Nat.le_of_ble_eq_true rfl, Nat.le_of_ble_eq_true rfl⟩) ⟨gBlind, va_recv hK hP (ci := 10) (q0 := 0) rfl (at_10 rfl), gStart (As := [.ref (ad 0), .int p0]) hP hD hK0 hT hS hF (s.drawn)⟩ rfl rfl hl.1 rfl (lv_room (Nat.le_of_ble_eq_true rfl)) dX11_holding_2 ⟨Nat.le_of_ble_eq_true rfl, Nat.le_of_ble_eq_true rfl⟩) hS (fun q _ h => hF q h) hF (fun r_1 σ1 t H locs ht hvm hw hB hz1 hk1 hS d_2 hd0 => ?_)
  have hts := dr_words hts0 (d_2)
  have hK := gKd hK0 (d_2)
  have hown : (s.setDrawn (d_2)).vm.findClass RX11 = some m.cls := hown0
  obtain ⟨hP, hD⟩ := gBack hF ht hB
  obtain ⟨hIσ1, hro, hp_3⟩ := hw
  subst hro
  rcases hp_3 with rfl | ⟨b_4, hb_5, rfl, hq_6, hq_7⟩
  · refine W.eq (g2 := F0 m 5 ls [.null]) rfl ?_
    refine lv_ifnonnullN hx hb dX11_holding_5 ?_
    refine lv_aload_n hx hb dX11_holding_8 rfl (lv_at hl 0 rfl) ?_
    refine lv_iconst (v := 1) hx hb dX11_holding_9 (by decide) ?_
    have hF := gFree hD hS hA
    refine va_calliD hd0 (va_runV_D (As := [.int 1]) (rest := []) ⟨hx, hb, hml, hown, hts⟩ (n_X11_refuse l dC dI ad cA adK adV H.size σ hI 1) (cwV 1 hts gX11_holding_X11_refuse rfl rfl rfl (by decide +kernel) ⟨Nat.le_of_ble_eq_true rfl, Nat.le_of_ble_eq_true rfl⟩) ⟨gBlind, va_recv hK hP (ci := 10) (q0 := 0) rfl (at_10 rfl), gStart (As := [.ref (ad 0), .int 1]) hP hD hK0 hT hS hF (d_2)⟩ rfl rfl hl.1 rfl (lv_room (Nat.le_of_ble_eq_true rfl)) dX11_holding_10 ⟨Nat.le_of_ble_eq_true rfl, Nat.le_of_ble_eq_true rfl⟩) hS (fun q _ h => hF q h) hF (fun r_8 σ2 t H locs ht hvm hw hB hz1 hk1 hS d_9 hd0 => ?_)
    have hts := dr_words hts0 (d_9)
    have hK := gKd hK0 (d_9)
    have hown : (s.setDrawn (d_9)).vm.findClass RX11 = some m.cls := hown0
    obtain ⟨hP, hD⟩ := gBack hF ht hB
    obtain ⟨hIσ2, fcσ2, hp_10⟩ := hw
    refine W.endD hd0 ?_
    exact W.iret (v := r_8) hx hb hr (fun t ht hW => ⟨⟨r_8, σ2, rfl, ⟨hIσ2, (gFr.tr (gFr.rfl (L := [10]) (σ := σ)) fcσ2 (by decide)), trivial⟩, ⟨by rw [ht]; exact hP, hD⟩⟩, hS.F ht⟩) hS.2.2 dX11_holding_13
  · refine W.eq (g2 := F0 m 5 ls [.ref (ad b_4)]) rfl ?_
    refine lv_ifnonnull (tgt := 14) hx hb dX11_holding_5 (by decide) ?_
    refine lv_aload_n hx hb dX11_holding_14 rfl (lv_at hl 0 rfl) ?_
    refine lv_iconst (v := 0) hx hb dX11_holding_15 (by decide) ?_
    refine va_put (D := (dC, dI)) (ci := 10) (v := .int 0) (C := RX11) (T := TX11) (N := 15) hx hb hts hinX11 tyX11 tyX11_ok nmX11 hown hK hP hD hS 0 (at_10 rfl) rfl 12 (by decide) (hts (.fieldLink RX11 74 "BondCalendars" "refusal" "I") (by decide +kernel)) (fun _ h9 => h9) rfl (ty := .int) (by decide +kernel) rfl rfl (Nat.le_of_ble_eq_true rfl) dX11_holding_16 (fun H locs hP hD hS => ?_)
    obtain ⟨σ3, eσ3, hP, hD⟩ := gPut (se_10_12 rfl) hP hD
    have hIσ3 : InvX σ3 := by rw [eσ3]; exact inv_I hI (ok_10_12 rfl _)
    have frσ3 : gFr [10] σ σ3 := by rw [eσ3]; exact gFr.pI (gFr.rfl (L := [10]) (σ := σ)) rfl (by decide)
    refine lv_aload_n hx hb dX11_holding_19 rfl (lv_at hl 0 rfl) ?_
    refine va_get (D := (dC, dI)) (ci := 10) (v := .ref (ad 12)) (C := RX11) (T := TX11) (N := 15) hx hb hts hinX11 hown hK hP 0 (at_10 rfl) rfl 5 (by decide) (hts (.fieldLink RX11 47 "BondCalendars" "book" "LBondCalendars$Book;") (by decide +kernel)) (fun _ h9 => h9) rfl dX11_holding_20 ?_
    refine va_get (D := (dC, dI)) (ci := 1) (v := .ref (ad (12 + 1))) (C := RX1) (T := TX1) (N := 4) hx hb hts hinX1 hown hK hP 12 (at_1 rfl) rfl 0 (by decide) (hts (.fieldLink RX11 349 "BondCalendars$Book" "held" "[I") (by decide +kernel)) (fun _ h9 => h9) rfl dX11_holding_23 ?_
    refine lv_iload_n hx hb dX11_holding_26 rfl (lv_at hl 1 rfl) ?_
    refine va_iald hx hb hK hP ((12 + 1)) ((12 + 1)) (at_22 (kk_1_1 rfl)) (ty_22 (kk_1_1 rfl)) (gin (N := 4) (by decide) hq_6 hq_7) dX11_holding_27 ?_
    refine lv_topi (fun x_11 _ => ?_)
    refine W.endD hd0 ?_
    exact W.iret (v := x_11) hx hb hr (fun t ht hW => ⟨⟨x_11, σ3, rfl, ⟨hIσ3, frσ3, trivial⟩, ⟨by rw [ht]; exact hP, hD⟩⟩, hS.F ht⟩) hS.2.2 dX11_holding_28
set_option maxHeartbeats 8000000 in
set_option maxRecDepth 100000 in
theorem n_X11_deal (l : Launch) (dC : Nat → ClassId) (dI : Nat → Nat → Nat) (ad : Nat → Nat) (cA : Nat → ClassId) (adK adV : Nat → Nat) (sz : Nat) (σ : gs) (hI : InvX σ) (p0 : Int32) (p1 : Int32) (p2 : Int32) : MetD lw_cs l yX11_deal wsX11_deal ({ frames := 6, cells := 0, slots := 0, locals := 154 }) (va_Pc [.ref (ad 0), .int p0, .int p1, .int p2] (gPre adK adV (dC, dI) (wX ad cA σ) (tX cA) sz)) (va_Ql (fun (r : Int64) (τ : gs) => InvX τ ∧ gFr [1, 5, 7, 10, 22] σ τ ∧ (True)) (fun τ t => gPost (dC, dI) (va_A (wX ad cA σ) sz) (wX ad cA τ) t) (va_A (wX ad cA σ) sz)) 0 0 (va_A (wX ad cA σ) sz) := by
  refine MetD.ofW (cc := cX11_deal) (maxL := 8) (ret := (some .long)) (by decide) rfl ?_
  intro p e s m args below meth c s₁ B hml hv hd0
  obtain ⟨rfl, hsz, hP, hK, hD0, hT⟩ := hv
  have hx := B.exec
  have hb := B.bytes
  have hr := B.returns
  have hts0 := atoms_spec (ws := wsX11_deal) B.pre
  have hK0 := hK
  have hown0 : s.vm.findClass RX11 = some m.cls := findClass_of_methodNamed B.named
  have hlocks := B.notSynchronized
  have hinX11 : ∀ w ∈ u_ws RX11 TX11 15, w ∈ wsX11_deal := (fun _ h9 => List.mem_cons_of_mem _ (List.mem_append_left _ (List.mem_append_left _ (List.mem_append_left _ (List.mem_append_left _ (List.mem_append_left _ (List.mem_append_right _ h9)))))))
  have hinX1 : ∀ w ∈ u_ws RX1 TX1 4, w ∈ wsX11_deal := (fun _ h9 => List.mem_cons_of_mem _ (List.mem_append_left _ (List.mem_append_left _ (List.mem_append_left _ (List.mem_append_left _ (List.mem_append_right _ h9))))))
  have hinX8 : ∀ w ∈ u_ws RX8 TX8 8, w ∈ wsX11_deal := (fun _ h9 => List.mem_cons_of_mem _ (List.mem_append_left _ (List.mem_append_left _ (List.mem_append_left _ (List.mem_append_right _ h9)))))
  subst hsz
  have hD := hD0.self (sz := s.heap.size)
  generalize hAe : va_A (wX ad cA σ) s.heap.size = A at hD hT ⊢
  have hA : ∀ q : Nat, s.heap.size ≤ q → A q := fun q h => by rw [← hAe]; exact Or.inr h
  have hS : va_S A s.heap s.heap [] := va_S.rf
  have hl := lv_entry ([.ref (ad 0), .int p0, .int p1, .int p2]) (n := 8) (Nat.le_of_ble_eq_true rfl)
  rw [lg_entry_eq]
  generalize (lg_sl ([.ref (ad 0), .int p0, .int p1, .int p2]) ++ List.replicate (8 - (lg_sl ([.ref (ad 0), .int p0, .int p1, .int p2])).length) Slot.unset).toArray = ls at hl ⊢
  have hl : lv_has ls 8 [(0, .ref (ad 0)), (1, .int p0), (2, .int p1), (3, .int p2)] := hl
  have hts := dr_words hts0 (s.drawn)
  have hK := gKd hK0 (s.drawn)
  have hown : (s.setDrawn (s.drawn)).vm.findClass RX11 = some m.cls := hown0
  refine lv_aload_n hx hb dX11_deal_0 rfl (lv_at hl 0 rfl) ?_
  refine lv_iload_n hx hb dX11_deal_1 rfl (lv_at hl 1 rfl) ?_
  have hF := gFree hD hS hA
  refine va_callqD hd0 (va_runV_D (As := [.int p0]) (rest := []) ⟨hx, hb, hml, hown, hts⟩ (n_X11_bondOf l dC dI ad cA adK adV s.heap.size σ hI p0) (cwV 1 hts gX11_deal_X11_bondOf rfl rfl rfl (by decide +kernel) ⟨Nat.le_of_ble_eq_true rfl, Nat.le_of_ble_eq_true rfl⟩) ⟨gBlind, va_recv hK hP (ci := 10) (q0 := 0) rfl (at_10 rfl), gStart (As := [.ref (ad 0), .int p0]) hP hD hK0 hT hS hF (s.drawn)⟩ rfl rfl hl.1 rfl (lv_room (Nat.le_of_ble_eq_true rfl)) dX11_deal_2 ⟨Nat.le_of_ble_eq_true rfl, Nat.le_of_ble_eq_true rfl⟩) hS (fun q _ h => hF q h) hF (fun r_1 σ1 t H locs ht hvm hw hB hz1 hk1 hS d_2 hd0 => ?_)
  have hts := dr_words hts0 (d_2)
  have hK := gKd hK0 (d_2)
  have hown : (s.setDrawn (d_2)).vm.findClass RX11 = some m.cls := hown0
  obtain ⟨hP, hD⟩ := gBack hF ht hB
  obtain ⟨hIσ1, hro, hp_3⟩ := hw
  subst hro
  rcases hp_3 with rfl | ⟨b_4, hb_5, rfl, hq_6, hq_7⟩
  · refine W.eq (g2 := F0 m 5 ls [.null]) rfl ?_
    refine lv_astoreN (lv' := [(4, .null), (0, .ref (ad 0)), (1, .int p0), (2, .int p1), (3, .int p2)]) hx hb dX11_deal_5 hl (by decide) rfl (fun ls hl => ?_)
    refine lv_aloadN hx hb dX11_deal_7 (lv_at hl 0 rfl) ?_
    refine lv_ifnonnullN hx hb dX11_deal_9 ?_
    refine lv_aload_n hx hb dX11_deal_12 rfl (lv_at hl 1 rfl) ?_
    refine lv_iconst (v := 1) hx hb dX11_deal_13 (by decide) ?_
    have hF := gFree hD hS hA
    refine va_calllD hd0 (va_runV_D (As := [.int 1]) (rest := []) ⟨hx, hb, hml, hown, hts⟩ (n_X11_refuseLong l dC dI ad cA adK adV H.size σ hI 1) (cwV 1 hts gX11_deal_X11_refuseLong rfl rfl rfl (by decide +kernel) ⟨Nat.le_of_ble_eq_true rfl, Nat.le_of_ble_eq_true rfl⟩) ⟨gBlind, va_recv hK hP (ci := 10) (q0 := 0) rfl (at_10 rfl), gStart (As := [.ref (ad 0), .int 1]) hP hD hK0 hT hS hF (d_2)⟩ rfl rfl hl.1 rfl (lv_room (Nat.le_of_ble_eq_true rfl)) dX11_deal_14 ⟨Nat.le_of_ble_eq_true rfl, Nat.le_of_ble_eq_true rfl⟩) hS (fun q _ h => hF q h) hF (fun r_8 σ2 t H locs ht hvm hw hB hz1 hk1 hS d_9 hd0 => ?_)
    have hts := dr_words hts0 (d_9)
    have hK := gKd hK0 (d_9)
    have hown : (s.setDrawn (d_9)).vm.findClass RX11 = some m.cls := hown0
    obtain ⟨hP, hD⟩ := gBack hF ht hB
    obtain ⟨hIσ2, fcσ2, hp_10⟩ := hw
    refine W.endD hd0 ?_
    exact W.lret (v := r_8) hx hb hr (fun t ht hW => ⟨⟨r_8, σ2, rfl, ⟨hIσ2, (gFr.tr (gFr.rfl (L := [1, 5, 7, 10, 22]) (σ := σ)) fcσ2 (by decide)), trivial⟩, ⟨by rw [ht]; exact hP, hD⟩⟩, hS.F ht⟩) hS.2.2 dX11_deal_17
  · refine W.eq (g2 := F0 m 5 ls [.ref (ad b_4)]) rfl ?_
    refine lv_astore (lv' := [(4, .ref (ad b_4)), (0, .ref (ad 0)), (1, .int p0), (2, .int p1), (3, .int p2)]) hx hb dX11_deal_5 hl (by decide) rfl (fun ls hl => ?_)
    refine lv_aload hx hb dX11_deal_7 (lv_at hl 0 rfl) ?_
    refine lv_ifnonnull (tgt := 18) hx hb dX11_deal_9 (by decide) ?_
    refine lv_iload_n hx hb dX11_deal_18 rfl (lv_at hl 3 rfl) ?_
    refine lv_sipush (v := (-9999)) hx hb dX11_deal_19 (by decide) ?_
    refine lv_icmp_lt (tgt := 43) hx hb dX11_deal_22 (by decide) (fun c_11 => ?_) (fun c_11 => ?_)
    · refine lv_aload_n hx hb dX11_deal_43 rfl (lv_at hl 1 rfl) ?_
      refine lv_iconst (v := 2) hx hb dX11_deal_44 (by decide) ?_
      have hF := gFree hD hS hA
      refine va_calllD hd0 (va_runV_D (As := [.int 2]) (rest := []) ⟨hx, hb, hml, hown, hts⟩ (n_X11_refuseLong l dC dI ad cA adK adV H.size σ hI 2) (cwV 1 hts gX11_deal_X11_refuseLong rfl rfl rfl (by decide +kernel) ⟨Nat.le_of_ble_eq_true rfl, Nat.le_of_ble_eq_true rfl⟩) ⟨gBlind, va_recv hK hP (ci := 10) (q0 := 0) rfl (at_10 rfl), gStart (As := [.ref (ad 0), .int 2]) hP hD hK0 hT hS hF (d_2)⟩ rfl rfl hl.1 rfl (lv_room (Nat.le_of_ble_eq_true rfl)) dX11_deal_45 ⟨Nat.le_of_ble_eq_true rfl, Nat.le_of_ble_eq_true rfl⟩) hS (fun q _ h => hF q h) hF (fun r_12 σ3 t H locs ht hvm hw hB hz1 hk1 hS d_13 hd0 => ?_)
      have hts := dr_words hts0 (d_13)
      have hK := gKd hK0 (d_13)
      have hown : (s.setDrawn (d_13)).vm.findClass RX11 = some m.cls := hown0
      obtain ⟨hP, hD⟩ := gBack hF ht hB
      obtain ⟨hIσ3, fcσ3, hp_14⟩ := hw
      refine W.endD hd0 ?_
      exact W.lret (v := r_12) hx hb hr (fun t ht hW => ⟨⟨r_12, σ3, rfl, ⟨hIσ3, (gFr.tr (gFr.rfl (L := [1, 5, 7, 10, 22]) (σ := σ)) fcσ3 (by decide)), trivial⟩, ⟨by rw [ht]; exact hP, hD⟩⟩, hS.F ht⟩) hS.2.2 dX11_deal_48
    · refine lv_iload_n hx hb dX11_deal_25 rfl (lv_at hl 3 rfl) ?_
      refine lv_sipush (v := 9999) hx hb dX11_deal_26 (by decide) ?_
      refine lv_icmp_gt (tgt := 43) hx hb dX11_deal_29 (by decide) (fun c_15 => ?_) (fun c_15 => ?_)
      · refine lv_aload_n hx hb dX11_deal_43 rfl (lv_at hl 1 rfl) ?_
        refine lv_iconst (v := 2) hx hb dX11_deal_44 (by decide) ?_
        have hF := gFree hD hS hA
        refine va_calllD hd0 (va_runV_D (As := [.int 2]) (rest := []) ⟨hx, hb, hml, hown, hts⟩ (n_X11_refuseLong l dC dI ad cA adK adV H.size σ hI 2) (cwV 1 hts gX11_deal_X11_refuseLong rfl rfl rfl (by decide +kernel) ⟨Nat.le_of_ble_eq_true rfl, Nat.le_of_ble_eq_true rfl⟩) ⟨gBlind, va_recv hK hP (ci := 10) (q0 := 0) rfl (at_10 rfl), gStart (As := [.ref (ad 0), .int 2]) hP hD hK0 hT hS hF (d_2)⟩ rfl rfl hl.1 rfl (lv_room (Nat.le_of_ble_eq_true rfl)) dX11_deal_45 ⟨Nat.le_of_ble_eq_true rfl, Nat.le_of_ble_eq_true rfl⟩) hS (fun q _ h => hF q h) hF (fun r_16 σ4 t H locs ht hvm hw hB hz1 hk1 hS d_17 hd0 => ?_)
        have hts := dr_words hts0 (d_17)
        have hK := gKd hK0 (d_17)
        have hown : (s.setDrawn (d_17)).vm.findClass RX11 = some m.cls := hown0
        obtain ⟨hP, hD⟩ := gBack hF ht hB
        obtain ⟨hIσ4, fcσ4, hp_18⟩ := hw
        refine W.endD hd0 ?_
        exact W.lret (v := r_16) hx hb hr (fun t ht hW => ⟨⟨r_16, σ4, rfl, ⟨hIσ4, (gFr.tr (gFr.rfl (L := [1, 5, 7, 10, 22]) (σ := σ)) fcσ4 (by decide)), trivial⟩, ⟨by rw [ht]; exact hP, hD⟩⟩, hS.F ht⟩) hS.2.2 dX11_deal_48
      · refine lv_iload_n hx hb dX11_deal_32 rfl (lv_at hl 3 rfl) ?_
        refine lv_if_eq (tgt := 43) hx hb dX11_deal_33 (by decide) (fun c_19 => ?_) (fun c_19 => ?_)
        · refine lv_aload_n hx hb dX11_deal_43 rfl (lv_at hl 1 rfl) ?_
          refine lv_iconst (v := 2) hx hb dX11_deal_44 (by decide) ?_
          have hF := gFree hD hS hA
          refine va_calllD hd0 (va_runV_D (As := [.int 2]) (rest := []) ⟨hx, hb, hml, hown, hts⟩ (n_X11_refuseLong l dC dI ad cA adK adV H.size σ hI 2) (cwV 1 hts gX11_deal_X11_refuseLong rfl rfl rfl (by decide +kernel) ⟨Nat.le_of_ble_eq_true rfl, Nat.le_of_ble_eq_true rfl⟩) ⟨gBlind, va_recv hK hP (ci := 10) (q0 := 0) rfl (at_10 rfl), gStart (As := [.ref (ad 0), .int 2]) hP hD hK0 hT hS hF (d_2)⟩ rfl rfl hl.1 rfl (lv_room (Nat.le_of_ble_eq_true rfl)) dX11_deal_45 ⟨Nat.le_of_ble_eq_true rfl, Nat.le_of_ble_eq_true rfl⟩) hS (fun q _ h => hF q h) hF (fun r_20 σ5 t H locs ht hvm hw hB hz1 hk1 hS d_21 hd0 => ?_)
          have hts := dr_words hts0 (d_21)
          have hK := gKd hK0 (d_21)
          have hown : (s.setDrawn (d_21)).vm.findClass RX11 = some m.cls := hown0
          obtain ⟨hP, hD⟩ := gBack hF ht hB
          obtain ⟨hIσ5, fcσ5, hp_22⟩ := hw
          refine W.endD hd0 ?_
          exact W.lret (v := r_20) hx hb hr (fun t ht hW => ⟨⟨r_20, σ5, rfl, ⟨hIσ5, (gFr.tr (gFr.rfl (L := [1, 5, 7, 10, 22]) (σ := σ)) fcσ5 (by decide)), trivial⟩, ⟨by rw [ht]; exact hP, hD⟩⟩, hS.F ht⟩) hS.2.2 dX11_deal_48
        · refine lv_iload_n hx hb dX11_deal_36 rfl (lv_at hl 4 rfl) ?_
          have hF := gFree hD hS hA
          refine va_calliD hd0 (va_runS_D (As := [.int p2]) (rest := []) ⟨hx, hb, hml, hown, hts⟩ (n_X11_isPrice l dC dI ad cA adK adV H.size σ hI p2) (va_cwS 1 hts gX11_deal_X11_isPrice rfl rfl rfl (by decide +kernel) ⟨Nat.le_of_ble_eq_true rfl, Nat.le_of_ble_eq_true rfl⟩) ⟨gBlind, gStart (As := [.int p2]) hP hD hK0 hT hS hF (d_2)⟩ rfl rfl hl.1 rfl (lv_room (Nat.le_of_ble_eq_true rfl)) dX11_deal_37 ⟨Nat.le_of_ble_eq_true rfl, Nat.le_of_ble_eq_true rfl⟩) hS (fun q _ h => hF q h) hF (fun r_23 σ6 t H locs ht hvm hw hB hz1 hk1 hS d_24 hd0 => ?_)
          have hts := dr_words hts0 (d_24)
          have hK := gKd hK0 (d_24)
          have hown : (s.setDrawn (d_24)).vm.findClass RX11 = some m.cls := hown0
          obtain ⟨hP, hD⟩ := gBack hF ht hB
          obtain ⟨hIσ6, hro, hp_25⟩ := hw
          subst hro
          refine lv_if_ne (tgt := 49) hx hb dX11_deal_40 (by decide) (fun c_26 => ?_) (fun c_26 => ?_)
          · refine lv_aload hx hb dX11_deal_49 (lv_at hl 0 rfl) ?_
            refine lv_aload_n hx hb dX11_deal_51 rfl (lv_at hl 1 rfl) ?_
            refine va_get (D := (dC, dI)) (ci := 10) (v := .ref (ad 12)) (C := RX11) (T := TX11) (N := 15) hx hb hts hinX11 hown hK hP 0 (at_10 rfl) rfl 5 (by decide) (hts (.fieldLink RX11 47 "BondCalendars" "book" "LBondCalendars$Book;") (by decide +kernel)) (fun _ h9 => h9) rfl dX11_deal_52 ?_
            refine va_get (D := (dC, dI)) (ci := 1) (v := .int ((σ 12).1 3)) (C := RX1) (T := TX1) (N := 4) hx hb hts hinX1 hown hK hP 12 (at_1 rfl) rfl 3 (by decide) (hts (.fieldLink RX11 342 "BondCalendars$Book" "today" "I") (by decide +kernel)) (fun _ h9 => h9) rfl dX11_deal_55 ?_
            have hF := gFree hD hS hA
            refine va_calliD hd0 (va_runV_D (As := [.int ((σ 12).1 3)]) (rest := []) ⟨hx, hb, hml, hown, hts⟩ (n_X0_isSettle l dC dI ad cA adK adV H.size σ hI b_4 hb_5 ((σ 12).1 3)) (cwV 1 hts gX11_deal_X0_isSettle rfl rfl rfl (by decide +kernel) ⟨Nat.le_of_ble_eq_true rfl, Nat.le_of_ble_eq_true rfl⟩) ⟨gBlind, va_recv hK hP (ci := 0) (q0 := b_4) rfl (at_0 hb_5), gStart (As := [.ref (ad b_4), .int ((σ 12).1 3)]) hP hD hK0 hT hS hF (d_24)⟩ rfl rfl hl.1 rfl (lv_room (Nat.le_of_ble_eq_true rfl)) dX11_deal_58 ⟨Nat.le_of_ble_eq_true rfl, Nat.le_of_ble_eq_true rfl⟩) hS (fun q _ h => hF q h) hF (fun r_27 σ7 t H locs ht hvm hw hB hz1 hk1 hS d_28 hd0 => ?_)
            have hts := dr_words hts0 (d_28)
            have hK := gKd hK0 (d_28)
            have hown : (s.setDrawn (d_28)).vm.findClass RX11 = some m.cls := hown0
            obtain ⟨hP, hD⟩ := gBack hF ht hB
            obtain ⟨hIσ7, hro, hp_29⟩ := hw
            subst hro
            refine lv_if_ne (tgt := 70) hx hb dX11_deal_61 (by decide) (fun c_30 => ?_) (fun c_30 => ?_)
            · refine lv_aload_n hx hb dX11_deal_70 rfl (lv_at hl 1 rfl) ?_
              refine va_get (D := (dC, dI)) (ci := 10) (v := .ref (ad 12)) (C := RX11) (T := TX11) (N := 15) hx hb hts hinX11 hown hK hP 0 (at_10 rfl) rfl 5 (by decide) (hts (.fieldLink RX11 47 "BondCalendars" "book" "LBondCalendars$Book;") (by decide +kernel)) (fun _ h9 => h9) rfl dX11_deal_71 ?_
              refine va_get (D := (dC, dI)) (ci := 1) (v := .ref (ad (12 + 1))) (C := RX1) (T := TX1) (N := 4) hx hb hts hinX1 hown hK hP 12 (at_1 rfl) rfl 0 (by decide) (hts (.fieldLink RX11 349 "BondCalendars$Book" "held" "[I") (by decide +kernel)) (fun _ h9 => h9) rfl dX11_deal_74 ?_
              refine lv_iload_n hx hb dX11_deal_77 rfl (lv_at hl 2 rfl) ?_
              refine va_iald hx hb hK hP ((12 + 1)) ((12 + 1)) (at_22 (kk_1_1 rfl)) (ty_22 (kk_1_1 rfl)) (gin (N := 4) (by decide) hq_6 hq_7) dX11_deal_78 ?_
              refine lv_topi (fun x_31 _ => ?_)
              refine lv_iload_n hx hb dX11_deal_79 rfl (lv_at hl 3 rfl) ?_
              refine lv_iadd hx hb dX11_deal_80 ?_
              refine lv_topi (fun x_32 ex_32 => ?_)
              refine lv_istore (lv' := [(5, .int x_32), (4, .ref (ad b_4)), (0, .ref (ad 0)), (1, .int p0), (2, .int p1), (3, .int p2)]) hx hb dX11_deal_81 hl (by decide) rfl (fun ls hl => ?_)
              refine lv_iload hx hb dX11_deal_83 (lv_at hl 0 rfl) ?_
              refine lv_if_lt (tgt := 96) hx hb dX11_deal_85 (by decide) (fun c_33 => ?_) (fun c_33 => ?_)
              · refine lv_aload_n hx hb dX11_deal_96 rfl (lv_at hl 2 rfl) ?_
                refine lv_iconst (v := 3) hx hb dX11_deal_97 (by decide) ?_
                have hF := gFree hD hS hA
                refine va_calllD hd0 (va_runV_D (As := [.int 3]) (rest := []) ⟨hx, hb, hml, hown, hts⟩ (n_X11_refuseLong l dC dI ad cA adK adV H.size σ hI 3) (cwV 1 hts gX11_deal_X11_refuseLong rfl rfl rfl (by decide +kernel) ⟨Nat.le_of_ble_eq_true rfl, Nat.le_of_ble_eq_true rfl⟩) ⟨gBlind, va_recv hK hP (ci := 10) (q0 := 0) rfl (at_10 rfl), gStart (As := [.ref (ad 0), .int 3]) hP hD hK0 hT hS hF (d_28)⟩ rfl rfl hl.1 rfl (lv_room (Nat.le_of_ble_eq_true rfl)) dX11_deal_98 ⟨Nat.le_of_ble_eq_true rfl, Nat.le_of_ble_eq_true rfl⟩) hS (fun q _ h => hF q h) hF (fun r_34 σ8 t H locs ht hvm hw hB hz1 hk1 hS d_35 hd0 => ?_)
                have hts := dr_words hts0 (d_35)
                have hK := gKd hK0 (d_35)
                have hown : (s.setDrawn (d_35)).vm.findClass RX11 = some m.cls := hown0
                obtain ⟨hP, hD⟩ := gBack hF ht hB
                obtain ⟨hIσ8, fcσ8, hp_36⟩ := hw
                refine W.endD hd0 ?_
                exact W.lret (v := r_34) hx hb hr (fun t ht hW => ⟨⟨r_34, σ8, rfl, ⟨hIσ8, (gFr.tr (gFr.rfl (L := [1, 5, 7, 10, 22]) (σ := σ)) fcσ8 (by decide)), trivial⟩, ⟨by rw [ht]; exact hP, hD⟩⟩, hS.F ht⟩) hS.2.2 dX11_deal_101
              · refine lv_iload hx hb dX11_deal_88 (lv_at hl 0 rfl) ?_
                refine lv_sipush (v := 9999) hx hb dX11_deal_90 (by decide) ?_
                refine lv_icmp_le (tgt := 102) hx hb dX11_deal_93 (by decide) (fun c_37 => ?_) (fun c_37 => ?_)
                · refine lv_aload_n hx hb dX11_deal_102 rfl (lv_at hl 2 rfl) ?_
                  refine lv_iconst (v := 0) hx hb dX11_deal_103 (by decide) ?_
                  refine va_put (D := (dC, dI)) (ci := 10) (v := .int 0) (C := RX11) (T := TX11) (N := 15) hx hb hts hinX11 tyX11 tyX11_ok nmX11 hown hK hP hD hS 0 (at_10 rfl) rfl 12 (by decide) (hts (.fieldLink RX11 74 "BondCalendars" "refusal" "I") (by decide +kernel)) (fun _ h9 => h9) rfl (ty := .int) (by decide +kernel) rfl rfl (Nat.le_of_ble_eq_true rfl) dX11_deal_104 (fun H locs hP hD hS => ?_)
                  obtain ⟨σ9, eσ9, hP, hD⟩ := gPut (se_10_12 rfl) hP hD
                  have hIσ9 : InvX σ9 := by rw [eσ9]; exact inv_I hI (ok_10_12 rfl _)
                  have frσ9 : gFr [1, 5, 7, 10, 22] σ σ9 := by rw [eσ9]; exact gFr.pI (gFr.rfl (L := [1, 5, 7, 10, 22]) (σ := σ)) rfl (by decide)
                  refine lv_aload_n hx hb dX11_deal_107 rfl (lv_at hl 2 rfl) ?_
                  refine va_get (D := (dC, dI)) (ci := 10) (v := .ref (ad 4)) (C := RX11) (T := TX11) (N := 15) hx hb hts hinX11 hown hK hP 0 (at_10 rfl) rfl 1 (by decide) (hts (.fieldLink RX11 19 "BondCalendars" "settle" "LBondCalendars$Settle;") (by decide +kernel)) (fun _ h9 => h9) rfl dX11_deal_108 ?_
                  refine lv_aload hx hb dX11_deal_111 (lv_at hl 1 rfl) ?_
                  refine lv_aload_n hx hb dX11_deal_113 rfl (lv_at hl 2 rfl) ?_
                  refine va_get (D := (dC, dI)) (ci := 10) (v := .ref (ad 12)) (C := RX11) (T := TX11) (N := 15) hx hb hts hinX11 hown hK hP 0 (at_10 rfl) rfl 5 (by decide) (hts (.fieldLink RX11 47 "BondCalendars" "book" "LBondCalendars$Book;") (by decide +kernel)) (fun _ h9 => h9) rfl dX11_deal_114 ?_
                  refine va_get (D := (dC, dI)) (ci := 1) (v := .int ((σ 12).1 3)) (C := RX1) (T := TX1) (N := 4) hx hb hts hinX1 hown hK hP 12 (at_1 rfl) rfl 3 (by decide) (hts (.fieldLink RX11 342 "BondCalendars$Book" "today" "I") (by decide +kernel)) (fun _ h9 => h9) (congrArg (fun z => some (Value.int z)) (show (σ9 12).1 3 = ((σ 12).1 3) from by rw [eσ9, gI_ne _ _ _ (by decide)])) dX11_deal_117 ?_
                  have hF := gFree hD hS hA
                  refine va_callvD hd0 (va_runV_D (As := [.ref (ad b_4), .int ((σ 12).1 3)]) (rest := []) ⟨hx, hb, hml, hown, hts⟩ (n_X8_open l dC dI ad cA adK adV H.size σ9 hIσ9 4 rfl b_4 hb_5 ((σ 12).1 3)) (cwV 2 hts gX11_deal_X8_open rfl rfl rfl (by decide +kernel) ⟨Nat.le_of_ble_eq_true rfl, Nat.le_of_ble_eq_true rfl⟩) ⟨gBlind, va_recv hK hP (ci := 7) (q0 := 4) rfl (at_7 rfl), gStart (As := [.ref (ad 4), .ref (ad b_4), .int ((σ 12).1 3)]) hP hD hK0 hT hS hF (d_28)⟩ rfl rfl hl.1 rfl (lv_room (Nat.le_of_ble_eq_true rfl)) dX11_deal_120 ⟨Nat.le_of_ble_eq_true rfl, Nat.le_of_ble_eq_true rfl⟩) hS (fun q _ h => hF q h) hF (fun σ10 t H locs ht hvm hw hB hz1 hk1 hS d_39 hd0 => ?_)
                  have hts := dr_words hts0 (d_39)
                  have hK := gKd hK0 (d_39)
                  have hown : (s.setDrawn (d_39)).vm.findClass RX11 = some m.cls := hown0
                  obtain ⟨hP, hD⟩ := gBack hF ht hB
                  obtain ⟨hIσ10, fcσ10, hp_40⟩ := hw
                  refine lv_iload_n hx hb dX11_deal_123 rfl (lv_at hl 4 rfl) ?_
                  refine lv_i2l hx hb dX11_deal_124 rfl ?_
                  refine lv_iload_n hx hb dX11_deal_125 rfl (lv_at hl 5 rfl) ?_
                  refine lv_i2l hx hb dX11_deal_126 rfl ?_
                  refine lv_lmul hx hb dX11_deal_127 ?_
                  refine lv_topl (fun x_41 ex_41 => ?_)
                  refine lv_aload_n hx hb dX11_deal_128 rfl (lv_at hl 2 rfl) ?_
                  refine va_get (D := (dC, dI)) (ci := 10) (v := .ref (ad 4)) (C := RX11) (T := TX11) (N := 15) hx hb hts hinX11 hown hK hP 0 (at_10 rfl) rfl 1 (by decide) (hts (.fieldLink RX11 19 "BondCalendars" "settle" "LBondCalendars$Settle;") (by decide +kernel)) (fun _ h9 => h9) rfl dX11_deal_129 ?_
                  refine va_get (D := (dC, dI)) (ci := 7) (v := .ref (ad (4 + 1))) (C := RX8) (T := TX8) (N := 8) hx hb hts hinX8 hown hK hP 4 (at_7 rfl) rfl 3 (by decide) (hts (.fieldLink RX11 258 "BondCalendars$Settle" "accruedRatio" "LBondCalendars$Ratio;") (by decide +kernel)) (fun _ h9 => h9) rfl dX11_deal_132 ?_
                  refine lv_iload_n hx hb dX11_deal_135 rfl (lv_at hl 4 rfl) ?_
                  refine lv_i2l hx hb dX11_deal_136 rfl ?_
                  refine lv_ldc2 (v := 100) hx hb hown (hts (.constantLong RX11 361 (100)) (by decide +kernel)) dX11_deal_137 ?_
                  refine lv_lmul hx hb dX11_deal_140 ?_
                  refine lv_topl (fun x_42 ex_42 => ?_)
                  have hF := gFree hD hS hA
                  refine va_calllD hd0 (va_runV_D (As := [.long x_42]) (rest := [.long x_41]) ⟨hx, hb, hml, hown, hts⟩ (n_X6_floorTimes l dC dI ad cA adK adV H.size σ10 hIσ10 ((4 + 1)) (kk_7_1 rfl) x_42) (cwV 1 hts gX11_deal_X6_floorTimes rfl rfl rfl (by decide +kernel) ⟨Nat.le_of_ble_eq_true rfl, Nat.le_of_ble_eq_true rfl⟩) ⟨gBlind, va_recv hK hP (ci := 5) (q0 := ((4 + 1))) rfl (at_5 (kk_7_1 rfl)), gStart (As := [.ref (ad (4 + 1)), .long x_42]) hP hD hK0 hT hS hF (d_39)⟩ rfl rfl hl.1 rfl (lv_room (Nat.le_of_ble_eq_true rfl)) dX11_deal_141 ⟨Nat.le_of_ble_eq_true rfl, Nat.le_of_ble_eq_true rfl⟩) hS (fun q _ h => hF q h) hF (fun r_43 σ11 t H locs ht hvm hw hB hz1 hk1 hS d_44 hd0 => ?_)
                  have hts := dr_words hts0 (d_44)
                  have hK := gKd hK0 (d_44)
                  have hown : (s.setDrawn (d_44)).vm.findClass RX11 = some m.cls := hown0
                  obtain ⟨hP, hD⟩ := gBack hF ht hB
                  obtain ⟨hIσ11, hro, hp_45⟩ := hw
                  subst hro
                  refine lv_ladd hx hb dX11_deal_144 ?_
                  refine lv_topl (fun x_46 ex_46 => ?_)
                  refine lv_lstore (lv' := [(6, .long x_46), (5, .int x_32), (4, .ref (ad b_4)), (0, .ref (ad 0)), (1, .int p0), (2, .int p1), (3, .int p2)]) hx hb dX11_deal_145 hl (by decide) rfl (fun ls hl => ?_)
                  refine lv_aload_n hx hb dX11_deal_147 rfl (lv_at hl 3 rfl) ?_
                  refine va_get (D := (dC, dI)) (ci := 10) (v := .ref (ad 12)) (C := RX11) (T := TX11) (N := 15) hx hb hts hinX11 hown hK hP 0 (at_10 rfl) rfl 5 (by decide) (hts (.fieldLink RX11 47 "BondCalendars" "book" "LBondCalendars$Book;") (by decide +kernel)) (fun _ h9 => h9) rfl dX11_deal_148 ?_
                  refine va_get (D := (dC, dI)) (ci := 1) (v := .ref (ad (12 + 1))) (C := RX1) (T := TX1) (N := 4) hx hb hts hinX1 hown hK hP 12 (at_1 rfl) rfl 0 (by decide) (hts (.fieldLink RX11 349 "BondCalendars$Book" "held" "[I") (by decide +kernel)) (fun _ h9 => h9) rfl dX11_deal_151 ?_
                  refine lv_iload_n hx hb dX11_deal_154 rfl (lv_at hl 4 rfl) ?_
                  refine lv_iload hx hb dX11_deal_155 (lv_at hl 1 rfl) ?_
                  refine va_iast hx hb hK hP hD hS ((12 + 1)) ((12 + 1)) (at_22 (kk_1_1 rfl)) (ty_22 (kk_1_1 rfl)) (gin (N := 4) (by decide) hq_6 hq_7) dX11_deal_157 (fun H locs hP hD hS => ?_)
                  obtain ⟨σ12, eσ12, hP, hD⟩ := gPut (se_22 (kk_1_1 rfl)) hP hD
                  have hIσ12 : InvX σ12 := by rw [eσ12]; exact inv_I hIσ10 (ok_22 (kk_1_1 rfl) _ _)
                  have frσ12 : gFr [1, 5, 7, 10, 22] σ σ12 := by rw [eσ12]; exact gFr.pI (gFr.tr frσ9 fcσ10 (by decide)) (kk_1_1 rfl) (by decide)
                  refine lv_aload_n hx hb dX11_deal_158 rfl (lv_at hl 3 rfl) ?_
                  refine va_get (D := (dC, dI)) (ci := 10) (v := .ref (ad 12)) (C := RX11) (T := TX11) (N := 15) hx hb hts hinX11 hown hK hP 0 (at_10 rfl) rfl 5 (by decide) (hts (.fieldLink RX11 47 "BondCalendars" "book" "LBondCalendars$Book;") (by decide +kernel)) (fun _ h9 => h9) rfl dX11_deal_159 ?_
                  refine lv_dup hx hb dX11_deal_162 rfl ?_
                  refine va_get (D := (dC, dI)) (ci := 1) (v := .long ((σ 12).2.1 2)) (C := RX1) (T := TX1) (N := 4) hx hb hts hinX1 hown hK hP 12 (at_1 rfl) rfl 2 (by decide) (hts (.fieldLink RX11 345 "BondCalendars$Book" "money" "J") (by decide +kernel)) (fun _ h9 => h9) (congrArg (fun z => some (Value.long z)) (show (σ12 12).2.1 2 = ((σ 12).2.1 2) from by rw [eσ12, gI_ne _ _ _ (kne rfl (kk_1_1 rfl) (by decide)), fcσ10 12 (by decide), eσ9, gI_ne _ _ _ (by decide)])) dX11_deal_163 ?_
                  refine lv_lload hx hb dX11_deal_166 (lv_at hl 0 rfl) ?_
                  refine lv_lsub hx hb dX11_deal_168 ?_
                  refine lv_topl (fun x_47 ex_47 => ?_)
                  refine va_put (D := (dC, dI)) (ci := 1) (v := .long x_47) (C := RX1) (T := TX1) (N := 4) hx hb hts hinX1 tyX1 tyX1_ok nmX1 hown hK hP hD hS 12 (at_1 rfl) rfl 2 (by decide) (hts (.fieldLink RX11 345 "BondCalendars$Book" "money" "J") (by decide +kernel)) (fun _ h9 => h9) rfl (ty := .long) (by decide +kernel) rfl rfl (Nat.le_of_ble_eq_true rfl) dX11_deal_169 (fun H locs hP hD hS => ?_)
                  obtain ⟨σ13, eσ13, hP, hD⟩ := gPut (se_1_2 rfl) hP hD
                  have hIσ13 : InvX σ13 := by rw [eσ13]; exact inv_L hIσ12
                  have frσ13 : gFr [1, 5, 7, 10, 22] σ σ13 := by rw [eσ13]; exact gFr.pL frσ12 rfl (by decide)
                  refine lv_lload hx hb dX11_deal_172 (lv_at hl 0 rfl) ?_
                  refine W.endD hd0 ?_
                  exact W.lret (v := x_46) hx hb hr (fun t ht hW => ⟨⟨x_46, σ13, rfl, ⟨hIσ13, frσ13, trivial⟩, ⟨by rw [ht]; exact hP, hD⟩⟩, hS.F ht⟩) hS.2.2 dX11_deal_174
                · refine lv_aload_n hx hb dX11_deal_96 rfl (lv_at hl 2 rfl) ?_
                  refine lv_iconst (v := 3) hx hb dX11_deal_97 (by decide) ?_
                  have hF := gFree hD hS hA
                  refine va_calllD hd0 (va_runV_D (As := [.int 3]) (rest := []) ⟨hx, hb, hml, hown, hts⟩ (n_X11_refuseLong l dC dI ad cA adK adV H.size σ hI 3) (cwV 1 hts gX11_deal_X11_refuseLong rfl rfl rfl (by decide +kernel) ⟨Nat.le_of_ble_eq_true rfl, Nat.le_of_ble_eq_true rfl⟩) ⟨gBlind, va_recv hK hP (ci := 10) (q0 := 0) rfl (at_10 rfl), gStart (As := [.ref (ad 0), .int 3]) hP hD hK0 hT hS hF (d_28)⟩ rfl rfl hl.1 rfl (lv_room (Nat.le_of_ble_eq_true rfl)) dX11_deal_98 ⟨Nat.le_of_ble_eq_true rfl, Nat.le_of_ble_eq_true rfl⟩) hS (fun q _ h => hF q h) hF (fun r_48 σ14 t H locs ht hvm hw hB hz1 hk1 hS d_49 hd0 => ?_)
                  have hts := dr_words hts0 (d_49)
                  have hK := gKd hK0 (d_49)
                  have hown : (s.setDrawn (d_49)).vm.findClass RX11 = some m.cls := hown0
                  obtain ⟨hP, hD⟩ := gBack hF ht hB
                  obtain ⟨hIσ14, fcσ14, hp_50⟩ := hw
                  refine W.endD hd0 ?_
                  exact W.lret (v := r_48) hx hb hr (fun t ht hW => ⟨⟨r_48, σ14, rfl, ⟨hIσ14, (gFr.tr (gFr.rfl (L := [1, 5, 7, 10, 22]) (σ := σ)) fcσ14 (by decide)), trivial⟩, ⟨by rw [ht]; exact hP, hD⟩⟩, hS.F ht⟩) hS.2.2 dX11_deal_101
            · refine lv_aload_n hx hb dX11_deal_64 rfl (lv_at hl 1 rfl) ?_
              refine lv_iconst (v := 5) hx hb dX11_deal_65 (by decide) ?_
              have hF := gFree hD hS hA
              refine va_calllD hd0 (va_runV_D (As := [.int 5]) (rest := []) ⟨hx, hb, hml, hown, hts⟩ (n_X11_refuseLong l dC dI ad cA adK adV H.size σ hI 5) (cwV 1 hts gX11_deal_X11_refuseLong rfl rfl rfl (by decide +kernel) ⟨Nat.le_of_ble_eq_true rfl, Nat.le_of_ble_eq_true rfl⟩) ⟨gBlind, va_recv hK hP (ci := 10) (q0 := 0) rfl (at_10 rfl), gStart (As := [.ref (ad 0), .int 5]) hP hD hK0 hT hS hF (d_28)⟩ rfl rfl hl.1 rfl (lv_room (Nat.le_of_ble_eq_true rfl)) dX11_deal_66 ⟨Nat.le_of_ble_eq_true rfl, Nat.le_of_ble_eq_true rfl⟩) hS (fun q _ h => hF q h) hF (fun r_51 σ15 t H locs ht hvm hw hB hz1 hk1 hS d_52 hd0 => ?_)
              have hts := dr_words hts0 (d_52)
              have hK := gKd hK0 (d_52)
              have hown : (s.setDrawn (d_52)).vm.findClass RX11 = some m.cls := hown0
              obtain ⟨hP, hD⟩ := gBack hF ht hB
              obtain ⟨hIσ15, fcσ15, hp_53⟩ := hw
              refine W.endD hd0 ?_
              exact W.lret (v := r_51) hx hb hr (fun t ht hW => ⟨⟨r_51, σ15, rfl, ⟨hIσ15, (gFr.tr (gFr.rfl (L := [1, 5, 7, 10, 22]) (σ := σ)) fcσ15 (by decide)), trivial⟩, ⟨by rw [ht]; exact hP, hD⟩⟩, hS.F ht⟩) hS.2.2 dX11_deal_69
          · refine lv_aload_n hx hb dX11_deal_43 rfl (lv_at hl 1 rfl) ?_
            refine lv_iconst (v := 2) hx hb dX11_deal_44 (by decide) ?_
            have hF := gFree hD hS hA
            refine va_calllD hd0 (va_runV_D (As := [.int 2]) (rest := []) ⟨hx, hb, hml, hown, hts⟩ (n_X11_refuseLong l dC dI ad cA adK adV H.size σ hI 2) (cwV 1 hts gX11_deal_X11_refuseLong rfl rfl rfl (by decide +kernel) ⟨Nat.le_of_ble_eq_true rfl, Nat.le_of_ble_eq_true rfl⟩) ⟨gBlind, va_recv hK hP (ci := 10) (q0 := 0) rfl (at_10 rfl), gStart (As := [.ref (ad 0), .int 2]) hP hD hK0 hT hS hF (d_24)⟩ rfl rfl hl.1 rfl (lv_room (Nat.le_of_ble_eq_true rfl)) dX11_deal_45 ⟨Nat.le_of_ble_eq_true rfl, Nat.le_of_ble_eq_true rfl⟩) hS (fun q _ h => hF q h) hF (fun r_54 σ16 t H locs ht hvm hw hB hz1 hk1 hS d_55 hd0 => ?_)
            have hts := dr_words hts0 (d_55)
            have hK := gKd hK0 (d_55)
            have hown : (s.setDrawn (d_55)).vm.findClass RX11 = some m.cls := hown0
            obtain ⟨hP, hD⟩ := gBack hF ht hB
            obtain ⟨hIσ16, fcσ16, hp_56⟩ := hw
            refine W.endD hd0 ?_
            exact W.lret (v := r_54) hx hb hr (fun t ht hW => ⟨⟨r_54, σ16, rfl, ⟨hIσ16, (gFr.tr (gFr.rfl (L := [1, 5, 7, 10, 22]) (σ := σ)) fcσ16 (by decide)), trivial⟩, ⟨by rw [ht]; exact hP, hD⟩⟩, hS.F ht⟩) hS.2.2 dX11_deal_48
set_option maxHeartbeats 8000000 in
set_option maxRecDepth 100000 in
theorem n_X11_go (l : Launch) (dC : Nat → ClassId) (dI : Nat → Nat → Nat) (ad : Nat → Nat) (cA : Nat → ClassId) (adK adV : Nat → Nat) (sz : Nat) (σ : gs) (hI : InvX σ) (p0 : Int32) : MetD lw_cs l yX11_go wsX11_go ({ frames := 7, cells := 0, slots := 0, locals := 184 }) (va_Pc [.ref (ad 0), .int p0] (gPre adK adV (dC, dI) (wX ad cA σ) (tX cA) sz)) (va_Ql (fun (r : Int64) (τ : gs) => InvX τ ∧ gFr [1, 5, 10, 22, 24] σ τ ∧ (True)) (fun τ t => gPost (dC, dI) (va_A (wX ad cA σ) sz) (wX ad cA τ) t) (va_A (wX ad cA σ) sz)) 0 0 (va_A (wX ad cA σ) sz) := by
  refine MetD.ofW (cc := cX11_go) (maxL := 2) (ret := (some .long)) (by decide) rfl ?_
  intro p e s m args below meth c s₁ B hml hv hd0
  obtain ⟨rfl, hsz, hP, hK, hD0, hT⟩ := hv
  have hx := B.exec
  have hb := B.bytes
  have hr := B.returns
  have hts0 := atoms_spec (ws := wsX11_go) B.pre
  have hK0 := hK
  have hown0 : s.vm.findClass RX11 = some m.cls := findClass_of_methodNamed B.named
  have hlocks := B.notSynchronized
  have hinX11 : ∀ w ∈ u_ws RX11 TX11 15, w ∈ wsX11_go := (fun _ h9 => List.mem_cons_of_mem _ (List.mem_append_left _ (List.mem_append_left _ (List.mem_append_left _ (List.mem_append_left _ (List.mem_append_right _ h9))))))
  subst hsz
  have hD := hD0.self (sz := s.heap.size)
  generalize hAe : va_A (wX ad cA σ) s.heap.size = A at hD hT ⊢
  have hA : ∀ q : Nat, s.heap.size ≤ q → A q := fun q h => by rw [← hAe]; exact Or.inr h
  have hS : va_S A s.heap s.heap [] := va_S.rf
  have hl := lv_entry ([.ref (ad 0), .int p0]) (n := 2) (Nat.le_of_ble_eq_true rfl)
  rw [lg_entry_eq]
  generalize (lg_sl ([.ref (ad 0), .int p0]) ++ List.replicate (2 - (lg_sl ([.ref (ad 0), .int p0])).length) Slot.unset).toArray = ls at hl ⊢
  have hl : lv_has ls 2 [(0, .ref (ad 0)), (1, .int p0)] := hl
  have hts := dr_words hts0 (s.drawn)
  have hK := gKd hK0 (s.drawn)
  have hown : (s.setDrawn (s.drawn)).vm.findClass RX11 = some m.cls := hown0
  refine lv_aload_n hx hb dX11_go_0 rfl (lv_at hl 0 rfl) ?_
  refine lv_iload_n hx hb dX11_go_1 rfl (lv_at hl 1 rfl) ?_
  have hF := gFree hD hS hA
  refine va_calliD hd0 (va_runV_D (As := [.int p0]) (rest := []) ⟨hx, hb, hml, hown, hts⟩ (n_X11_mayGo l dC dI ad cA adK adV s.heap.size σ hI p0) (cwV 1 hts gX11_go_X11_mayGo rfl rfl rfl (by decide +kernel) ⟨Nat.le_of_ble_eq_true rfl, Nat.le_of_ble_eq_true rfl⟩) ⟨gBlind, va_recv hK hP (ci := 10) (q0 := 0) rfl (at_10 rfl), gStart (As := [.ref (ad 0), .int p0]) hP hD hK0 hT hS hF (s.drawn)⟩ rfl rfl hl.1 rfl (lv_room (Nat.le_of_ble_eq_true rfl)) dX11_go_2 ⟨Nat.le_of_ble_eq_true rfl, Nat.le_of_ble_eq_true rfl⟩) hS (fun q _ h => hF q h) hF (fun r_1 σ1 t H locs ht hvm hw hB hz1 hk1 hS d_2 hd0 => ?_)
  have hts := dr_words hts0 (d_2)
  have hK := gKd hK0 (d_2)
  have hown : (s.setDrawn (d_2)).vm.findClass RX11 = some m.cls := hown0
  obtain ⟨hP, hD⟩ := gBack hF ht hB
  obtain ⟨hIσ1, fcσ1, hp_3⟩ := hw
  refine lv_if_ne (tgt := 12) hx hb dX11_go_5 (by decide) (fun c_4 => ?_) (fun c_4 => ?_)
  · refine lv_aload_n hx hb dX11_go_12 rfl (lv_at hl 0 rfl) ?_
    refine va_get (D := (dC, dI)) (ci := 10) (v := .ref (ad 12)) (C := RX11) (T := TX11) (N := 15) hx hb hts hinX11 hown hK hP 0 (at_10 rfl) rfl 5 (by decide) (hts (.fieldLink RX11 47 "BondCalendars" "book" "LBondCalendars$Book;") (by decide +kernel)) (fun _ h9 => h9) rfl dX11_go_13 ?_
    refine lv_iload_n hx hb dX11_go_16 rfl (lv_at hl 1 rfl) ?_
    refine lv_aload_n hx hb dX11_go_17 rfl (lv_at hl 0 rfl) ?_
    obtain ⟨b_5, hb_6, q_7⟩ := rq_10_8 (c := 0) hIσ1 rfl
    refine va_get (D := (dC, dI)) (ci := 10) (v := .ref (ad b_5)) (C := RX11) (T := TX11) (N := 15) hx hb hts hinX11 hown hK hP 0 (at_10 rfl) rfl 8 (by decide) (hts (.fieldLink RX11 60 "BondCalendars" "live" "LBondCalendars$Desk;") (by decide +kernel)) (fun _ h9 => h9) (by show some (va_re ad ((σ1 0).2.2.2 8)) = _; rw [q_7]; rfl) dX11_go_18 ?_
    refine lv_aload_n hx hb dX11_go_21 rfl (lv_at hl 0 rfl) ?_
    refine va_get (D := (dC, dI)) (ci := 10) (v := .ref (ad 9)) (C := RX11) (T := TX11) (N := 15) hx hb hts hinX11 hown hK hP 0 (at_10 rfl) rfl 3 (by decide) (hts (.fieldLink RX11 33 "BondCalendars" "ratio" "LBondCalendars$Ratio;") (by decide +kernel)) (fun _ h9 => h9) rfl dX11_go_22 ?_
    have hF := gFree hD hS hA
    refine va_calllD hd0 (va_runV_D (As := [.int p0, .ref (ad b_5), .ref (ad 9)]) (rest := []) ⟨hx, hb, hml, hown, hts⟩ (n_X1_passDays l dC dI ad cA adK adV H.size σ1 hIσ1 12 rfl p0 b_5 hb_6 9 rfl) (cwV 3 hts gX11_go_X1_passDays rfl rfl rfl (by decide +kernel) ⟨Nat.le_of_ble_eq_true rfl, Nat.le_of_ble_eq_true rfl⟩) ⟨gBlind, va_recv hK hP (ci := 1) (q0 := 12) rfl (at_1 rfl), gStart (As := [.ref (ad 12), .int p0, .ref (ad b_5), .ref (ad 9)]) hP hD hK0 hT hS hF (d_2)⟩ rfl rfl hl.1 rfl (lv_room (Nat.le_of_ble_eq_true rfl)) dX11_go_25 ⟨Nat.le_of_ble_eq_true rfl, Nat.le_of_ble_eq_true rfl⟩) hS (fun q _ h => hF q h) hF (fun r_8 σ2 t H locs ht hvm hw hB hz1 hk1 hS d_9 hd0 => ?_)
    have hts := dr_words hts0 (d_9)
    have hK := gKd hK0 (d_9)
    have hown : (s.setDrawn (d_9)).vm.findClass RX11 = some m.cls := hown0
    obtain ⟨hP, hD⟩ := gBack hF ht hB
    obtain ⟨hIσ2, fcσ2, hp_10⟩ := hw
    refine W.endD hd0 ?_
    exact W.lret (v := r_8) hx hb hr (fun t ht hW => ⟨⟨r_8, σ2, rfl, ⟨hIσ2, (gFr.tr (gFr.tr (gFr.rfl (L := [1, 5, 10, 22, 24]) (σ := σ)) fcσ1 (by decide)) fcσ2 (by decide)), trivial⟩, ⟨by rw [ht]; exact hP, hD⟩⟩, hS.F ht⟩) hS.2.2 dX11_go_28
  · refine lv_ldc2 (v := (-9223372036854775808)) hx hb hown (hts (.constantLong RX11 256 (-9223372036854775808)) (by decide +kernel)) dX11_go_8 ?_
    refine W.endD hd0 ?_
    exact W.lret (v := (-9223372036854775808)) hx hb hr (fun t ht hW => ⟨⟨(-9223372036854775808), σ1, rfl, ⟨hIσ1, (gFr.tr (gFr.rfl (L := [1, 5, 10, 22, 24]) (σ := σ)) fcσ1 (by decide)), trivial⟩, ⟨by rw [ht]; exact hP, hD⟩⟩, hS.F ht⟩) hS.2.2 dX11_go_11
set_option maxHeartbeats 8000000 in
set_option maxRecDepth 100000 in
theorem n_X11_income (l : Launch) (dC : Nat → ClassId) (dI : Nat → Nat → Nat) (ad : Nat → Nat) (cA : Nat → ClassId) (adK adV : Nat → Nat) (sz : Nat) (σ : gs) (hI : InvX σ) (p0 : Int32) : MetD lw_cs l yX11_income wsX11_income ({ frames := 7, cells := 0, slots := 0, locals := 184 }) (va_Pc [.ref (ad 0), .int p0] (gPre adK adV (dC, dI) (wX ad cA σ) (tX cA) sz)) (va_Ql (fun (r : Int64) (τ : gs) => InvX τ ∧ gFr [1, 5, 10, 22, 24] σ τ ∧ (True)) (fun τ t => gPost (dC, dI) (va_A (wX ad cA σ) sz) (wX ad cA τ) t) (va_A (wX ad cA σ) sz)) 0 0 (va_A (wX ad cA σ) sz) := by
  refine MetD.ofW (cc := cX11_income) (maxL := 2) (ret := (some .long)) (by decide) rfl ?_
  intro p e s m args below meth c s₁ B hml hv hd0
  obtain ⟨rfl, hsz, hP, hK, hD0, hT⟩ := hv
  have hx := B.exec
  have hb := B.bytes
  have hr := B.returns
  have hts0 := atoms_spec (ws := wsX11_income) B.pre
  have hK0 := hK
  have hown0 : s.vm.findClass RX11 = some m.cls := findClass_of_methodNamed B.named
  have hlocks := B.notSynchronized
  have hinX11 : ∀ w ∈ u_ws RX11 TX11 15, w ∈ wsX11_income := (fun _ h9 => List.mem_cons_of_mem _ (List.mem_append_left _ (List.mem_append_left _ (List.mem_append_left _ (List.mem_append_left _ (List.mem_append_right _ h9))))))
  subst hsz
  have hD := hD0.self (sz := s.heap.size)
  generalize hAe : va_A (wX ad cA σ) s.heap.size = A at hD hT ⊢
  have hA : ∀ q : Nat, s.heap.size ≤ q → A q := fun q h => by rw [← hAe]; exact Or.inr h
  have hS : va_S A s.heap s.heap [] := va_S.rf
  have hl := lv_entry ([.ref (ad 0), .int p0]) (n := 2) (Nat.le_of_ble_eq_true rfl)
  rw [lg_entry_eq]
  generalize (lg_sl ([.ref (ad 0), .int p0]) ++ List.replicate (2 - (lg_sl ([.ref (ad 0), .int p0])).length) Slot.unset).toArray = ls at hl ⊢
  have hl : lv_has ls 2 [(0, .ref (ad 0)), (1, .int p0)] := hl
  have hts := dr_words hts0 (s.drawn)
  have hK := gKd hK0 (s.drawn)
  have hown : (s.setDrawn (s.drawn)).vm.findClass RX11 = some m.cls := hown0
  refine lv_aload_n hx hb dX11_income_0 rfl (lv_at hl 0 rfl) ?_
  refine lv_iload_n hx hb dX11_income_1 rfl (lv_at hl 1 rfl) ?_
  have hF := gFree hD hS hA
  refine va_calliD hd0 (va_runV_D (As := [.int p0]) (rest := []) ⟨hx, hb, hml, hown, hts⟩ (n_X11_mayGo l dC dI ad cA adK adV s.heap.size σ hI p0) (cwV 1 hts gX11_income_X11_mayGo rfl rfl rfl (by decide +kernel) ⟨Nat.le_of_ble_eq_true rfl, Nat.le_of_ble_eq_true rfl⟩) ⟨gBlind, va_recv hK hP (ci := 10) (q0 := 0) rfl (at_10 rfl), gStart (As := [.ref (ad 0), .int p0]) hP hD hK0 hT hS hF (s.drawn)⟩ rfl rfl hl.1 rfl (lv_room (Nat.le_of_ble_eq_true rfl)) dX11_income_2 ⟨Nat.le_of_ble_eq_true rfl, Nat.le_of_ble_eq_true rfl⟩) hS (fun q _ h => hF q h) hF (fun r_1 σ1 t H locs ht hvm hw hB hz1 hk1 hS d_2 hd0 => ?_)
  have hts := dr_words hts0 (d_2)
  have hK := gKd hK0 (d_2)
  have hown : (s.setDrawn (d_2)).vm.findClass RX11 = some m.cls := hown0
  obtain ⟨hP, hD⟩ := gBack hF ht hB
  obtain ⟨hIσ1, fcσ1, hp_3⟩ := hw
  refine lv_if_ne (tgt := 12) hx hb dX11_income_5 (by decide) (fun c_4 => ?_) (fun c_4 => ?_)
  · refine lv_aload_n hx hb dX11_income_12 rfl (lv_at hl 0 rfl) ?_
    refine va_get (D := (dC, dI)) (ci := 10) (v := .ref (ad 26)) (C := RX11) (T := TX11) (N := 15) hx hb hts hinX11 hown hK hP 0 (at_10 rfl) rfl 7 (by decide) (hts (.fieldLink RX11 54 "BondCalendars" "trial" "LBondCalendars$Book;") (by decide +kernel)) (fun _ h9 => h9) rfl dX11_income_13 ?_
    refine lv_aload_n hx hb dX11_income_16 rfl (lv_at hl 0 rfl) ?_
    refine va_get (D := (dC, dI)) (ci := 10) (v := .ref (ad 12)) (C := RX11) (T := TX11) (N := 15) hx hb hts hinX11 hown hK hP 0 (at_10 rfl) rfl 5 (by decide) (hts (.fieldLink RX11 47 "BondCalendars" "book" "LBondCalendars$Book;") (by decide +kernel)) (fun _ h9 => h9) rfl dX11_income_17 ?_
    have hF := gFree hD hS hA
    refine va_callvD hd0 (va_runV_D (As := [.ref (ad 12)]) (rest := []) ⟨hx, hb, hml, hown, hts⟩ (n_X1_copyFrom l dC dI ad cA adK adV H.size σ1 hIσ1 26 rfl 12 rfl) (cwV 1 hts gX11_income_X1_copyFrom rfl rfl rfl (by decide +kernel) ⟨Nat.le_of_ble_eq_true rfl, Nat.le_of_ble_eq_true rfl⟩) ⟨gBlind, va_recv hK hP (ci := 1) (q0 := 26) rfl (at_1 rfl), gStart (As := [.ref (ad 26), .ref (ad 12)]) hP hD hK0 hT hS hF (d_2)⟩ rfl rfl hl.1 rfl (lv_room (Nat.le_of_ble_eq_true rfl)) dX11_income_20 ⟨Nat.le_of_ble_eq_true rfl, Nat.le_of_ble_eq_true rfl⟩) hS (fun q _ h => hF q h) hF (fun σ2 t H locs ht hvm hw hB hz1 hk1 hS d_6 hd0 => ?_)
    have hts := dr_words hts0 (d_6)
    have hK := gKd hK0 (d_6)
    have hown : (s.setDrawn (d_6)).vm.findClass RX11 = some m.cls := hown0
    obtain ⟨hP, hD⟩ := gBack hF ht hB
    obtain ⟨hIσ2, fcσ2, hp_7⟩ := hw
    refine lv_aload_n hx hb dX11_income_23 rfl (lv_at hl 0 rfl) ?_
    refine va_get (D := (dC, dI)) (ci := 10) (v := .ref (ad 26)) (C := RX11) (T := TX11) (N := 15) hx hb hts hinX11 hown hK hP 0 (at_10 rfl) rfl 7 (by decide) (hts (.fieldLink RX11 54 "BondCalendars" "trial" "LBondCalendars$Book;") (by decide +kernel)) (fun _ h9 => h9) rfl dX11_income_24 ?_
    refine lv_iload_n hx hb dX11_income_27 rfl (lv_at hl 1 rfl) ?_
    refine lv_aload_n hx hb dX11_income_28 rfl (lv_at hl 0 rfl) ?_
    obtain ⟨b_8, hb_9, q_10⟩ := rq_10_8 (c := 0) hIσ1 rfl
    refine va_get (D := (dC, dI)) (ci := 10) (v := .ref (ad b_8)) (C := RX11) (T := TX11) (N := 15) hx hb hts hinX11 hown hK hP 0 (at_10 rfl) rfl 8 (by decide) (hts (.fieldLink RX11 60 "BondCalendars" "live" "LBondCalendars$Desk;") (by decide +kernel)) (fun _ h9 => h9) (by show some (va_re ad ((σ2 0).2.2.2 8)) = _; rw [fcσ2 0 (by decide), q_10]; rfl) dX11_income_29 ?_
    refine lv_aload_n hx hb dX11_income_32 rfl (lv_at hl 0 rfl) ?_
    refine va_get (D := (dC, dI)) (ci := 10) (v := .ref (ad 9)) (C := RX11) (T := TX11) (N := 15) hx hb hts hinX11 hown hK hP 0 (at_10 rfl) rfl 3 (by decide) (hts (.fieldLink RX11 33 "BondCalendars" "ratio" "LBondCalendars$Ratio;") (by decide +kernel)) (fun _ h9 => h9) rfl dX11_income_33 ?_
    have hF := gFree hD hS hA
    refine va_calllD hd0 (va_runV_D (As := [.int p0, .ref (ad b_8), .ref (ad 9)]) (rest := []) ⟨hx, hb, hml, hown, hts⟩ (n_X1_passDays l dC dI ad cA adK adV H.size σ2 hIσ2 26 rfl p0 b_8 hb_9 9 rfl) (cwV 3 hts gX11_income_X1_passDays rfl rfl rfl (by decide +kernel) ⟨Nat.le_of_ble_eq_true rfl, Nat.le_of_ble_eq_true rfl⟩) ⟨gBlind, va_recv hK hP (ci := 1) (q0 := 26) rfl (at_1 rfl), gStart (As := [.ref (ad 26), .int p0, .ref (ad b_8), .ref (ad 9)]) hP hD hK0 hT hS hF (d_6)⟩ rfl rfl hl.1 rfl (lv_room (Nat.le_of_ble_eq_true rfl)) dX11_income_36 ⟨Nat.le_of_ble_eq_true rfl, Nat.le_of_ble_eq_true rfl⟩) hS (fun q _ h => hF q h) hF (fun r_11 σ3 t H locs ht hvm hw hB hz1 hk1 hS d_12 hd0 => ?_)
    have hts := dr_words hts0 (d_12)
    have hK := gKd hK0 (d_12)
    have hown : (s.setDrawn (d_12)).vm.findClass RX11 = some m.cls := hown0
    obtain ⟨hP, hD⟩ := gBack hF ht hB
    obtain ⟨hIσ3, fcσ3, hp_13⟩ := hw
    refine W.endD hd0 ?_
    exact W.lret (v := r_11) hx hb hr (fun t ht hW => ⟨⟨r_11, σ3, rfl, ⟨hIσ3, (gFr.tr (gFr.tr (gFr.tr (gFr.rfl (L := [1, 5, 10, 22, 24]) (σ := σ)) fcσ1 (by decide)) fcσ2 (by decide)) fcσ3 (by decide)), trivial⟩, ⟨by rw [ht]; exact hP, hD⟩⟩, hS.F ht⟩) hS.2.2 dX11_income_39
  · refine lv_ldc2 (v := (-9223372036854775808)) hx hb hown (hts (.constantLong RX11 256 (-9223372036854775808)) (by decide +kernel)) dX11_income_8 ?_
    refine W.endD hd0 ?_
    exact W.lret (v := (-9223372036854775808)) hx hb hr (fun t ht hW => ⟨⟨(-9223372036854775808), σ1, rfl, ⟨hIσ1, (gFr.tr (gFr.rfl (L := [1, 5, 10, 22, 24]) (σ := σ)) fcσ1 (by decide)), trivial⟩, ⟨by rw [ht]; exact hP, hD⟩⟩, hS.F ht⟩) hS.2.2 dX11_income_11
set_option maxHeartbeats 8000000 in
set_option maxRecDepth 100000 in
theorem n_X11_keep (l : Launch) (dC : Nat → ClassId) (dI : Nat → Nat → Nat) (ad : Nat → Nat) (cA : Nat → ClassId) (adK adV : Nat → Nat) (sz : Nat) (σ : gs) (hI : InvX σ)  : MetD lw_cs l yX11_keep wsX11_keep ({ frames := 1, cells := 0, slots := 0, locals := 23 }) (va_Pc [.ref (ad 0)] (gPre adK adV (dC, dI) (wX ad cA σ) (tX cA) sz)) (va_Qi (fun (r : Int32) (τ : gs) => InvX τ ∧ gFr [1, 10, 22, 24] σ τ ∧ (r = 0 ∨ r = 1)) (fun τ t => gPost (dC, dI) (va_A (wX ad cA σ) sz) (wX ad cA τ) t) (va_A (wX ad cA σ) sz)) 0 0 (va_A (wX ad cA σ) sz) := by
  refine MetD.ofW (cc := cX11_keep) (maxL := 1) (ret := (some .boolean)) (by decide) rfl ?_
  intro p e s m args below meth c s₁ B hml hv hd0
  obtain ⟨rfl, hsz, hP, hK, hD0, hT⟩ := hv
  have hx := B.exec
  have hb := B.bytes
  have hr := B.returns
  have hts0 := atoms_spec (ws := wsX11_keep) B.pre
  have hK0 := hK
  have hown0 : s.vm.findClass RX11 = some m.cls := findClass_of_methodNamed B.named
  have hlocks := B.notSynchronized
  have hinX11 : ∀ w ∈ u_ws RX11 TX11 15, w ∈ wsX11_keep := (fun _ h9 => List.mem_cons_of_mem _ (List.mem_append_left _ (List.mem_append_right _ h9)))
  subst hsz
  have hD := hD0.self (sz := s.heap.size)
  generalize hAe : va_A (wX ad cA σ) s.heap.size = A at hD hT ⊢
  have hA : ∀ q : Nat, s.heap.size ≤ q → A q := fun q h => by rw [← hAe]; exact Or.inr h
  have hS : va_S A s.heap s.heap [] := va_S.rf
  have hl := lv_entry ([.ref (ad 0)]) (n := 1) (Nat.le_of_ble_eq_true rfl)
  rw [lg_entry_eq]
  generalize (lg_sl ([.ref (ad 0)]) ++ List.replicate (1 - (lg_sl ([.ref (ad 0)])).length) Slot.unset).toArray = ls at hl ⊢
  have hl : lv_has ls 1 [(0, .ref (ad 0))] := hl
  have hts := dr_words hts0 (s.drawn)
  have hK := gKd hK0 (s.drawn)
  have hown : (s.setDrawn (s.drawn)).vm.findClass RX11 = some m.cls := hown0
  refine lv_aload_n hx hb dX11_keep_0 rfl (lv_at hl 0 rfl) ?_
  refine va_get (D := (dC, dI)) (ci := 10) (v := .int ((σ 0).1 10)) (C := RX11) (T := TX11) (N := 15) hx hb hts hinX11 hown hK hP 0 (at_10 rfl) rfl 10 (by decide) (hts (.fieldLink RX11 67 "BondCalendars" "hasDesk" "Z") (by decide +kernel)) (fun _ h9 => h9) rfl dX11_keep_1 ?_
  refine lv_if_ne (tgt := 14) hx hb dX11_keep_4 (by decide) (fun c_1 => ?_) (fun c_1 => ?_)
  · refine lv_aload_n hx hb dX11_keep_14 rfl (lv_at hl 0 rfl) ?_
    refine lv_iconst (v := 0) hx hb dX11_keep_15 (by decide) ?_
    refine va_put (D := (dC, dI)) (ci := 10) (v := .int 0) (C := RX11) (T := TX11) (N := 15) hx hb hts hinX11 tyX11 tyX11_ok nmX11 hown hK hP hD hS 0 (at_10 rfl) rfl 12 (by decide) (hts (.fieldLink RX11 74 "BondCalendars" "refusal" "I") (by decide +kernel)) (fun _ h9 => h9) rfl (ty := .int) (by decide +kernel) rfl rfl (Nat.le_of_ble_eq_true rfl) dX11_keep_16 (fun H locs hP hD hS => ?_)
    obtain ⟨σ1, eσ1, hP, hD⟩ := gPut (se_10_12 rfl) hP hD
    have hIσ1 : InvX σ1 := by rw [eσ1]; exact inv_I hI (ok_10_12 rfl _)
    have frσ1 : gFr [1, 10, 22, 24] σ σ1 := by rw [eσ1]; exact gFr.pI (gFr.rfl (L := [1, 10, 22, 24]) (σ := σ)) rfl (by decide)
    refine lv_aload_n hx hb dX11_keep_19 rfl (lv_at hl 0 rfl) ?_
    refine va_get (D := (dC, dI)) (ci := 10) (v := .ref (ad 19)) (C := RX11) (T := TX11) (N := 15) hx hb hts hinX11 hown hK hP 0 (at_10 rfl) rfl 6 (by decide) (hts (.fieldLink RX11 51 "BondCalendars" "kept" "LBondCalendars$Book;") (by decide +kernel)) (fun _ h9 => h9) rfl dX11_keep_20 ?_
    refine lv_aload_n hx hb dX11_keep_23 rfl (lv_at hl 0 rfl) ?_
    refine va_get (D := (dC, dI)) (ci := 10) (v := .ref (ad 12)) (C := RX11) (T := TX11) (N := 15) hx hb hts hinX11 hown hK hP 0 (at_10 rfl) rfl 5 (by decide) (hts (.fieldLink RX11 47 "BondCalendars" "book" "LBondCalendars$Book;") (by decide +kernel)) (fun _ h9 => h9) rfl dX11_keep_24 ?_
    have hF := gFree hD hS hA
    refine va_callvD hd0 (va_runV_D (As := [.ref (ad 12)]) (rest := []) ⟨hx, hb, hml, hown, hts⟩ (n_X1_copyFrom l dC dI ad cA adK adV H.size σ1 hIσ1 19 rfl 12 rfl) (cwV 1 hts gX11_keep_X1_copyFrom rfl rfl rfl (by decide +kernel) ⟨Nat.le_of_ble_eq_true rfl, Nat.le_of_ble_eq_true rfl⟩) ⟨gBlind, va_recv hK hP (ci := 1) (q0 := 19) rfl (at_1 rfl), gStart (As := [.ref (ad 19), .ref (ad 12)]) hP hD hK0 hT hS hF (s.drawn)⟩ rfl rfl hl.1 rfl (lv_room (Nat.le_of_ble_eq_true rfl)) dX11_keep_27 ⟨Nat.le_of_ble_eq_true rfl, Nat.le_of_ble_eq_true rfl⟩) hS (fun q _ h => hF q h) hF (fun σ2 t H locs ht hvm hw hB hz1 hk1 hS d_3 hd0 => ?_)
    have hts := dr_words hts0 (d_3)
    have hK := gKd hK0 (d_3)
    have hown : (s.setDrawn (d_3)).vm.findClass RX11 = some m.cls := hown0
    obtain ⟨hP, hD⟩ := gBack hF ht hB
    obtain ⟨hIσ2, fcσ2, hp_4⟩ := hw
    refine lv_aload_n hx hb dX11_keep_30 rfl (lv_at hl 0 rfl) ?_
    refine lv_iconst (v := 1) hx hb dX11_keep_31 (by decide) ?_
    refine va_put (D := (dC, dI)) (ci := 10) (v := .int 1) (C := RX11) (T := TX11) (N := 15) hx hb hts hinX11 tyX11 tyX11_ok nmX11 hown hK hP hD hS 0 (at_10 rfl) rfl 11 (by decide) (hts (.fieldLink RX11 71 "BondCalendars" "hasKept" "Z") (by decide +kernel)) (fun _ h9 => h9) rfl (ty := .boolean) (by decide +kernel) (by decide +kernel) (by decide +kernel) (Nat.le_of_ble_eq_true rfl) dX11_keep_32 (fun H locs hP hD hS => ?_)
    obtain ⟨σ3, eσ3, hP, hD⟩ := gPut (se_10_11 rfl) hP hD
    have hIσ3 : InvX σ3 := by rw [eσ3]; exact inv_I hIσ2 (ok_10_11 rfl _)
    have frσ3 : gFr [1, 10, 22, 24] σ σ3 := by rw [eσ3]; exact gFr.pI (gFr.tr frσ1 fcσ2 (by decide)) rfl (by decide)
    refine lv_iconst (v := 1) hx hb dX11_keep_35 (by decide) ?_
    refine W.endD hd0 ?_
    exact W.zret (v := 1) hx hb hr (by decide) (fun t ht hW => ⟨⟨1, σ3, rfl, ⟨hIσ3, frσ3, Or.inr rfl⟩, ⟨by rw [ht]; exact hP, hD⟩⟩, hS.F ht⟩) hS.2.2 dX11_keep_36
  · refine lv_aload_n hx hb dX11_keep_7 rfl (lv_at hl 0 rfl) ?_
    refine lv_iconst (v := 1) hx hb dX11_keep_8 (by decide) ?_
    refine va_put (D := (dC, dI)) (ci := 10) (v := .int 1) (C := RX11) (T := TX11) (N := 15) hx hb hts hinX11 tyX11 tyX11_ok nmX11 hown hK hP hD hS 0 (at_10 rfl) rfl 12 (by decide) (hts (.fieldLink RX11 74 "BondCalendars" "refusal" "I") (by decide +kernel)) (fun _ h9 => h9) rfl (ty := .int) (by decide +kernel) rfl rfl (Nat.le_of_ble_eq_true rfl) dX11_keep_9 (fun H locs hP hD hS => ?_)
    obtain ⟨σ4, eσ4, hP, hD⟩ := gPut (se_10_12 rfl) hP hD
    have hIσ4 : InvX σ4 := by rw [eσ4]; exact inv_I hI (ok_10_12 rfl _)
    have frσ4 : gFr [1, 10, 22, 24] σ σ4 := by rw [eσ4]; exact gFr.pI (gFr.rfl (L := [1, 10, 22, 24]) (σ := σ)) rfl (by decide)
    refine lv_iconst (v := 0) hx hb dX11_keep_12 (by decide) ?_
    refine W.endD hd0 ?_
    exact W.zret (v := 0) hx hb hr (by decide) (fun t ht hW => ⟨⟨0, σ4, rfl, ⟨hIσ4, frσ4, Or.inl rfl⟩, ⟨by rw [ht]; exact hP, hD⟩⟩, hS.F ht⟩) hS.2.2 dX11_keep_13
set_option maxHeartbeats 8000000 in
set_option maxRecDepth 100000 in
theorem n_X11_back (l : Launch) (dC : Nat → ClassId) (dI : Nat → Nat → Nat) (ad : Nat → Nat) (cA : Nat → ClassId) (adK adV : Nat → Nat) (sz : Nat) (σ : gs) (hI : InvX σ)  : MetD lw_cs l yX11_back wsX11_back ({ frames := 1, cells := 0, slots := 0, locals := 23 }) (va_Pc [.ref (ad 0)] (gPre adK adV (dC, dI) (wX ad cA σ) (tX cA) sz)) (va_Qi (fun (r : Int32) (τ : gs) => InvX τ ∧ gFr [1, 10, 22, 24] σ τ ∧ (r = 0 ∨ r = 1)) (fun τ t => gPost (dC, dI) (va_A (wX ad cA σ) sz) (wX ad cA τ) t) (va_A (wX ad cA σ) sz)) 0 0 (va_A (wX ad cA σ) sz) := by
  refine MetD.ofW (cc := cX11_back) (maxL := 1) (ret := (some .boolean)) (by decide) rfl ?_
  intro p e s m args below meth c s₁ B hml hv hd0
  obtain ⟨rfl, hsz, hP, hK, hD0, hT⟩ := hv
  have hx := B.exec
  have hb := B.bytes
  have hr := B.returns
  have hts0 := atoms_spec (ws := wsX11_back) B.pre
  have hK0 := hK
  have hown0 : s.vm.findClass RX11 = some m.cls := findClass_of_methodNamed B.named
  have hlocks := B.notSynchronized
  have hinX11 : ∀ w ∈ u_ws RX11 TX11 15, w ∈ wsX11_back := (fun _ h9 => List.mem_cons_of_mem _ (List.mem_append_left _ (List.mem_append_right _ h9)))
  subst hsz
  have hD := hD0.self (sz := s.heap.size)
  generalize hAe : va_A (wX ad cA σ) s.heap.size = A at hD hT ⊢
  have hA : ∀ q : Nat, s.heap.size ≤ q → A q := fun q h => by rw [← hAe]; exact Or.inr h
  have hS : va_S A s.heap s.heap [] := va_S.rf
  have hl := lv_entry ([.ref (ad 0)]) (n := 1) (Nat.le_of_ble_eq_true rfl)
  rw [lg_entry_eq]
  generalize (lg_sl ([.ref (ad 0)]) ++ List.replicate (1 - (lg_sl ([.ref (ad 0)])).length) Slot.unset).toArray = ls at hl ⊢
  have hl : lv_has ls 1 [(0, .ref (ad 0))] := hl
  have hts := dr_words hts0 (s.drawn)
  have hK := gKd hK0 (s.drawn)
  have hown : (s.setDrawn (s.drawn)).vm.findClass RX11 = some m.cls := hown0
  refine lv_aload_n hx hb dX11_back_0 rfl (lv_at hl 0 rfl) ?_
  refine va_get (D := (dC, dI)) (ci := 10) (v := .int ((σ 0).1 10)) (C := RX11) (T := TX11) (N := 15) hx hb hts hinX11 hown hK hP 0 (at_10 rfl) rfl 10 (by decide) (hts (.fieldLink RX11 67 "BondCalendars" "hasDesk" "Z") (by decide +kernel)) (fun _ h9 => h9) rfl dX11_back_1 ?_
  refine lv_if_eq (tgt := 14) hx hb dX11_back_4 (by decide) (fun c_1 => ?_) (fun c_1 => ?_)
  · refine lv_aload_n hx hb dX11_back_14 rfl (lv_at hl 0 rfl) ?_
    refine lv_iconst (v := 1) hx hb dX11_back_15 (by decide) ?_
    refine va_put (D := (dC, dI)) (ci := 10) (v := .int 1) (C := RX11) (T := TX11) (N := 15) hx hb hts hinX11 tyX11 tyX11_ok nmX11 hown hK hP hD hS 0 (at_10 rfl) rfl 12 (by decide) (hts (.fieldLink RX11 74 "BondCalendars" "refusal" "I") (by decide +kernel)) (fun _ h9 => h9) rfl (ty := .int) (by decide +kernel) rfl rfl (Nat.le_of_ble_eq_true rfl) dX11_back_16 (fun H locs hP hD hS => ?_)
    obtain ⟨σ1, eσ1, hP, hD⟩ := gPut (se_10_12 rfl) hP hD
    have hIσ1 : InvX σ1 := by rw [eσ1]; exact inv_I hI (ok_10_12 rfl _)
    have frσ1 : gFr [1, 10, 22, 24] σ σ1 := by rw [eσ1]; exact gFr.pI (gFr.rfl (L := [1, 10, 22, 24]) (σ := σ)) rfl (by decide)
    refine lv_iconst (v := 0) hx hb dX11_back_19 (by decide) ?_
    refine W.endD hd0 ?_
    exact W.zret (v := 0) hx hb hr (by decide) (fun t ht hW => ⟨⟨0, σ1, rfl, ⟨hIσ1, frσ1, Or.inl rfl⟩, ⟨by rw [ht]; exact hP, hD⟩⟩, hS.F ht⟩) hS.2.2 dX11_back_20
  · refine lv_aload_n hx hb dX11_back_7 rfl (lv_at hl 0 rfl) ?_
    refine va_get (D := (dC, dI)) (ci := 10) (v := .int ((σ 0).1 11)) (C := RX11) (T := TX11) (N := 15) hx hb hts hinX11 hown hK hP 0 (at_10 rfl) rfl 11 (by decide) (hts (.fieldLink RX11 71 "BondCalendars" "hasKept" "Z") (by decide +kernel)) (fun _ h9 => h9) rfl dX11_back_8 ?_
    refine lv_if_ne (tgt := 21) hx hb dX11_back_11 (by decide) (fun c_2 => ?_) (fun c_2 => ?_)
    · refine lv_aload_n hx hb dX11_back_21 rfl (lv_at hl 0 rfl) ?_
      refine lv_iconst (v := 0) hx hb dX11_back_22 (by decide) ?_
      refine va_put (D := (dC, dI)) (ci := 10) (v := .int 0) (C := RX11) (T := TX11) (N := 15) hx hb hts hinX11 tyX11 tyX11_ok nmX11 hown hK hP hD hS 0 (at_10 rfl) rfl 12 (by decide) (hts (.fieldLink RX11 74 "BondCalendars" "refusal" "I") (by decide +kernel)) (fun _ h9 => h9) rfl (ty := .int) (by decide +kernel) rfl rfl (Nat.le_of_ble_eq_true rfl) dX11_back_23 (fun H locs hP hD hS => ?_)
      obtain ⟨σ2, eσ2, hP, hD⟩ := gPut (se_10_12 rfl) hP hD
      have hIσ2 : InvX σ2 := by rw [eσ2]; exact inv_I hI (ok_10_12 rfl _)
      have frσ2 : gFr [1, 10, 22, 24] σ σ2 := by rw [eσ2]; exact gFr.pI (gFr.rfl (L := [1, 10, 22, 24]) (σ := σ)) rfl (by decide)
      refine lv_aload_n hx hb dX11_back_26 rfl (lv_at hl 0 rfl) ?_
      refine va_get (D := (dC, dI)) (ci := 10) (v := .ref (ad 12)) (C := RX11) (T := TX11) (N := 15) hx hb hts hinX11 hown hK hP 0 (at_10 rfl) rfl 5 (by decide) (hts (.fieldLink RX11 47 "BondCalendars" "book" "LBondCalendars$Book;") (by decide +kernel)) (fun _ h9 => h9) rfl dX11_back_27 ?_
      refine lv_aload_n hx hb dX11_back_30 rfl (lv_at hl 0 rfl) ?_
      refine va_get (D := (dC, dI)) (ci := 10) (v := .ref (ad 19)) (C := RX11) (T := TX11) (N := 15) hx hb hts hinX11 hown hK hP 0 (at_10 rfl) rfl 6 (by decide) (hts (.fieldLink RX11 51 "BondCalendars" "kept" "LBondCalendars$Book;") (by decide +kernel)) (fun _ h9 => h9) rfl dX11_back_31 ?_
      have hF := gFree hD hS hA
      refine va_callvD hd0 (va_runV_D (As := [.ref (ad 19)]) (rest := []) ⟨hx, hb, hml, hown, hts⟩ (n_X1_copyFrom l dC dI ad cA adK adV H.size σ2 hIσ2 12 rfl 19 rfl) (cwV 1 hts gX11_back_X1_copyFrom rfl rfl rfl (by decide +kernel) ⟨Nat.le_of_ble_eq_true rfl, Nat.le_of_ble_eq_true rfl⟩) ⟨gBlind, va_recv hK hP (ci := 1) (q0 := 12) rfl (at_1 rfl), gStart (As := [.ref (ad 12), .ref (ad 19)]) hP hD hK0 hT hS hF (s.drawn)⟩ rfl rfl hl.1 rfl (lv_room (Nat.le_of_ble_eq_true rfl)) dX11_back_34 ⟨Nat.le_of_ble_eq_true rfl, Nat.le_of_ble_eq_true rfl⟩) hS (fun q _ h => hF q h) hF (fun σ3 t H locs ht hvm hw hB hz1 hk1 hS d_4 hd0 => ?_)
      have hts := dr_words hts0 (d_4)
      have hK := gKd hK0 (d_4)
      have hown : (s.setDrawn (d_4)).vm.findClass RX11 = some m.cls := hown0
      obtain ⟨hP, hD⟩ := gBack hF ht hB
      obtain ⟨hIσ3, fcσ3, hp_5⟩ := hw
      refine lv_iconst (v := 1) hx hb dX11_back_37 (by decide) ?_
      refine W.endD hd0 ?_
      exact W.zret (v := 1) hx hb hr (by decide) (fun t ht hW => ⟨⟨1, σ3, rfl, ⟨hIσ3, (gFr.tr frσ2 fcσ3 (by decide)), Or.inr rfl⟩, ⟨by rw [ht]; exact hP, hD⟩⟩, hS.F ht⟩) hS.2.2 dX11_back_38
    · refine lv_aload_n hx hb dX11_back_14 rfl (lv_at hl 0 rfl) ?_
      refine lv_iconst (v := 1) hx hb dX11_back_15 (by decide) ?_
      refine va_put (D := (dC, dI)) (ci := 10) (v := .int 1) (C := RX11) (T := TX11) (N := 15) hx hb hts hinX11 tyX11 tyX11_ok nmX11 hown hK hP hD hS 0 (at_10 rfl) rfl 12 (by decide) (hts (.fieldLink RX11 74 "BondCalendars" "refusal" "I") (by decide +kernel)) (fun _ h9 => h9) rfl (ty := .int) (by decide +kernel) rfl rfl (Nat.le_of_ble_eq_true rfl) dX11_back_16 (fun H locs hP hD hS => ?_)
      obtain ⟨σ4, eσ4, hP, hD⟩ := gPut (se_10_12 rfl) hP hD
      have hIσ4 : InvX σ4 := by rw [eσ4]; exact inv_I hI (ok_10_12 rfl _)
      have frσ4 : gFr [1, 10, 22, 24] σ σ4 := by rw [eσ4]; exact gFr.pI (gFr.rfl (L := [1, 10, 22, 24]) (σ := σ)) rfl (by decide)
      refine lv_iconst (v := 0) hx hb dX11_back_19 (by decide) ?_
      refine W.endD hd0 ?_
      exact W.zret (v := 0) hx hb hr (by decide) (fun t ht hW => ⟨⟨0, σ4, rfl, ⟨hIσ4, frσ4, Or.inl rfl⟩, ⟨by rw [ht]; exact hP, hD⟩⟩, hS.F ht⟩) hS.2.2 dX11_back_20
set_option maxHeartbeats 8000000 in
set_option maxRecDepth 100000 in
theorem n_X11_size (l : Launch) (dC : Nat → ClassId) (dI : Nat → Nat → Nat) (ad : Nat → Nat) (cA : Nat → ClassId) (adK adV : Nat → Nat) (sz : Nat) (σ : gs) (hI : InvX σ) (p0 : Int32) : MetD lw_cs l yX11_size wsX11_size ({ frames := 0, cells := 0, slots := 0, locals := 0 }) (va_Pc [.ref (ad 0), .int p0] (gPre adK adV (dC, dI) (wX ad cA σ) (tX cA) sz)) (va_Qi (fun (r : Int32) (τ : gs) => InvX τ ∧ σ = τ ∧ (True)) (fun τ t => gPost (dC, dI) (va_A (wX ad cA σ) sz) (wX ad cA τ) t) (va_A (wX ad cA σ) sz)) 0 0 (va_A (wX ad cA σ) sz) := by
  refine MetD.ofW (cc := cX11_size) (maxL := 2) (ret := (some .int)) (by decide) rfl ?_
  intro p e s m args below meth c s₁ B hml hv hd0
  obtain ⟨rfl, hsz, hP, hK, hD0, hT⟩ := hv
  have hx := B.exec
  have hb := B.bytes
  have hr := B.returns
  have hts0 := atoms_spec (ws := wsX11_size) B.pre
  have hK0 := hK
  have hown0 : s.vm.findClass RX11 = some m.cls := findClass_of_methodNamed B.named
  have hlocks := B.notSynchronized
  have hinX11 : ∀ w ∈ u_ws RX11 TX11 15, w ∈ wsX11_size := (fun _ h9 => List.mem_cons_of_mem _ (List.mem_append_left _ (List.mem_append_left _ (List.mem_append_left _ (List.mem_append_left _ (List.mem_append_right _ h9))))))
  have hinX4 : ∀ w ∈ u_ws RX4 TX4 12, w ∈ wsX11_size := (fun _ h9 => List.mem_cons_of_mem _ (List.mem_append_left _ (List.mem_append_left _ (List.mem_append_left _ (List.mem_append_right _ h9)))))
  have hinX5 : ∀ w ∈ u_ws RX5 TX5 2, w ∈ wsX11_size := (fun _ h9 => List.mem_cons_of_mem _ (List.mem_append_left _ (List.mem_append_left _ (List.mem_append_right _ h9))))
  have hinX7 : ∀ w ∈ u_ws RX7 TX7 5, w ∈ wsX11_size := (fun _ h9 => List.mem_cons_of_mem _ (List.mem_append_left _ (List.mem_append_right _ h9)))
  have hinX10 : ∀ w ∈ u_ws RX10 TX10 7, w ∈ wsX11_size := (fun _ h9 => List.mem_cons_of_mem _ (List.mem_append_right _ h9))
  subst hsz
  have hD := hD0.self (sz := s.heap.size)
  generalize hAe : va_A (wX ad cA σ) s.heap.size = A at hD hT ⊢
  have hA : ∀ q : Nat, s.heap.size ≤ q → A q := fun q h => by rw [← hAe]; exact Or.inr h
  have hS : va_S A s.heap s.heap [] := va_S.rf
  have hl := lv_entry ([.ref (ad 0), .int p0]) (n := 2) (Nat.le_of_ble_eq_true rfl)
  rw [lg_entry_eq]
  generalize (lg_sl ([.ref (ad 0), .int p0]) ++ List.replicate (2 - (lg_sl ([.ref (ad 0), .int p0])).length) Slot.unset).toArray = ls at hl ⊢
  have hl : lv_has ls 2 [(0, .ref (ad 0)), (1, .int p0)] := hl
  have hts := dr_words hts0 (s.drawn)
  have hK := gKd hK0 (s.drawn)
  have hown : (s.setDrawn (s.drawn)).vm.findClass RX11 = some m.cls := hown0
  refine lv_iload_n hx hb dX11_size_0 rfl (lv_at hl 1 rfl) ?_
  by_cases c_1 : p0 = 0
  · refine lv_tableIn (tgt := 36) hx hb dX11_size_1 (by rw [c_1]; decide) (by rw [c_1]; decide) (by rw [c_1]; rfl) (by decide) ?_
    refine lv_aload_n hx hb dX11_size_36 rfl (lv_at hl 0 rfl) ?_
    obtain ⟨b_2, hb_3, q_4⟩ := rq_10_8 (c := 0) hI rfl
    refine va_get (D := (dC, dI)) (ci := 10) (v := .ref (ad b_2)) (C := RX11) (T := TX11) (N := 15) hx hb hts hinX11 hown hK hP 0 (at_10 rfl) rfl 8 (by decide) (hts (.fieldLink RX11 60 "BondCalendars" "live" "LBondCalendars$Desk;") (by decide +kernel)) (fun _ h9 => h9) (by show some (va_re ad ((σ 0).2.2.2 8)) = _; rw [q_4]; rfl) dX11_size_37 ?_
    refine va_get (D := (dC, dI)) (ci := 3) (v := .int ((σ b_2).1 4)) (C := RX4) (T := TX4) (N := 12) hx hb hts hinX4 hown hK hP b_2 (at_3 hb_3) rfl 4 (by decide) (hts (.fieldLink RX11 124 "BondCalendars$Desk" "bondCount" "I") (by decide +kernel)) (fun _ h9 => h9) rfl dX11_size_40 ?_
    refine W.endD hd0 ?_
    exact W.iret (v := ((σ b_2).1 4)) hx hb hr (fun t ht hW => ⟨⟨((σ b_2).1 4), σ, rfl, ⟨hI, rfl, trivial⟩, ⟨by rw [ht]; exact hP, hD⟩⟩, hS.F ht⟩) hS.2.2 dX11_size_43
  by_cases c_5 : p0 = 1
  · refine lv_tableIn (tgt := 44) hx hb dX11_size_1 (by rw [c_5]; decide) (by rw [c_5]; decide) (by rw [c_5]; rfl) (by decide) ?_
    refine lv_aload_n hx hb dX11_size_44 rfl (lv_at hl 0 rfl) ?_
    obtain ⟨b_6, hb_7, q_8⟩ := rq_10_8 (c := 0) hI rfl
    refine va_get (D := (dC, dI)) (ci := 10) (v := .ref (ad b_6)) (C := RX11) (T := TX11) (N := 15) hx hb hts hinX11 hown hK hP 0 (at_10 rfl) rfl 8 (by decide) (hts (.fieldLink RX11 60 "BondCalendars" "live" "LBondCalendars$Desk;") (by decide +kernel)) (fun _ h9 => h9) (by show some (va_re ad ((σ 0).2.2.2 8)) = _; rw [q_8]; rfl) dX11_size_45 ?_
    refine va_get (D := (dC, dI)) (ci := 3) (v := .int ((σ b_6).1 9)) (C := RX4) (T := TX4) (N := 12) hx hb hts hinX4 hown hK hP b_6 (at_3 hb_7) rfl 9 (by decide) (hts (.fieldLink RX11 328 "BondCalendars$Desk" "quoteCount" "I") (by decide +kernel)) (fun _ h9 => h9) rfl dX11_size_48 ?_
    refine W.endD hd0 ?_
    exact W.iret (v := ((σ b_6).1 9)) hx hb hr (fun t ht hW => ⟨⟨((σ b_6).1 9), σ, rfl, ⟨hI, rfl, trivial⟩, ⟨by rw [ht]; exact hP, hD⟩⟩, hS.F ht⟩) hS.2.2 dX11_size_51
  by_cases c_9 : p0 = 2
  · refine lv_tableIn (tgt := 52) hx hb dX11_size_1 (by rw [c_9]; decide) (by rw [c_9]; decide) (by rw [c_9]; rfl) (by decide) ?_
    refine lv_aload_n hx hb dX11_size_52 rfl (lv_at hl 0 rfl) ?_
    obtain ⟨b_10, hb_11, q_12⟩ := rq_10_8 (c := 0) hI rfl
    refine va_get (D := (dC, dI)) (ci := 10) (v := .ref (ad b_10)) (C := RX11) (T := TX11) (N := 15) hx hb hts hinX11 hown hK hP 0 (at_10 rfl) rfl 8 (by decide) (hts (.fieldLink RX11 60 "BondCalendars" "live" "LBondCalendars$Desk;") (by decide +kernel)) (fun _ h9 => h9) (by show some (va_re ad ((σ 0).2.2.2 8)) = _; rw [q_12]; rfl) dX11_size_53 ?_
    refine va_get (D := (dC, dI)) (ci := 3) (v := .ref (ad (b_10 + 1))) (C := RX4) (T := TX4) (N := 12) hx hb hts hinX4 hown hK hP b_10 (at_3 hb_11) rfl 2 (by decide) (hts (.fieldLink RX11 146 "BondCalendars$Desk" "holidays" "LBondCalendars$Holidays;") (by decide +kernel)) (fun _ h9 => h9) rfl dX11_size_56 ?_
    have bd_13 := rd_4_1 (c := (b_10 + 1)) hI (kk_3_1 hb_11)
    refine va_get (D := (dC, dI)) (ci := 4) (v := .int ((σ ((b_10 + 1))).1 1)) (C := RX5) (T := TX5) (N := 2) hx hb hts hinX5 hown hK hP ((b_10 + 1)) (at_4 (kk_3_1 hb_11)) rfl 1 (by decide) (hts (.fieldLink RX11 378 "BondCalendars$Holidays" "count" "I") (by decide +kernel)) (fun _ h9 => h9) rfl dX11_size_59 ?_
    refine W.endD hd0 ?_
    exact W.iret (v := ((σ ((b_10 + 1))).1 1)) hx hb hr (fun t ht hW => ⟨⟨((σ ((b_10 + 1))).1 1), σ, rfl, ⟨hI, rfl, trivial⟩, ⟨by rw [ht]; exact hP, hD⟩⟩, hS.F ht⟩) hS.2.2 dX11_size_62
  by_cases c_14 : p0 = 3
  · refine lv_tableIn (tgt := 63) hx hb dX11_size_1 (by rw [c_14]; decide) (by rw [c_14]; decide) (by rw [c_14]; rfl) (by decide) ?_
    refine lv_aload_n hx hb dX11_size_63 rfl (lv_at hl 0 rfl) ?_
    refine va_get (D := (dC, dI)) (ci := 10) (v := .ref (ad 1)) (C := RX11) (T := TX11) (N := 15) hx hb hts hinX11 hown hK hP 0 (at_10 rfl) rfl 0 (by decide) (hts (.fieldLink RX11 10 "BondCalendars" "reader" "LBondCalendars$Reader;") (by decide +kernel)) (fun _ h9 => h9) rfl dX11_size_64 ?_
    refine va_get (D := (dC, dI)) (ci := 6) (v := .ref (ad 2)) (C := RX7) (T := TX7) (N := 5) hx hb hts hinX7 hown hK hP 1 (at_6 rfl) rfl 0 (by decide) (hts (.fieldLink RX11 84 "BondCalendars$Reader" "tape" "LBondCalendars$Tape;") (by decide +kernel)) (fun _ h9 => h9) rfl dX11_size_67 ?_
    have bd_15 := rd_9_1 (c := 2) hI rfl
    refine va_get (D := (dC, dI)) (ci := 9) (v := .int ((σ 2).1 1)) (C := RX10) (T := TX10) (N := 7) hx hb hts hinX10 hown hK hP 2 (at_9 rfl) rfl 1 (by decide) (hts (.fieldLink RX11 88 "BondCalendars$Tape" "length" "I") (by decide +kernel)) (fun _ h9 => h9) rfl dX11_size_70 ?_
    refine W.endD hd0 ?_
    exact W.iret (v := ((σ 2).1 1)) hx hb hr (fun t ht hW => ⟨⟨((σ 2).1 1), σ, rfl, ⟨hI, rfl, trivial⟩, ⟨by rw [ht]; exact hP, hD⟩⟩, hS.F ht⟩) hS.2.2 dX11_size_73
  by_cases c_16 : p0 = 4
  · refine lv_tableIn (tgt := 74) hx hb dX11_size_1 (by rw [c_16]; decide) (by rw [c_16]; decide) (by rw [c_16]; rfl) (by decide) ?_
    refine lv_aload_n hx hb dX11_size_74 rfl (lv_at hl 0 rfl) ?_
    refine va_get (D := (dC, dI)) (ci := 10) (v := .int ((σ 0).1 11)) (C := RX11) (T := TX11) (N := 15) hx hb hts hinX11 hown hK hP 0 (at_10 rfl) rfl 11 (by decide) (hts (.fieldLink RX11 71 "BondCalendars" "hasKept" "Z") (by decide +kernel)) (fun _ h9 => h9) rfl dX11_size_75 ?_
    refine lv_if_eq (tgt := 85) hx hb dX11_size_78 (by decide) (fun c_17 => ?_) (fun c_17 => ?_)
    · refine lv_iconst (v := 0) hx hb dX11_size_85 (by decide) ?_
      refine W.endD hd0 ?_
      exact W.iret (v := 0) hx hb hr (fun t ht hW => ⟨⟨0, σ, rfl, ⟨hI, rfl, trivial⟩, ⟨by rw [ht]; exact hP, hD⟩⟩, hS.F ht⟩) hS.2.2 dX11_size_86
    · refine lv_iconst (v := 1) hx hb dX11_size_81 (by decide) ?_
      refine lv_goto (tgt := 86) hx hb dX11_size_82 (by decide) ?_
      refine W.endD hd0 ?_
      exact W.iret (v := 1) hx hb hr (fun t ht hW => ⟨⟨1, σ, rfl, ⟨hI, rfl, trivial⟩, ⟨by rw [ht]; exact hP, hD⟩⟩, hS.F ht⟩) hS.2.2 dX11_size_86
  refine lv_tableOut (tgt := 87) hx hb dX11_size_1 (by have q0 := lv_neT (a := 0) c_1 rfl; have q1 := lv_neT (a := 1) c_5 rfl; have q2 := lv_neT (a := 2) c_9 rfl; have q3 := lv_neT (a := 3) c_14 rfl; have q4 := lv_neT (a := 4) c_16 rfl; omega) (by decide) ?_
  refine lv_iconst (v := (-1)) hx hb dX11_size_87 (by decide) ?_
  refine W.endD hd0 ?_
  exact W.iret (v := (-1)) hx hb hr (fun t ht hW => ⟨⟨(-1), σ, rfl, ⟨hI, rfl, trivial⟩, ⟨by rw [ht]; exact hP, hD⟩⟩, hS.F ht⟩) hS.2.2 dX11_size_88
set_option maxHeartbeats 8000000 in
set_option maxRecDepth 100000 in
theorem n_X11_trouble (l : Launch) (dC : Nat → ClassId) (dI : Nat → Nat → Nat) (ad : Nat → Nat) (cA : Nat → ClassId) (adK adV : Nat → Nat) (sz : Nat) (σ : gs) (hI : InvX σ)  : MetD lw_cs l yX11_trouble wsX11_trouble ({ frames := 0, cells := 0, slots := 0, locals := 0 }) (va_Pc [.ref (ad 0)] (gPre adK adV (dC, dI) (wX ad cA σ) (tX cA) sz)) (va_Qi (fun (r : Int32) (τ : gs) => InvX τ ∧ σ = τ ∧ (True)) (fun τ t => gPost (dC, dI) (va_A (wX ad cA σ) sz) (wX ad cA τ) t) (va_A (wX ad cA σ) sz)) 0 0 (va_A (wX ad cA σ) sz) := by
  refine MetD.ofW (cc := cX11_trouble) (maxL := 1) (ret := (some .int)) (by decide) rfl ?_
  intro p e s m args below meth c s₁ B hml hv hd0
  obtain ⟨rfl, hsz, hP, hK, hD0, hT⟩ := hv
  have hx := B.exec
  have hb := B.bytes
  have hr := B.returns
  have hts0 := atoms_spec (ws := wsX11_trouble) B.pre
  have hK0 := hK
  have hown0 : s.vm.findClass RX11 = some m.cls := findClass_of_methodNamed B.named
  have hlocks := B.notSynchronized
  have hinX11 : ∀ w ∈ u_ws RX11 TX11 15, w ∈ wsX11_trouble := (fun _ h9 => List.mem_cons_of_mem _ (List.mem_append_right _ h9))
  subst hsz
  have hD := hD0.self (sz := s.heap.size)
  generalize hAe : va_A (wX ad cA σ) s.heap.size = A at hD hT ⊢
  have hA : ∀ q : Nat, s.heap.size ≤ q → A q := fun q h => by rw [← hAe]; exact Or.inr h
  have hS : va_S A s.heap s.heap [] := va_S.rf
  have hl := lv_entry ([.ref (ad 0)]) (n := 1) (Nat.le_of_ble_eq_true rfl)
  rw [lg_entry_eq]
  generalize (lg_sl ([.ref (ad 0)]) ++ List.replicate (1 - (lg_sl ([.ref (ad 0)])).length) Slot.unset).toArray = ls at hl ⊢
  have hl : lv_has ls 1 [(0, .ref (ad 0))] := hl
  have hts := dr_words hts0 (s.drawn)
  have hK := gKd hK0 (s.drawn)
  have hown : (s.setDrawn (s.drawn)).vm.findClass RX11 = some m.cls := hown0
  refine lv_aload_n hx hb dX11_trouble_0 rfl (lv_at hl 0 rfl) ?_
  refine va_get (D := (dC, dI)) (ci := 10) (v := .int ((σ 0).1 12)) (C := RX11) (T := TX11) (N := 15) hx hb hts hinX11 hown hK hP 0 (at_10 rfl) rfl 12 (by decide) (hts (.fieldLink RX11 74 "BondCalendars" "refusal" "I") (by decide +kernel)) (fun _ h9 => h9) rfl dX11_trouble_1 ?_
  refine W.endD hd0 ?_
  exact W.iret (v := ((σ 0).1 12)) hx hb hr (fun t ht hW => ⟨⟨((σ 0).1 12), σ, rfl, ⟨hI, rfl, trivial⟩, ⟨by rw [ht]; exact hP, hD⟩⟩, hS.F ht⟩) hS.2.2 dX11_trouble_4
set_option maxHeartbeats 8000000 in
set_option maxRecDepth 100000 in
theorem n_X11_cheapest (l : Launch) (dC : Nat → ClassId) (dI : Nat → Nat → Nat) (ad : Nat → Nat) (cA : Nat → ClassId) (adK adV : Nat → Nat) (sz : Nat) (σ : gs) (hI : InvX σ)  : MetD lw_cs l yX11_cheapest wsX11_cheapest ({ frames := 3, cells := 0, slots := 0, locals := 77 }) (va_Pc [.ref (ad 0)] (gPre adK adV (dC, dI) (wX ad cA σ) (tX cA) sz)) (va_Qi (fun (r : Int32) (τ : gs) => InvX τ ∧ gFr [2, 10] σ τ ∧ (True)) (fun τ t => gPost (dC, dI) (va_A (wX ad cA σ) sz) (wX ad cA τ) t) (va_A (wX ad cA σ) sz)) 0 0 (va_A (wX ad cA σ) sz) := by
  refine MetD.ofW (cc := cX11_cheapest) (maxL := 5) (ret := (some .int)) (by decide) rfl ?_
  intro p e s m args below meth c s₁ B hml hv hd0
  obtain ⟨rfl, hsz, hP, hK, hD0, hT⟩ := hv
  have hx := B.exec
  have hb := B.bytes
  have hr := B.returns
  have hts0 := atoms_spec (ws := wsX11_cheapest) B.pre
  have hK0 := hK
  have hown0 : s.vm.findClass RX11 = some m.cls := findClass_of_methodNamed B.named
  have hlocks := B.notSynchronized
  have hinX11 : ∀ w ∈ u_ws RX11 TX11 15, w ∈ wsX11_cheapest := (fun _ h9 => List.mem_cons_of_mem _ (List.mem_append_left _ (List.mem_append_left _ (List.mem_append_left _ (List.mem_append_left _ (List.mem_append_right _ h9))))))
  have hinX4 : ∀ w ∈ u_ws RX4 TX4 12, w ∈ wsX11_cheapest := (fun _ h9 => List.mem_cons_of_mem _ (List.mem_append_left _ (List.mem_append_left _ (List.mem_append_left _ (List.mem_append_right _ h9)))))
  have hinX2 : ∀ w ∈ u_ws RX2 TX2 6, w ∈ wsX11_cheapest := (fun _ h9 => List.mem_cons_of_mem _ (List.mem_append_left _ (List.mem_append_left _ (List.mem_append_right _ h9))))
  subst hsz
  have hD := hD0.self (sz := s.heap.size)
  generalize hAe : va_A (wX ad cA σ) s.heap.size = A at hD hT ⊢
  have hA : ∀ q : Nat, s.heap.size ≤ q → A q := fun q h => by rw [← hAe]; exact Or.inr h
  have hS : va_S A s.heap s.heap [] := va_S.rf
  have hl := lv_entry ([.ref (ad 0)]) (n := 5) (Nat.le_of_ble_eq_true rfl)
  rw [lg_entry_eq]
  generalize (lg_sl ([.ref (ad 0)]) ++ List.replicate (5 - (lg_sl ([.ref (ad 0)])).length) Slot.unset).toArray = ls at hl ⊢
  have hl : lv_has ls 5 [(0, .ref (ad 0))] := hl
  have hts := dr_words hts0 (s.drawn)
  have hK := gKd hK0 (s.drawn)
  have hown : (s.setDrawn (s.drawn)).vm.findClass RX11 = some m.cls := hown0
  refine lv_aload_n hx hb dX11_cheapest_0 rfl (lv_at hl 0 rfl) ?_
  refine va_get (D := (dC, dI)) (ci := 10) (v := .int ((σ 0).1 10)) (C := RX11) (T := TX11) (N := 15) hx hb hts hinX11 hown hK hP 0 (at_10 rfl) rfl 10 (by decide) (hts (.fieldLink RX11 67 "BondCalendars" "hasDesk" "Z") (by decide +kernel)) (fun _ h9 => h9) rfl dX11_cheapest_1 ?_
  refine lv_if_ne (tgt := 13) hx hb dX11_cheapest_4 (by decide) (fun c_1 => ?_) (fun c_1 => ?_)
  · refine lv_aload_n hx hb dX11_cheapest_13 rfl (lv_at hl 0 rfl) ?_
    refine lv_iconst (v := 0) hx hb dX11_cheapest_14 (by decide) ?_
    refine va_put (D := (dC, dI)) (ci := 10) (v := .int 0) (C := RX11) (T := TX11) (N := 15) hx hb hts hinX11 tyX11 tyX11_ok nmX11 hown hK hP hD hS 0 (at_10 rfl) rfl 12 (by decide) (hts (.fieldLink RX11 74 "BondCalendars" "refusal" "I") (by decide +kernel)) (fun _ h9 => h9) rfl (ty := .int) (by decide +kernel) rfl rfl (Nat.le_of_ble_eq_true rfl) dX11_cheapest_15 (fun H locs hP hD hS => ?_)
    obtain ⟨σ1, eσ1, hP, hD⟩ := gPut (se_10_12 rfl) hP hD
    have hIσ1 : InvX σ1 := by rw [eσ1]; exact inv_I hI (ok_10_12 rfl _)
    have frσ1 : gFr [2, 10] σ σ1 := by rw [eσ1]; exact gFr.pI (gFr.rfl (L := [2, 10]) (σ := σ)) rfl (by decide)
    refine lv_bipush (v := (-2)) hx hb dX11_cheapest_18 (by decide) ?_
    refine lv_istore_n (lv' := [(1, .int (-2)), (0, .ref (ad 0))]) hx hb dX11_cheapest_20 rfl hl (by decide) rfl (fun ls hl => ?_)
    refine lv_dconst0 hx hb dX11_cheapest_21 ?_
    refine lv_dstore_n (lv' := [(2, .double 0), (1, .int (-2)), (0, .ref (ad 0))]) hx hb dX11_cheapest_22 rfl hl (by decide) rfl (fun ls hl => ?_)
    refine lv_iconst (v := 0) hx hb dX11_cheapest_23 (by decide) ?_
    refine lv_istore (lv' := [(4, .int 0), (2, .double 0), (1, .int (-2)), (0, .ref (ad 0))]) hx hb dX11_cheapest_24 hl (by decide) rfl (fun ls hl => ?_)
    refine (fun (h : ∀ (n : Nat) (i4 : Int32) (bs : Int32) (bl : UInt64) (σ26x : gs) (d26 : Drawn) (H : Heap) (locs : List Loc) (ls : Array Slot), ((6 : Int32).toInt - i4.toInt).toNat < n → 0 ≤ i4 → InvX σ26x → gFr [2, 10] σ σ26x → s.drawn.sameBut d26 lw_cs → va_P (dC, dI) vwCl (wX ad cA σ26x) H → va_D A (wX ad cA σ26x) → va_S A s.heap H locs → lv_has ls 5 [(4, .int i4), (2, .double bl), (1, .int bs), (0, .ref (ad 0))] → W p l e _ (s.setDrawn d26) m _ below meth c H locs _ _ _ (F0 m 26 ls [])) => h _ 0 (-2) 0 σ1 _ _ _ _ (Nat.lt_succ_self _) (by decide) hIσ1 frσ1 hd0 hP hD hS (lv_sub hl [0, 1, 2, 3] rfl)) ?_
    intro n26
    induction n26 with
    | zero => intro i4 bs bl σ26x d26 H locs ls hm; exact absurd hm (Nat.not_lt_zero _)
    | succ n26 ih26 =>
      intro i4 bs bl σ26x d26 H locs ls hm26 iv26_0 hIσ26x frσ26x hd0 hP hD hS hl
      have hts := dr_words hts0 (d26)
      have hK := gKd hK0 (d26)
      have hown : (s.setDrawn (d26)).vm.findClass RX11 = some m.cls := hown0
      refine lv_iload hx hb dX11_cheapest_26 (lv_at hl 0 rfl) ?_
      refine lv_aload_n hx hb dX11_cheapest_28 rfl (lv_at hl 3 rfl) ?_
      obtain ⟨b_2, hb_3, q_4⟩ := rq_10_8 (c := 0) hIσ26x rfl
      refine va_get (D := (dC, dI)) (ci := 10) (v := .ref (ad b_2)) (C := RX11) (T := TX11) (N := 15) hx hb hts hinX11 hown hK hP 0 (at_10 rfl) rfl 8 (by decide) (hts (.fieldLink RX11 60 "BondCalendars" "live" "LBondCalendars$Desk;") (by decide +kernel)) (fun _ h9 => h9) (by show some (va_re ad ((σ26x 0).2.2.2 8)) = _; rw [q_4]; rfl) dX11_cheapest_29 ?_
      refine va_get (D := (dC, dI)) (ci := 3) (v := .int ((σ b_2).1 9)) (C := RX4) (T := TX4) (N := 12) hx hb hts hinX4 hown hK hP b_2 (at_3 hb_3) rfl 9 (by decide) (hts (.fieldLink RX11 328 "BondCalendars$Desk" "quoteCount" "I") (by decide +kernel)) (fun _ h9 => h9) (congrArg (fun z => some (Value.int z)) (show (σ26x b_2).1 9 = ((σ b_2).1 9) from by rw [frσ26x b_2 (by rw [hb_3]; decide)])) dX11_cheapest_32 ?_
      refine lv_icmp_ge (tgt := 128) hx hb dX11_cheapest_35 (by decide) (fun c_5 => ?_) (fun c_5 => ?_)
      · refine lv_iload_n hx hb dX11_cheapest_128 rfl (lv_at hl 2 rfl) ?_
        refine W.endD hd0 ?_
        exact W.iret (v := bs) hx hb hr (fun t ht hW => ⟨⟨bs, σ26x, rfl, ⟨hIσ26x, frσ26x, trivial⟩, ⟨by rw [ht]; exact hP, hD⟩⟩, hS.F ht⟩) hS.2.2 dX11_cheapest_129
      · refine lv_iload hx hb dX11_cheapest_38 (lv_at hl 0 rfl) ?_
        refine lv_aload_n hx hb dX11_cheapest_40 rfl (lv_at hl 3 rfl) ?_
        refine va_get (D := (dC, dI)) (ci := 10) (v := .ref (ad b_2)) (C := RX11) (T := TX11) (N := 15) hx hb hts hinX11 hown hK hP 0 (at_10 rfl) rfl 8 (by decide) (hts (.fieldLink RX11 60 "BondCalendars" "live" "LBondCalendars$Desk;") (by decide +kernel)) (fun _ h9 => h9) (by show some (va_re ad ((σ26x 0).2.2.2 8)) = _; rw [q_4]; rfl) dX11_cheapest_41 ?_
        refine va_get (D := (dC, dI)) (ci := 3) (v := .ref (ad (b_2 + 32))) (C := RX4) (T := TX4) (N := 12) hx hb hts hinX4 hown hK hP b_2 (at_3 hb_3) rfl 5 (by decide) (hts (.fieldLink RX11 338 "BondCalendars$Desk" "quoted" "[LBondCalendars$Settle;") (by decide +kernel)) (fun _ h9 => h9) rfl dX11_cheapest_44 ?_
        refine va_alen (v := 6) hx hb hK hP ((b_2 + 32)) ((b_2 + 32)) (at_29 (kk_3_32 hb_3)) (ty_29 (kk_3_32 hb_3)) rfl dX11_cheapest_47 ?_
        refine lv_icmp_ge (tgt := 128) hx hb dX11_cheapest_48 (by decide) (fun c_6 => ?_) (fun c_6 => ?_)
        · refine lv_iload_n hx hb dX11_cheapest_128 rfl (lv_at hl 2 rfl) ?_
          refine W.endD hd0 ?_
          exact W.iret (v := bs) hx hb hr (fun t ht hW => ⟨⟨bs, σ26x, rfl, ⟨hIσ26x, frσ26x, trivial⟩, ⟨by rw [ht]; exact hP, hD⟩⟩, hS.F ht⟩) hS.2.2 dX11_cheapest_129
        · refine lv_aload_n hx hb dX11_cheapest_51 rfl (lv_at hl 3 rfl) ?_
          refine va_get (D := (dC, dI)) (ci := 10) (v := .ref (ad 8)) (C := RX11) (T := TX11) (N := 15) hx hb hts hinX11 hown hK hP 0 (at_10 rfl) rfl 2 (by decide) (hts (.fieldLink RX11 26 "BondCalendars" "bracket" "LBondCalendars$Bracket;") (by decide +kernel)) (fun _ h9 => h9) rfl dX11_cheapest_52 ?_
          refine lv_aload_n hx hb dX11_cheapest_55 rfl (lv_at hl 3 rfl) ?_
          refine va_get (D := (dC, dI)) (ci := 10) (v := .ref (ad b_2)) (C := RX11) (T := TX11) (N := 15) hx hb hts hinX11 hown hK hP 0 (at_10 rfl) rfl 8 (by decide) (hts (.fieldLink RX11 60 "BondCalendars" "live" "LBondCalendars$Desk;") (by decide +kernel)) (fun _ h9 => h9) (by show some (va_re ad ((σ26x 0).2.2.2 8)) = _; rw [q_4]; rfl) dX11_cheapest_56 ?_
          refine va_get (D := (dC, dI)) (ci := 3) (v := .ref (ad (b_2 + 32))) (C := RX4) (T := TX4) (N := 12) hx hb hts hinX4 hown hK hP b_2 (at_3 hb_3) rfl 5 (by decide) (hts (.fieldLink RX11 338 "BondCalendars$Desk" "quoted" "[LBondCalendars$Settle;") (by decide +kernel)) (fun _ h9 => h9) rfl dX11_cheapest_59 ?_
          refine lv_iload hx hb dX11_cheapest_62 (lv_at hl 0 rfl) ?_
          have hi_7 : vp_in i4 6 := (gin (N := 6) (by decide) iv26_0 (Int32.not_le.mp c_6))
          refine va_aldq hx hb hK hP ((b_2 + 32)) ((b_2 + 32)) (at_29 (kk_3_32 hb_3)) (ty_29 (kk_3_32 hb_3)) hi_7 dX11_cheapest_64 ?_
          refine (fun h => (va_rd_29 (ad := ad) (c := (b_2 + 32)) hi_7) ▸ h) ?_
          obtain ⟨c_8, hc_9, ecc_8⟩ : ∃ z, kX z = 7 ∧ (b_2 + 32) + 1 + 4 * i4.toNatClampNeg = z := ⟨_, kr_29 (kk_3_32 hb_3) (Nat.not_le.mp fun q => hi_7 (Or.inr q)), rfl⟩
          rw [ecc_8]
          refine lv_aload_n hx hb dX11_cheapest_65 rfl (lv_at hl 3 rfl) ?_
          refine va_get (D := (dC, dI)) (ci := 10) (v := .ref (ad b_2)) (C := RX11) (T := TX11) (N := 15) hx hb hts hinX11 hown hK hP 0 (at_10 rfl) rfl 8 (by decide) (hts (.fieldLink RX11 60 "BondCalendars" "live" "LBondCalendars$Desk;") (by decide +kernel)) (fun _ h9 => h9) (by show some (va_re ad ((σ26x 0).2.2.2 8)) = _; rw [q_4]; rfl) dX11_cheapest_66 ?_
          refine va_get (D := (dC, dI)) (ci := 3) (v := .ref (ad (b_2 + 59))) (C := RX4) (T := TX4) (N := 12) hx hb hts hinX4 hown hK hP b_2 (at_3 hb_3) rfl 8 (by decide) (hts (.fieldLink RX11 318 "BondCalendars$Desk" "quotedPrices" "[I") (by decide +kernel)) (fun _ h9 => h9) rfl dX11_cheapest_69 ?_
          refine lv_iload hx hb dX11_cheapest_72 (lv_at hl 0 rfl) ?_
          refine va_iald hx hb hK hP ((b_2 + 59)) ((b_2 + 59)) (at_30 (kk_3_59 hb_3)) (ty_30 (kk_3_59 hb_3)) (gin (N := 6) (by decide) iv26_0 (Int32.not_le.mp c_6)) dX11_cheapest_74 ?_
          refine lv_topi (fun x_10 _ => ?_)
          have hF := gFree hD hS hA
          refine va_calliD hd0 (va_runV_D (As := [.ref (ad c_8), .int x_10]) (rest := []) ⟨hx, hb, hml, hown, hts⟩ (n_X2_open l dC dI ad cA adK adV H.size σ26x hIσ26x c_8 hc_9 x_10) (cwV 2 hts gX11_cheapest_X2_open rfl rfl rfl (by decide +kernel) ⟨Nat.le_of_ble_eq_true rfl, Nat.le_of_ble_eq_true rfl⟩) ⟨gBlind, va_recv hK hP (ci := 2) (q0 := 8) rfl (at_2 rfl), gStart (As := [.ref (ad 8), .ref (ad c_8), .int x_10]) hP hD hK0 hT hS hF (d26)⟩ rfl rfl hl.1 rfl (lv_room (Nat.le_of_ble_eq_true rfl)) dX11_cheapest_75 ⟨Nat.le_of_ble_eq_true rfl, Nat.le_of_ble_eq_true rfl⟩) hS (fun q _ h => hF q h) hF (fun r_11 σ2 t H locs ht hvm hw hB hz1 hk1 hS d_12 hd0 => ?_)
          have hts := dr_words hts0 (d_12)
          have hK := gKd hK0 (d_12)
          have hown : (s.setDrawn (d_12)).vm.findClass RX11 = some m.cls := hown0
          obtain ⟨hP, hD⟩ := gBack hF ht hB
          obtain ⟨hIσ2, fcσ2, hp_13⟩ := hw
          refine lv_if_ne (tgt := 84) hx hb dX11_cheapest_78 (by decide) (fun c_14 => ?_) (fun c_14 => ?_)
          · refine lv_aload_n hx hb dX11_cheapest_84 rfl (lv_at hl 3 rfl) ?_
            refine va_get (D := (dC, dI)) (ci := 10) (v := .ref (ad 8)) (C := RX11) (T := TX11) (N := 15) hx hb hts hinX11 hown hK hP 0 (at_10 rfl) rfl 2 (by decide) (hts (.fieldLink RX11 26 "BondCalendars" "bracket" "LBondCalendars$Bracket;") (by decide +kernel)) (fun _ h9 => h9) rfl dX11_cheapest_85 ?_
            refine lv_bipush (v := 40) hx hb dX11_cheapest_88 (by decide) ?_
            have hF := gFree hD hS hA
            refine va_callvD hd0 (va_runV_D (As := [.int 40]) (rest := []) ⟨hx, hb, hml, hown, hts⟩ (n_X2_narrowTimes l dC dI ad cA adK adV H.size σ2 hIσ2 40) (cwV 1 hts gX11_cheapest_X2_narrowTimes rfl rfl rfl (by decide +kernel) ⟨Nat.le_of_ble_eq_true rfl, Nat.le_of_ble_eq_true rfl⟩) ⟨gBlind, va_recv hK hP (ci := 2) (q0 := 8) rfl (at_2 rfl), gStart (As := [.ref (ad 8), .int 40]) hP hD hK0 hT hS hF (d_12)⟩ rfl rfl hl.1 rfl (lv_room (Nat.le_of_ble_eq_true rfl)) dX11_cheapest_90 ⟨Nat.le_of_ble_eq_true rfl, Nat.le_of_ble_eq_true rfl⟩) hS (fun q _ h => hF q h) hF (fun σ3 t H locs ht hvm hw hB hz1 hk1 hS d_16 hd0 => ?_)
            have hts := dr_words hts0 (d_16)
            have hK := gKd hK0 (d_16)
            have hown : (s.setDrawn (d_16)).vm.findClass RX11 = some m.cls := hown0
            obtain ⟨hP, hD⟩ := gBack hF ht hB
            obtain ⟨hIσ3, fcσ3, hp_17⟩ := hw
            refine lv_iload_n hx hb dX11_cheapest_93 rfl (lv_at hl 2 rfl) ?_
            refine lv_bipush (v := (-2)) hx hb dX11_cheapest_94 (by decide) ?_
            refine lv_icmp_eq (tgt := 111) hx hb dX11_cheapest_96 (by decide) (fun c_18 => ?_) (fun c_18 => ?_)
            · refine lv_iload hx hb dX11_cheapest_111 (lv_at hl 0 rfl) ?_
              refine lv_istore_n (lv' := [(1, .int i4), (4, .int i4), (2, .double bl), (0, .ref (ad 0))]) hx hb dX11_cheapest_113 rfl hl (by decide) rfl (fun ls hl => ?_)
              refine lv_aload_n hx hb dX11_cheapest_114 rfl (lv_at hl 3 rfl) ?_
              refine va_get (D := (dC, dI)) (ci := 10) (v := .ref (ad 8)) (C := RX11) (T := TX11) (N := 15) hx hb hts hinX11 hown hK hP 0 (at_10 rfl) rfl 2 (by decide) (hts (.fieldLink RX11 26 "BondCalendars" "bracket" "LBondCalendars$Bracket;") (by decide +kernel)) (fun _ h9 => h9) rfl dX11_cheapest_115 ?_
              refine va_get (D := (dC, dI)) (ci := 2) (v := .double ((σ3 8).2.2.1 2)) (C := RX2) (T := TX2) (N := 6) hx hb hts hinX2 hown hK hP 8 (at_2 rfl) rfl 2 (by decide) (hts (.fieldLink RX11 299 "BondCalendars$Bracket" "low" "D") (by decide +kernel)) (fun _ h9 => h9) rfl dX11_cheapest_118 ?_
              refine lv_dstore_n (lv' := [(2, .double ((σ3 8).2.2.1 2)), (1, .int i4), (4, .int i4), (0, .ref (ad 0))]) hx hb dX11_cheapest_121 rfl hl (by decide) rfl (fun ls hl => ?_)
              obtain ⟨x_19, ex_19⟩ : ∃ zz : Int32, zz = i4 + 1 := ⟨_, rfl⟩
              refine lv_iinc (v := x_19) (lv' := [(4, .int x_19), (2, .double ((σ3 8).2.2.1 2)), (1, .int i4), (0, .ref (ad 0))]) hx hb dX11_cheapest_122 hl (k := 2) rfl (by rw [ex_19]; rfl) (by decide) rfl (fun ls hl => ?_)
              refine lv_goto (tgt := 26) hx hb dX11_cheapest_125 (by decide) ?_
              exact ih26 x_19 i4 ((σ3 8).2.2.1 2) σ3 _ _ _ _ (cnt_m iv26_0 (Int32.not_le.mp c_6) hm26 ex_19) (cnt_0 iv26_0 (Int32.not_le.mp c_6) ex_19) hIσ3 (gFr.tr (gFr.tr frσ26x fcσ2 (by decide)) fcσ3 (by decide)) hd0 hP hD hS (lv_sub hl [0, 1, 2, 3] rfl)
            · refine lv_aload_n hx hb dX11_cheapest_99 rfl (lv_at hl 3 rfl) ?_
              refine va_get (D := (dC, dI)) (ci := 10) (v := .ref (ad 8)) (C := RX11) (T := TX11) (N := 15) hx hb hts hinX11 hown hK hP 0 (at_10 rfl) rfl 2 (by decide) (hts (.fieldLink RX11 26 "BondCalendars" "bracket" "LBondCalendars$Bracket;") (by decide +kernel)) (fun _ h9 => h9) rfl dX11_cheapest_100 ?_
              refine va_get (D := (dC, dI)) (ci := 2) (v := .double ((σ3 8).2.2.1 2)) (C := RX2) (T := TX2) (N := 6) hx hb hts hinX2 hown hK hP 8 (at_2 rfl) rfl 2 (by decide) (hts (.fieldLink RX11 299 "BondCalendars$Bracket" "low" "D") (by decide +kernel)) (fun _ h9 => h9) rfl dX11_cheapest_103 ?_
              refine lv_dload_n hx hb dX11_cheapest_106 rfl (lv_at hl 1 rfl) ?_
              refine lv_dcmp hx hb dX11_cheapest_107 ?_
              refine lv_topi (fun x_20 _ => ?_)
              refine lv_if_le (tgt := 122) hx hb dX11_cheapest_108 (by decide) (fun c_21 => ?_) (fun c_21 => ?_)
              · obtain ⟨x_22, ex_22⟩ : ∃ zz : Int32, zz = i4 + 1 := ⟨_, rfl⟩
                refine lv_iinc (v := x_22) (lv' := [(4, .int x_22), (2, .double bl), (1, .int bs), (0, .ref (ad 0))]) hx hb dX11_cheapest_122 hl (k := 0) rfl (by rw [ex_22]; rfl) (by decide) rfl (fun ls hl => ?_)
                refine lv_goto (tgt := 26) hx hb dX11_cheapest_125 (by decide) ?_
                exact ih26 x_22 bs bl σ3 _ _ _ _ (cnt_m iv26_0 (Int32.not_le.mp c_6) hm26 ex_22) (cnt_0 iv26_0 (Int32.not_le.mp c_6) ex_22) hIσ3 (gFr.tr (gFr.tr frσ26x fcσ2 (by decide)) fcσ3 (by decide)) hd0 hP hD hS (lv_sub hl [0, 1, 2, 3] rfl)
              · refine lv_iload hx hb dX11_cheapest_111 (lv_at hl 0 rfl) ?_
                refine lv_istore_n (lv' := [(1, .int i4), (4, .int i4), (2, .double bl), (0, .ref (ad 0))]) hx hb dX11_cheapest_113 rfl hl (by decide) rfl (fun ls hl => ?_)
                refine lv_aload_n hx hb dX11_cheapest_114 rfl (lv_at hl 3 rfl) ?_
                refine va_get (D := (dC, dI)) (ci := 10) (v := .ref (ad 8)) (C := RX11) (T := TX11) (N := 15) hx hb hts hinX11 hown hK hP 0 (at_10 rfl) rfl 2 (by decide) (hts (.fieldLink RX11 26 "BondCalendars" "bracket" "LBondCalendars$Bracket;") (by decide +kernel)) (fun _ h9 => h9) rfl dX11_cheapest_115 ?_
                refine va_get (D := (dC, dI)) (ci := 2) (v := .double ((σ3 8).2.2.1 2)) (C := RX2) (T := TX2) (N := 6) hx hb hts hinX2 hown hK hP 8 (at_2 rfl) rfl 2 (by decide) (hts (.fieldLink RX11 299 "BondCalendars$Bracket" "low" "D") (by decide +kernel)) (fun _ h9 => h9) rfl dX11_cheapest_118 ?_
                refine lv_dstore_n (lv' := [(2, .double ((σ3 8).2.2.1 2)), (1, .int i4), (4, .int i4), (0, .ref (ad 0))]) hx hb dX11_cheapest_121 rfl hl (by decide) rfl (fun ls hl => ?_)
                obtain ⟨x_23, ex_23⟩ : ∃ zz : Int32, zz = i4 + 1 := ⟨_, rfl⟩
                refine lv_iinc (v := x_23) (lv' := [(4, .int x_23), (2, .double ((σ3 8).2.2.1 2)), (1, .int i4), (0, .ref (ad 0))]) hx hb dX11_cheapest_122 hl (k := 2) rfl (by rw [ex_23]; rfl) (by decide) rfl (fun ls hl => ?_)
                refine lv_goto (tgt := 26) hx hb dX11_cheapest_125 (by decide) ?_
                exact ih26 x_23 i4 ((σ3 8).2.2.1 2) σ3 _ _ _ _ (cnt_m iv26_0 (Int32.not_le.mp c_6) hm26 ex_23) (cnt_0 iv26_0 (Int32.not_le.mp c_6) ex_23) hIσ3 (gFr.tr (gFr.tr frσ26x fcσ2 (by decide)) fcσ3 (by decide)) hd0 hP hD hS (lv_sub hl [0, 1, 2, 3] rfl)
          · refine lv_goto (tgt := 122) hx hb dX11_cheapest_81 (by decide) ?_
            obtain ⟨x_24, ex_24⟩ : ∃ zz : Int32, zz = i4 + 1 := ⟨_, rfl⟩
            refine lv_iinc (v := x_24) (lv' := [(4, .int x_24), (2, .double bl), (1, .int bs), (0, .ref (ad 0))]) hx hb dX11_cheapest_122 hl (k := 0) rfl (by rw [ex_24]; rfl) (by decide) rfl (fun ls hl => ?_)
            refine lv_goto (tgt := 26) hx hb dX11_cheapest_125 (by decide) ?_
            exact ih26 x_24 bs bl σ2 _ _ _ _ (cnt_m iv26_0 (Int32.not_le.mp c_6) hm26 ex_24) (cnt_0 iv26_0 (Int32.not_le.mp c_6) ex_24) hIσ2 (gFr.tr frσ26x fcσ2 (by decide)) hd0 hP hD hS (lv_sub hl [0, 1, 2, 3] rfl)
  · refine lv_aload_n hx hb dX11_cheapest_7 rfl (lv_at hl 0 rfl) ?_
    refine lv_iconst (v := 1) hx hb dX11_cheapest_8 (by decide) ?_
    have hF := gFree hD hS hA
    refine va_calliD hd0 (va_runV_D (As := [.int 1]) (rest := []) ⟨hx, hb, hml, hown, hts⟩ (n_X11_refuse l dC dI ad cA adK adV s.heap.size σ hI 1) (cwV 1 hts gX11_cheapest_X11_refuse rfl rfl rfl (by decide +kernel) ⟨Nat.le_of_ble_eq_true rfl, Nat.le_of_ble_eq_true rfl⟩) ⟨gBlind, va_recv hK hP (ci := 10) (q0 := 0) rfl (at_10 rfl), gStart (As := [.ref (ad 0), .int 1]) hP hD hK0 hT hS hF (s.drawn)⟩ rfl rfl hl.1 rfl (lv_room (Nat.le_of_ble_eq_true rfl)) dX11_cheapest_9 ⟨Nat.le_of_ble_eq_true rfl, Nat.le_of_ble_eq_true rfl⟩) hS (fun q _ h => hF q h) hF (fun r_25 σ4 t H locs ht hvm hw hB hz1 hk1 hS d_26 hd0 => ?_)
    have hts := dr_words hts0 (d_26)
    have hK := gKd hK0 (d_26)
    have hown : (s.setDrawn (d_26)).vm.findClass RX11 = some m.cls := hown0
    obtain ⟨hP, hD⟩ := gBack hF ht hB
    obtain ⟨hIσ4, fcσ4, hp_27⟩ := hw
    refine W.endD hd0 ?_
    exact W.iret (v := r_25) hx hb hr (fun t ht hW => ⟨⟨r_25, σ4, rfl, ⟨hIσ4, (gFr.tr (gFr.rfl (L := [2, 10]) (σ := σ)) fcσ4 (by decide)), trivial⟩, ⟨by rw [ht]; exact hP, hD⟩⟩, hS.F ht⟩) hS.2.2 dX11_cheapest_12
set_option maxHeartbeats 8000000 in
set_option maxRecDepth 100000 in
theorem n_X11_worth (l : Launch) (dC : Nat → ClassId) (dI : Nat → Nat → Nat) (ad : Nat → Nat) (cA : Nat → ClassId) (adK adV : Nat → Nat) (sz : Nat) (σ : gs) (hI : InvX σ) (p0 : Int32) : MetD lw_cs l yX11_worth wsX11_worth ({ frames := 6, cells := 0, slots := 0, locals := 154 }) (va_Pc [.ref (ad 0), .int p0] (gPre adK adV (dC, dI) (wX ad cA σ) (tX cA) sz)) (va_Ql (fun (r : Int64) (τ : gs) => InvX τ ∧ gFr [5, 7, 10] σ τ ∧ (True)) (fun τ t => gPost (dC, dI) (va_A (wX ad cA σ) sz) (wX ad cA τ) t) (va_A (wX ad cA σ) sz)) 0 0 (va_A (wX ad cA σ) sz) := by
  refine MetD.ofW (cc := cX11_worth) (maxL := 5) (ret := (some .long)) (by decide) rfl ?_
  intro p e s m args below meth c s₁ B hml hv hd0
  obtain ⟨rfl, hsz, hP, hK, hD0, hT⟩ := hv
  have hx := B.exec
  have hb := B.bytes
  have hr := B.returns
  have hts0 := atoms_spec (ws := wsX11_worth) B.pre
  have hK0 := hK
  have hown0 : s.vm.findClass RX11 = some m.cls := findClass_of_methodNamed B.named
  have hlocks := B.notSynchronized
  have hinX11 : ∀ w ∈ u_ws RX11 TX11 15, w ∈ wsX11_worth := (fun _ h9 => List.mem_cons_of_mem _ (List.mem_append_left _ (List.mem_append_left _ (List.mem_append_left _ (List.mem_append_left _ (List.mem_append_left _ (List.mem_append_right _ h9)))))))
  have hinX1 : ∀ w ∈ u_ws RX1 TX1 4, w ∈ wsX11_worth := (fun _ h9 => List.mem_cons_of_mem _ (List.mem_append_left _ (List.mem_append_left _ (List.mem_append_left _ (List.mem_append_left _ (List.mem_append_right _ h9))))))
  have hinX4 : ∀ w ∈ u_ws RX4 TX4 12, w ∈ wsX11_worth := (fun _ h9 => List.mem_cons_of_mem _ (List.mem_append_left _ (List.mem_append_left _ (List.mem_append_left _ (List.mem_append_right _ h9)))))
  subst hsz
  have hD := hD0.self (sz := s.heap.size)
  generalize hAe : va_A (wX ad cA σ) s.heap.size = A at hD hT ⊢
  have hA : ∀ q : Nat, s.heap.size ≤ q → A q := fun q h => by rw [← hAe]; exact Or.inr h
  have hS : va_S A s.heap s.heap [] := va_S.rf
  have hl := lv_entry ([.ref (ad 0), .int p0]) (n := 5) (Nat.le_of_ble_eq_true rfl)
  rw [lg_entry_eq]
  generalize (lg_sl ([.ref (ad 0), .int p0]) ++ List.replicate (5 - (lg_sl ([.ref (ad 0), .int p0])).length) Slot.unset).toArray = ls at hl ⊢
  have hl : lv_has ls 5 [(0, .ref (ad 0)), (1, .int p0)] := hl
  have hts := dr_words hts0 (s.drawn)
  have hK := gKd hK0 (s.drawn)
  have hown : (s.setDrawn (s.drawn)).vm.findClass RX11 = some m.cls := hown0
  refine lv_aload_n hx hb dX11_worth_0 rfl (lv_at hl 0 rfl) ?_
  refine va_get (D := (dC, dI)) (ci := 10) (v := .int ((σ 0).1 10)) (C := RX11) (T := TX11) (N := 15) hx hb hts hinX11 hown hK hP 0 (at_10 rfl) rfl 10 (by decide) (hts (.fieldLink RX11 67 "BondCalendars" "hasDesk" "Z") (by decide +kernel)) (fun _ h9 => h9) rfl dX11_worth_1 ?_
  refine lv_if_ne (tgt := 13) hx hb dX11_worth_4 (by decide) (fun c_1 => ?_) (fun c_1 => ?_)
  · refine lv_iload_n hx hb dX11_worth_13 rfl (lv_at hl 1 rfl) ?_
    have hF := gFree hD hS hA
    refine va_calliD hd0 (va_runS_D (As := [.int p0]) (rest := []) ⟨hx, hb, hml, hown, hts⟩ (n_X11_arePoints l dC dI ad cA adK adV s.heap.size σ hI p0) (va_cwS 1 hts gX11_worth_X11_arePoints rfl rfl rfl (by decide +kernel) ⟨Nat.le_of_ble_eq_true rfl, Nat.le_of_ble_eq_true rfl⟩) ⟨gBlind, gStart (As := [.int p0]) hP hD hK0 hT hS hF (s.drawn)⟩ rfl rfl hl.1 rfl (lv_room (Nat.le_of_ble_eq_true rfl)) dX11_worth_14 ⟨Nat.le_of_ble_eq_true rfl, Nat.le_of_ble_eq_true rfl⟩) hS (fun q _ h => hF q h) hF (fun r_2 σ1 t H locs ht hvm hw hB hz1 hk1 hS d_3 hd0 => ?_)
    have hts := dr_words hts0 (d_3)
    have hK := gKd hK0 (d_3)
    have hown : (s.setDrawn (d_3)).vm.findClass RX11 = some m.cls := hown0
    obtain ⟨hP, hD⟩ := gBack hF ht hB
    obtain ⟨hIσ1, hro, hp_4⟩ := hw
    subst hro
    refine lv_if_ne (tgt := 26) hx hb dX11_worth_17 (by decide) (fun c_5 => ?_) (fun c_5 => ?_)
    · refine lv_aload_n hx hb dX11_worth_26 rfl (lv_at hl 0 rfl) ?_
      refine lv_iconst (v := 0) hx hb dX11_worth_27 (by decide) ?_
      refine va_put (D := (dC, dI)) (ci := 10) (v := .int 0) (C := RX11) (T := TX11) (N := 15) hx hb hts hinX11 tyX11 tyX11_ok nmX11 hown hK hP hD hS 0 (at_10 rfl) rfl 12 (by decide) (hts (.fieldLink RX11 74 "BondCalendars" "refusal" "I") (by decide +kernel)) (fun _ h9 => h9) rfl (ty := .int) (by decide +kernel) rfl rfl (Nat.le_of_ble_eq_true rfl) dX11_worth_28 (fun H locs hP hD hS => ?_)
      obtain ⟨σ2, eσ2, hP, hD⟩ := gPut (se_10_12 rfl) hP hD
      have hIσ2 : InvX σ2 := by rw [eσ2]; exact inv_I hI (ok_10_12 rfl _)
      have frσ2 : gFr [5, 7, 10] σ σ2 := by rw [eσ2]; exact gFr.pI (gFr.rfl (L := [5, 7, 10]) (σ := σ)) rfl (by decide)
      refine lv_aload_n hx hb dX11_worth_31 rfl (lv_at hl 0 rfl) ?_
      refine va_get (D := (dC, dI)) (ci := 10) (v := .ref (ad 12)) (C := RX11) (T := TX11) (N := 15) hx hb hts hinX11 hown hK hP 0 (at_10 rfl) rfl 5 (by decide) (hts (.fieldLink RX11 47 "BondCalendars" "book" "LBondCalendars$Book;") (by decide +kernel)) (fun _ h9 => h9) rfl dX11_worth_32 ?_
      refine va_get (D := (dC, dI)) (ci := 1) (v := .long ((σ 12).2.1 2)) (C := RX1) (T := TX1) (N := 4) hx hb hts hinX1 hown hK hP 12 (at_1 rfl) rfl 2 (by decide) (hts (.fieldLink RX11 345 "BondCalendars$Book" "money" "J") (by decide +kernel)) (fun _ h9 => h9) (congrArg (fun z => some (Value.long z)) (show (σ2 12).2.1 2 = ((σ 12).2.1 2) from by rw [eσ2, gI_ne _ _ _ (by decide)])) dX11_worth_35 ?_
      refine lv_l2d hx hb dX11_worth_38 ?_
      refine lv_topd (fun y_6 _ => ?_)
      refine lv_ldc2d (v := 4636737291354636288) hx hb hown (hts (.constantDouble RX11 307 (4636737291354636288)) (by decide +kernel)) dX11_worth_39 ?_
      refine lv_ddiv_any hd0 lw_bits hx hb dX11_worth_42 (fun y_7 d_8 _ hd0 => ?_)
      have hts := dr_words hts0 (d_8)
      have hK := gKd hK0 (d_8)
      have hown : (s.setDrawn (d_8)).vm.findClass RX11 = some m.cls := hown0
      refine lv_dstore_n (lv' := [(2, .double y_7), (0, .ref (ad 0)), (1, .int p0)]) hx hb dX11_worth_43 rfl hl (by decide) rfl (fun ls hl => ?_)
      refine lv_iconst (v := 0) hx hb dX11_worth_44 (by decide) ?_
      refine lv_istore (lv' := [(4, .int 0), (2, .double y_7), (0, .ref (ad 0)), (1, .int p0)]) hx hb dX11_worth_45 hl (by decide) rfl (fun ls hl => ?_)
      refine (fun (h : ∀ (n : Nat) (i4 : Int32) (sm : UInt64) (σ47x : gs) (d47 : Drawn) (H : Heap) (locs : List Loc) (ls : Array Slot), ((4 : Int32).toInt - i4.toInt).toNat < n → 0 ≤ i4 → InvX σ47x → gFr [5, 7, 10] σ σ47x → s.drawn.sameBut d47 lw_cs → va_P (dC, dI) vwCl (wX ad cA σ47x) H → va_D A (wX ad cA σ47x) → va_S A s.heap H locs → lv_has ls 5 [(4, .int i4), (2, .double sm), (0, .ref (ad 0)), (1, .int p0)] → W p l e _ (s.setDrawn d47) m _ below meth c H locs _ _ _ (F0 m 47 ls [])) => h _ 0 y_7 σ2 _ _ _ _ (Nat.lt_succ_self _) (by decide) hIσ2 frσ2 hd0 hP hD hS (lv_sub hl [0, 1, 2, 3] rfl)) ?_
      intro n47
      induction n47 with
      | zero => intro i4 sm σ47x d47 H locs ls hm; exact absurd hm (Nat.not_lt_zero _)
      | succ n47 ih47 =>
        intro i4 sm σ47x d47 H locs ls hm47 iv47_0 hIσ47x frσ47x hd0 hP hD hS hl
        have hts := dr_words hts0 (d47)
        have hK := gKd hK0 (d47)
        have hown : (s.setDrawn (d47)).vm.findClass RX11 = some m.cls := hown0
        refine lv_iload hx hb dX11_worth_47 (lv_at hl 0 rfl) ?_
        refine lv_aload_n hx hb dX11_worth_49 rfl (lv_at hl 2 rfl) ?_
        obtain ⟨b_9, hb_10, q_11⟩ := rq_10_8 (c := 0) hIσ47x rfl
        refine va_get (D := (dC, dI)) (ci := 10) (v := .ref (ad b_9)) (C := RX11) (T := TX11) (N := 15) hx hb hts hinX11 hown hK hP 0 (at_10 rfl) rfl 8 (by decide) (hts (.fieldLink RX11 60 "BondCalendars" "live" "LBondCalendars$Desk;") (by decide +kernel)) (fun _ h9 => h9) (by show some (va_re ad ((σ47x 0).2.2.2 8)) = _; rw [q_11]; rfl) dX11_worth_50 ?_
        refine va_get (D := (dC, dI)) (ci := 3) (v := .int ((σ b_9).1 4)) (C := RX4) (T := TX4) (N := 12) hx hb hts hinX4 hown hK hP b_9 (at_3 hb_10) rfl 4 (by decide) (hts (.fieldLink RX11 124 "BondCalendars$Desk" "bondCount" "I") (by decide +kernel)) (fun _ h9 => h9) (congrArg (fun z => some (Value.int z)) (show (σ47x b_9).1 4 = ((σ b_9).1 4) from by rw [frσ47x b_9 (by rw [hb_10]; decide)])) dX11_worth_53 ?_
        refine lv_icmp_ge (tgt := 151) hx hb dX11_worth_56 (by decide) (fun c_12 => ?_) (fun c_12 => ?_)
        · refine lv_dload_n hx hb dX11_worth_151 rfl (lv_at hl 1 rfl) ?_
          have hF := gFree hD hS hA
          refine va_calllD hd0 (va_runS_D (As := [.double sm]) (rest := []) ⟨hx, hb, hml, hown, hts⟩ (n_X11_bitsOf l dC dI ad cA adK adV H.size σ47x hIσ47x sm) (va_cwS 1 hts gX11_worth_X11_bitsOf rfl rfl rfl (by decide +kernel) ⟨Nat.le_of_ble_eq_true rfl, Nat.le_of_ble_eq_true rfl⟩) ⟨gBlind, gStart (As := [.double sm]) hP hD hK0 hT hS hF (d47)⟩ rfl rfl hl.1 rfl (lv_room (Nat.le_of_ble_eq_true rfl)) dX11_worth_152 ⟨Nat.le_of_ble_eq_true rfl, Nat.le_of_ble_eq_true rfl⟩) hS (fun q _ h => hF q h) hF (fun r_13 σ3 t H locs ht hvm hw hB hz1 hk1 hS d_14 hd0 => ?_)
          have hts := dr_words hts0 (d_14)
          have hK := gKd hK0 (d_14)
          have hown : (s.setDrawn (d_14)).vm.findClass RX11 = some m.cls := hown0
          obtain ⟨hP, hD⟩ := gBack hF ht hB
          obtain ⟨hIσ3, hro, hp_15⟩ := hw
          subst hro
          refine W.endD hd0 ?_
          exact W.lret (v := r_13) hx hb hr (fun t ht hW => ⟨⟨r_13, σ47x, rfl, ⟨hIσ47x, frσ47x, trivial⟩, ⟨by rw [ht]; exact hP, hD⟩⟩, hS.F ht⟩) hS.2.2 dX11_worth_155
        · refine lv_iload hx hb dX11_worth_59 (lv_at hl 0 rfl) ?_
          refine lv_aload_n hx hb dX11_worth_61 rfl (lv_at hl 2 rfl) ?_
          refine va_get (D := (dC, dI)) (ci := 10) (v := .ref (ad b_9)) (C := RX11) (T := TX11) (N := 15) hx hb hts hinX11 hown hK hP 0 (at_10 rfl) rfl 8 (by decide) (hts (.fieldLink RX11 60 "BondCalendars" "live" "LBondCalendars$Desk;") (by decide +kernel)) (fun _ h9 => h9) (by show some (va_re ad ((σ47x 0).2.2.2 8)) = _; rw [q_11]; rfl) dX11_worth_62 ?_
          refine va_get (D := (dC, dI)) (ci := 3) (v := .ref (ad (b_9 + 3))) (C := RX4) (T := TX4) (N := 12) hx hb hts hinX4 hown hK hP b_9 (at_3 hb_10) rfl 3 (by decide) (hts (.fieldLink RX11 352 "BondCalendars$Desk" "bonds" "[LBondCalendars$Bond;") (by decide +kernel)) (fun _ h9 => h9) rfl dX11_worth_65 ?_
          refine va_alen (v := 4) hx hb hK hP ((b_9 + 3)) ((b_9 + 3)) (at_26 (kk_3_3 hb_10)) (ty_26 (kk_3_3 hb_10)) rfl dX11_worth_68 ?_
          refine lv_icmp_ge (tgt := 151) hx hb dX11_worth_69 (by decide) (fun c_16 => ?_) (fun c_16 => ?_)
          · refine lv_dload_n hx hb dX11_worth_151 rfl (lv_at hl 1 rfl) ?_
            have hF := gFree hD hS hA
            refine va_calllD hd0 (va_runS_D (As := [.double sm]) (rest := []) ⟨hx, hb, hml, hown, hts⟩ (n_X11_bitsOf l dC dI ad cA adK adV H.size σ47x hIσ47x sm) (va_cwS 1 hts gX11_worth_X11_bitsOf rfl rfl rfl (by decide +kernel) ⟨Nat.le_of_ble_eq_true rfl, Nat.le_of_ble_eq_true rfl⟩) ⟨gBlind, gStart (As := [.double sm]) hP hD hK0 hT hS hF (d47)⟩ rfl rfl hl.1 rfl (lv_room (Nat.le_of_ble_eq_true rfl)) dX11_worth_152 ⟨Nat.le_of_ble_eq_true rfl, Nat.le_of_ble_eq_true rfl⟩) hS (fun q _ h => hF q h) hF (fun r_17 σ4 t H locs ht hvm hw hB hz1 hk1 hS d_18 hd0 => ?_)
            have hts := dr_words hts0 (d_18)
            have hK := gKd hK0 (d_18)
            have hown : (s.setDrawn (d_18)).vm.findClass RX11 = some m.cls := hown0
            obtain ⟨hP, hD⟩ := gBack hF ht hB
            obtain ⟨hIσ4, hro, hp_19⟩ := hw
            subst hro
            refine W.endD hd0 ?_
            exact W.lret (v := r_17) hx hb hr (fun t ht hW => ⟨⟨r_17, σ47x, rfl, ⟨hIσ47x, frσ47x, trivial⟩, ⟨by rw [ht]; exact hP, hD⟩⟩, hS.F ht⟩) hS.2.2 dX11_worth_155
          · refine lv_aload_n hx hb dX11_worth_72 rfl (lv_at hl 2 rfl) ?_
            refine va_get (D := (dC, dI)) (ci := 10) (v := .ref (ad b_9)) (C := RX11) (T := TX11) (N := 15) hx hb hts hinX11 hown hK hP 0 (at_10 rfl) rfl 8 (by decide) (hts (.fieldLink RX11 60 "BondCalendars" "live" "LBondCalendars$Desk;") (by decide +kernel)) (fun _ h9 => h9) (by show some (va_re ad ((σ47x 0).2.2.2 8)) = _; rw [q_11]; rfl) dX11_worth_73 ?_
            refine va_get (D := (dC, dI)) (ci := 3) (v := .ref (ad (b_9 + 3))) (C := RX4) (T := TX4) (N := 12) hx hb hts hinX4 hown hK hP b_9 (at_3 hb_10) rfl 3 (by decide) (hts (.fieldLink RX11 352 "BondCalendars$Desk" "bonds" "[LBondCalendars$Bond;") (by decide +kernel)) (fun _ h9 => h9) rfl dX11_worth_76 ?_
            refine lv_iload hx hb dX11_worth_79 (lv_at hl 0 rfl) ?_
            have hi_20 : vp_in i4 4 := (gin (N := 4) (by decide) iv47_0 (Int32.not_le.mp c_16))
            refine va_aldq hx hb hK hP ((b_9 + 3)) ((b_9 + 3)) (at_26 (kk_3_3 hb_10)) (ty_26 (kk_3_3 hb_10)) hi_20 dX11_worth_81 ?_
            refine (fun h => (va_rd_26 (ad := ad) (c := (b_9 + 3)) hi_20) ▸ h) ?_
            obtain ⟨c_21, hc_22, ecc_21⟩ : ∃ z, kX z = 0 ∧ (b_9 + 3) + 1 + 7 * i4.toNatClampNeg = z := ⟨_, kr_26 (kk_3_3 hb_10) (Nat.not_le.mp fun q => hi_20 (Or.inr q)), rfl⟩
            rw [ecc_21]
            refine lv_aload_n hx hb dX11_worth_82 rfl (lv_at hl 2 rfl) ?_
            refine va_get (D := (dC, dI)) (ci := 10) (v := .ref (ad 12)) (C := RX11) (T := TX11) (N := 15) hx hb hts hinX11 hown hK hP 0 (at_10 rfl) rfl 5 (by decide) (hts (.fieldLink RX11 47 "BondCalendars" "book" "LBondCalendars$Book;") (by decide +kernel)) (fun _ h9 => h9) rfl dX11_worth_83 ?_
            refine va_get (D := (dC, dI)) (ci := 1) (v := .int ((σ 12).1 3)) (C := RX1) (T := TX1) (N := 4) hx hb hts hinX1 hown hK hP 12 (at_1 rfl) rfl 3 (by decide) (hts (.fieldLink RX11 342 "BondCalendars$Book" "today" "I") (by decide +kernel)) (fun _ h9 => h9) (congrArg (fun z => some (Value.int z)) (show (σ47x 12).1 3 = ((σ 12).1 3) from by rw [frσ47x 12 (by decide)])) dX11_worth_86 ?_
            have hF := gFree hD hS hA
            refine va_calliD hd0 (va_runV_D (As := [.int ((σ 12).1 3)]) (rest := []) ⟨hx, hb, hml, hown, hts⟩ (n_X0_isSettle l dC dI ad cA adK adV H.size σ47x hIσ47x c_21 hc_22 ((σ 12).1 3)) (cwV 1 hts gX11_worth_X0_isSettle rfl rfl rfl (by decide +kernel) ⟨Nat.le_of_ble_eq_true rfl, Nat.le_of_ble_eq_true rfl⟩) ⟨gBlind, va_recv hK hP (ci := 0) (q0 := c_21) rfl (at_0 hc_22), gStart (As := [.ref (ad c_21), .int ((σ 12).1 3)]) hP hD hK0 hT hS hF (d47)⟩ rfl rfl hl.1 rfl (lv_room (Nat.le_of_ble_eq_true rfl)) dX11_worth_89 ⟨Nat.le_of_ble_eq_true rfl, Nat.le_of_ble_eq_true rfl⟩) hS (fun q _ h => hF q h) hF (fun r_23 σ5 t H locs ht hvm hw hB hz1 hk1 hS d_24 hd0 => ?_)
            have hts := dr_words hts0 (d_24)
            have hK := gKd hK0 (d_24)
            have hown : (s.setDrawn (d_24)).vm.findClass RX11 = some m.cls := hown0
            obtain ⟨hP, hD⟩ := gBack hF ht hB
            obtain ⟨hIσ5, hro, hp_25⟩ := hw
            subst hro
            refine lv_if_eq (tgt := 145) hx hb dX11_worth_92 (by decide) (fun c_26 => ?_) (fun c_26 => ?_)
            · obtain ⟨x_27, ex_27⟩ : ∃ zz : Int32, zz = i4 + 1 := ⟨_, rfl⟩
              refine lv_iinc (v := x_27) (lv' := [(4, .int x_27), (2, .double sm), (0, .ref (ad 0)), (1, .int p0)]) hx hb dX11_worth_145 hl (k := 0) rfl (by rw [ex_27]; rfl) (by decide) rfl (fun ls hl => ?_)
              refine lv_goto (tgt := 47) hx hb dX11_worth_148 (by decide) ?_
              exact ih47 x_27 sm σ47x _ _ _ _ (cnt_m iv47_0 (Int32.not_le.mp c_16) hm47 ex_27) (cnt_0 iv47_0 (Int32.not_le.mp c_16) ex_27) hIσ47x frσ47x hd0 hP hD hS (lv_sub hl [0, 1, 2, 3] rfl)
            · refine lv_aload_n hx hb dX11_worth_95 rfl (lv_at hl 2 rfl) ?_
              refine va_get (D := (dC, dI)) (ci := 10) (v := .ref (ad 4)) (C := RX11) (T := TX11) (N := 15) hx hb hts hinX11 hown hK hP 0 (at_10 rfl) rfl 1 (by decide) (hts (.fieldLink RX11 19 "BondCalendars" "settle" "LBondCalendars$Settle;") (by decide +kernel)) (fun _ h9 => h9) rfl dX11_worth_96 ?_
              refine lv_aload_n hx hb dX11_worth_99 rfl (lv_at hl 2 rfl) ?_
              refine va_get (D := (dC, dI)) (ci := 10) (v := .ref (ad b_9)) (C := RX11) (T := TX11) (N := 15) hx hb hts hinX11 hown hK hP 0 (at_10 rfl) rfl 8 (by decide) (hts (.fieldLink RX11 60 "BondCalendars" "live" "LBondCalendars$Desk;") (by decide +kernel)) (fun _ h9 => h9) (by show some (va_re ad ((σ47x 0).2.2.2 8)) = _; rw [q_11]; rfl) dX11_worth_100 ?_
              refine va_get (D := (dC, dI)) (ci := 3) (v := .ref (ad (b_9 + 3))) (C := RX4) (T := TX4) (N := 12) hx hb hts hinX4 hown hK hP b_9 (at_3 hb_10) rfl 3 (by decide) (hts (.fieldLink RX11 352 "BondCalendars$Desk" "bonds" "[LBondCalendars$Bond;") (by decide +kernel)) (fun _ h9 => h9) rfl dX11_worth_103 ?_
              refine lv_iload hx hb dX11_worth_106 (lv_at hl 0 rfl) ?_
              have hi_28 : vp_in i4 4 := (gin (N := 4) (by decide) iv47_0 (Int32.not_le.mp c_16))
              refine va_aldq hx hb hK hP ((b_9 + 3)) ((b_9 + 3)) (at_26 (kk_3_3 hb_10)) (ty_26 (kk_3_3 hb_10)) hi_28 dX11_worth_108 ?_
              refine (fun h => (va_rd_26 (ad := ad) (c := (b_9 + 3)) hi_28) ▸ h) ?_
              obtain ⟨c_29, hc_30, ecc_29⟩ : ∃ z, kX z = 0 ∧ (b_9 + 3) + 1 + 7 * i4.toNatClampNeg = z := ⟨_, kr_26 (kk_3_3 hb_10) (Nat.not_le.mp fun q => hi_28 (Or.inr q)), rfl⟩
              rw [ecc_29]
              refine lv_aload_n hx hb dX11_worth_109 rfl (lv_at hl 2 rfl) ?_
              refine va_get (D := (dC, dI)) (ci := 10) (v := .ref (ad 12)) (C := RX11) (T := TX11) (N := 15) hx hb hts hinX11 hown hK hP 0 (at_10 rfl) rfl 5 (by decide) (hts (.fieldLink RX11 47 "BondCalendars" "book" "LBondCalendars$Book;") (by decide +kernel)) (fun _ h9 => h9) rfl dX11_worth_110 ?_
              refine va_get (D := (dC, dI)) (ci := 1) (v := .int ((σ 12).1 3)) (C := RX1) (T := TX1) (N := 4) hx hb hts hinX1 hown hK hP 12 (at_1 rfl) rfl 3 (by decide) (hts (.fieldLink RX11 342 "BondCalendars$Book" "today" "I") (by decide +kernel)) (fun _ h9 => h9) (congrArg (fun z => some (Value.int z)) (show (σ47x 12).1 3 = ((σ 12).1 3) from by rw [frσ47x 12 (by decide)])) dX11_worth_113 ?_
              have hF := gFree hD hS hA
              refine va_callvD hd0 (va_runV_D (As := [.ref (ad c_29), .int ((σ 12).1 3)]) (rest := []) ⟨hx, hb, hml, hown, hts⟩ (n_X8_open l dC dI ad cA adK adV H.size σ47x hIσ47x 4 rfl c_29 hc_30 ((σ 12).1 3)) (cwV 2 hts gX11_worth_X8_open rfl rfl rfl (by decide +kernel) ⟨Nat.le_of_ble_eq_true rfl, Nat.le_of_ble_eq_true rfl⟩) ⟨gBlind, va_recv hK hP (ci := 7) (q0 := 4) rfl (at_7 rfl), gStart (As := [.ref (ad 4), .ref (ad c_29), .int ((σ 12).1 3)]) hP hD hK0 hT hS hF (d_24)⟩ rfl rfl hl.1 rfl (lv_room (Nat.le_of_ble_eq_true rfl)) dX11_worth_116 ⟨Nat.le_of_ble_eq_true rfl, Nat.le_of_ble_eq_true rfl⟩) hS (fun q _ h => hF q h) hF (fun σ6 t H locs ht hvm hw hB hz1 hk1 hS d_32 hd0 => ?_)
              have hts := dr_words hts0 (d_32)
              have hK := gKd hK0 (d_32)
              have hown : (s.setDrawn (d_32)).vm.findClass RX11 = some m.cls := hown0
              obtain ⟨hP, hD⟩ := gBack hF ht hB
              obtain ⟨hIσ6, fcσ6, hp_33⟩ := hw
              refine lv_dload_n hx hb dX11_worth_119 rfl (lv_at hl 1 rfl) ?_
              refine lv_aload_n hx hb dX11_worth_120 rfl (lv_at hl 2 rfl) ?_
              refine va_get (D := (dC, dI)) (ci := 10) (v := .ref (ad 12)) (C := RX11) (T := TX11) (N := 15) hx hb hts hinX11 hown hK hP 0 (at_10 rfl) rfl 5 (by decide) (hts (.fieldLink RX11 47 "BondCalendars" "book" "LBondCalendars$Book;") (by decide +kernel)) (fun _ h9 => h9) rfl dX11_worth_121 ?_
              refine va_get (D := (dC, dI)) (ci := 1) (v := .ref (ad (12 + 1))) (C := RX1) (T := TX1) (N := 4) hx hb hts hinX1 hown hK hP 12 (at_1 rfl) rfl 0 (by decide) (hts (.fieldLink RX11 349 "BondCalendars$Book" "held" "[I") (by decide +kernel)) (fun _ h9 => h9) rfl dX11_worth_124 ?_
              refine lv_iload hx hb dX11_worth_127 (lv_at hl 0 rfl) ?_
              refine va_iald hx hb hK hP ((12 + 1)) ((12 + 1)) (at_22 (kk_1_1 rfl)) (ty_22 (kk_1_1 rfl)) (gin (N := 4) (by decide) iv47_0 (Int32.not_le.mp c_16)) dX11_worth_129 ?_
              refine lv_topi (fun x_34 _ => ?_)
              refine lv_i2d hx hb dX11_worth_130 ?_
              refine lv_topd (fun y_35 _ => ?_)
              refine lv_aload_n hx hb dX11_worth_131 rfl (lv_at hl 2 rfl) ?_
              refine va_get (D := (dC, dI)) (ci := 10) (v := .ref (ad 4)) (C := RX11) (T := TX11) (N := 15) hx hb hts hinX11 hown hK hP 0 (at_10 rfl) rfl 1 (by decide) (hts (.fieldLink RX11 19 "BondCalendars" "settle" "LBondCalendars$Settle;") (by decide +kernel)) (fun _ h9 => h9) rfl dX11_worth_132 ?_
              refine lv_iload_n hx hb dX11_worth_135 rfl (lv_at hl 3 rfl) ?_
              have hF := gFree hD hS hA
              refine va_calldD hd0 (va_runS_D (As := [.int p0]) (rest := [.ref (ad 4), .double y_35, .double sm]) ⟨hx, hb, hml, hown, hts⟩ (n_X11_yieldOf l dC dI ad cA adK adV H.size σ6 hIσ6 p0) (va_cwS 1 hts gX11_worth_X11_yieldOf rfl rfl rfl (by decide +kernel) ⟨Nat.le_of_ble_eq_true rfl, Nat.le_of_ble_eq_true rfl⟩) ⟨gBlind, gStart (As := [.int p0]) hP hD hK0 hT hS hF (d_32)⟩ rfl rfl hl.1 rfl (lv_room (Nat.le_of_ble_eq_true rfl)) dX11_worth_136 ⟨Nat.le_of_ble_eq_true rfl, Nat.le_of_ble_eq_true rfl⟩) hS (fun q _ h => hF q h) hF (fun r_36 σ7 t H locs ht hvm hw hB hz1 hk1 hS d_37 hd0 => ?_)
              have hts := dr_words hts0 (d_37)
              have hK := gKd hK0 (d_37)
              have hown : (s.setDrawn (d_37)).vm.findClass RX11 = some m.cls := hown0
              obtain ⟨hP, hD⟩ := gBack hF ht hB
              obtain ⟨hIσ7, hro, hp_38⟩ := hw
              subst hro
              have hF := gFree hD hS hA
              refine va_calldD hd0 (va_runV_D (As := [.double r_36]) (rest := [.double y_35, .double sm]) ⟨hx, hb, hml, hown, hts⟩ (n_X8_dirtyAt l dC dI ad cA adK adV H.size σ6 hIσ6 4 rfl r_36) (cwV 1 hts gX11_worth_X8_dirtyAt rfl rfl rfl (by decide +kernel) ⟨Nat.le_of_ble_eq_true rfl, Nat.le_of_ble_eq_true rfl⟩) ⟨gBlind, va_recv hK hP (ci := 7) (q0 := 4) rfl (at_7 rfl), gStart (As := [.ref (ad 4), .double r_36]) hP hD hK0 hT hS hF (d_37)⟩ rfl rfl hl.1 rfl (lv_room (Nat.le_of_ble_eq_true rfl)) dX11_worth_139 ⟨Nat.le_of_ble_eq_true rfl, Nat.le_of_ble_eq_true rfl⟩) hS (fun q _ h => hF q h) hF (fun r_39 σ8 t H locs ht hvm hw hB hz1 hk1 hS d_40 hd0 => ?_)
              have hts := dr_words hts0 (d_40)
              have hK := gKd hK0 (d_40)
              have hown : (s.setDrawn (d_40)).vm.findClass RX11 = some m.cls := hown0
              obtain ⟨hP, hD⟩ := gBack hF ht hB
              obtain ⟨hIσ8, hro, hp_41⟩ := hw
              subst hro
              refine lv_dmul_any hd0 lw_bits hx hb dX11_worth_142 (fun y_42 d_43 _ hd0 => ?_)
              have hts := dr_words hts0 (d_43)
              have hK := gKd hK0 (d_43)
              have hown : (s.setDrawn (d_43)).vm.findClass RX11 = some m.cls := hown0
              refine lv_dadd_any hd0 lw_bits hx hb dX11_worth_143 (fun y_44 d_45 _ hd0 => ?_)
              have hts := dr_words hts0 (d_45)
              have hK := gKd hK0 (d_45)
              have hown : (s.setDrawn (d_45)).vm.findClass RX11 = some m.cls := hown0
              refine lv_dstore_n (lv' := [(2, .double y_44), (4, .int i4), (0, .ref (ad 0)), (1, .int p0)]) hx hb dX11_worth_144 rfl hl (by decide) rfl (fun ls hl => ?_)
              obtain ⟨x_46, ex_46⟩ : ∃ zz : Int32, zz = i4 + 1 := ⟨_, rfl⟩
              refine lv_iinc (v := x_46) (lv' := [(4, .int x_46), (2, .double y_44), (0, .ref (ad 0)), (1, .int p0)]) hx hb dX11_worth_145 hl (k := 1) rfl (by rw [ex_46]; rfl) (by decide) rfl (fun ls hl => ?_)
              refine lv_goto (tgt := 47) hx hb dX11_worth_148 (by decide) ?_
              exact ih47 x_46 y_44 σ6 _ _ _ _ (cnt_m iv47_0 (Int32.not_le.mp c_16) hm47 ex_46) (cnt_0 iv47_0 (Int32.not_le.mp c_16) ex_46) hIσ6 (gFr.tr frσ47x fcσ6 (by decide)) hd0 hP hD hS (lv_sub hl [0, 1, 2, 3] rfl)
    · refine lv_aload_n hx hb dX11_worth_20 rfl (lv_at hl 0 rfl) ?_
      refine lv_iconst (v := 2) hx hb dX11_worth_21 (by decide) ?_
      have hF := gFree hD hS hA
      refine va_calllD hd0 (va_runV_D (As := [.int 2]) (rest := []) ⟨hx, hb, hml, hown, hts⟩ (n_X11_refuseLong l dC dI ad cA adK adV H.size σ hI 2) (cwV 1 hts gX11_worth_X11_refuseLong rfl rfl rfl (by decide +kernel) ⟨Nat.le_of_ble_eq_true rfl, Nat.le_of_ble_eq_true rfl⟩) ⟨gBlind, va_recv hK hP (ci := 10) (q0 := 0) rfl (at_10 rfl), gStart (As := [.ref (ad 0), .int 2]) hP hD hK0 hT hS hF (d_3)⟩ rfl rfl hl.1 rfl (lv_room (Nat.le_of_ble_eq_true rfl)) dX11_worth_22 ⟨Nat.le_of_ble_eq_true rfl, Nat.le_of_ble_eq_true rfl⟩) hS (fun q _ h => hF q h) hF (fun r_47 σ9 t H locs ht hvm hw hB hz1 hk1 hS d_48 hd0 => ?_)
      have hts := dr_words hts0 (d_48)
      have hK := gKd hK0 (d_48)
      have hown : (s.setDrawn (d_48)).vm.findClass RX11 = some m.cls := hown0
      obtain ⟨hP, hD⟩ := gBack hF ht hB
      obtain ⟨hIσ9, fcσ9, hp_49⟩ := hw
      refine W.endD hd0 ?_
      exact W.lret (v := r_47) hx hb hr (fun t ht hW => ⟨⟨r_47, σ9, rfl, ⟨hIσ9, (gFr.tr (gFr.rfl (L := [5, 7, 10]) (σ := σ)) fcσ9 (by decide)), trivial⟩, ⟨by rw [ht]; exact hP, hD⟩⟩, hS.F ht⟩) hS.2.2 dX11_worth_25
  · refine lv_aload_n hx hb dX11_worth_7 rfl (lv_at hl 0 rfl) ?_
    refine lv_iconst (v := 1) hx hb dX11_worth_8 (by decide) ?_
    have hF := gFree hD hS hA
    refine va_calllD hd0 (va_runV_D (As := [.int 1]) (rest := []) ⟨hx, hb, hml, hown, hts⟩ (n_X11_refuseLong l dC dI ad cA adK adV s.heap.size σ hI 1) (cwV 1 hts gX11_worth_X11_refuseLong rfl rfl rfl (by decide +kernel) ⟨Nat.le_of_ble_eq_true rfl, Nat.le_of_ble_eq_true rfl⟩) ⟨gBlind, va_recv hK hP (ci := 10) (q0 := 0) rfl (at_10 rfl), gStart (As := [.ref (ad 0), .int 1]) hP hD hK0 hT hS hF (s.drawn)⟩ rfl rfl hl.1 rfl (lv_room (Nat.le_of_ble_eq_true rfl)) dX11_worth_9 ⟨Nat.le_of_ble_eq_true rfl, Nat.le_of_ble_eq_true rfl⟩) hS (fun q _ h => hF q h) hF (fun r_50 σ10 t H locs ht hvm hw hB hz1 hk1 hS d_51 hd0 => ?_)
    have hts := dr_words hts0 (d_51)
    have hK := gKd hK0 (d_51)
    have hown : (s.setDrawn (d_51)).vm.findClass RX11 = some m.cls := hown0
    obtain ⟨hP, hD⟩ := gBack hF ht hB
    obtain ⟨hIσ10, fcσ10, hp_52⟩ := hw
    refine W.endD hd0 ?_
    exact W.lret (v := r_50) hx hb hr (fun t ht hW => ⟨⟨r_50, σ10, rfl, ⟨hIσ10, (gFr.tr (gFr.rfl (L := [5, 7, 10]) (σ := σ)) fcσ10 (by decide)), trivial⟩, ⟨by rw [ht]; exact hP, hD⟩⟩, hS.F ht⟩) hS.2.2 dX11_worth_12
