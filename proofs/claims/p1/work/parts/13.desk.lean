set_option maxHeartbeats 4000000 in
set_option maxRecDepth 100000 in
theorem k_X4_clear (l : Launch) (dC : Nat → ClassId) (dI : Nat → Nat → Nat) (sz : Nat) (h0 : Nat) (fs_h0 : List Value) (ho : Nat) (fs_ho : List Value) (hn_h0 : fs_h0.length = 12) (hf_h0_2 : fs_h0[2]? = some (.ref ho)) (hn_ho : fs_ho.length = 2) : Met l yX4_clear wsX4_clear ({ frames := 0, cells := 0, slots := 0, locals := 0 }) (va_Pc [.ref h0] (fun U => U.heap.size = sz ∧ va_P (dC, dI) vwCl [(h0, .inr (3, fs_h0)), (ho, .inr (4, fs_ho))] U.heap ∧ va_K (dC, dI) vwCl [] U ∧ va_D (fun _ => True) [(h0, .inr (3, fs_h0)), (ho, .inr (4, fs_ho))])) (va_Qv (fun (_ : Unit) => True) (fun _ t => va_P (dC, dI) vwCl [(h0, .inr (3, (((fs_h0.set 4 (.int 0)).set 9 (.int 0)).set 10 (.int (-1))))), (ho, .inr (4, (fs_ho.set 1 (.int 0))))] t.heap ∧ va_K (dC, dI) vwCl [] t ∧ va_D (va_A [(h0, .inr (3, fs_h0)), (ho, .inr (4, fs_ho))] sz) [(h0, .inr (3, (((fs_h0.set 4 (.int 0)).set 9 (.int 0)).set 10 (.int (-1))))), (ho, .inr (4, (fs_ho.set 1 (.int 0))))]) (va_A [(h0, .inr (3, fs_h0)), (ho, .inr (4, fs_ho))] sz)) 0 0 (va_A [(h0, .inr (3, fs_h0)), (ho, .inr (4, fs_ho))] sz) := by
  refine Met.ofW (cc := cX4_clear) (maxL := 1) (ret := none) (by decide) rfl ?_
  intro p e s m args below meth c s₁ B hml hv
  obtain ⟨rfl, hsz, hP, hK, hD0⟩ := hv
  have hx := B.exec
  have hb := B.bytes
  have hr := B.returns
  have hts := atoms_spec (ws := wsX4_clear) B.pre
  have hown : s.vm.findClass RX4 = some m.cls := findClass_of_methodNamed B.named
  have hlocks := B.notSynchronized
  have hinX4 : ∀ w ∈ u_ws RX4 TX4 12, w ∈ wsX4_clear := (fun _ h9 => List.mem_cons_of_mem _ (List.mem_append_left _ (List.mem_append_right _ h9)))
  have hinX5 : ∀ w ∈ u_ws RX5 TX5 2, w ∈ wsX4_clear := (fun _ h9 => List.mem_cons_of_mem _ (List.mem_append_right _ h9))
  subst hsz
  have hD := hD0.self (sz := s.heap.size)
  generalize hAe : va_A [(h0, .inr (3, fs_h0)), (ho, .inr (4, fs_ho))] s.heap.size = A at hD ⊢
  have hA : ∀ q : Nat, s.heap.size ≤ q → A q := fun q h => by rw [← hAe]; exact Or.inr h
  have hS : va_S A s.heap s.heap [] := va_S.rf
  have hP : va_P (dC, dI) vwCl [(h0, .inr (3, fs_h0)), (ho, .inr (4, fs_ho))] s.heap := hP
  have hl := lv_entry ([.ref h0]) (n := 1) (Nat.le_of_ble_eq_true rfl)
  rw [lg_entry_eq]
  generalize (lg_sl ([.ref h0]) ++ List.replicate (1 - (lg_sl ([.ref h0])).length) Slot.unset).toArray = ls at hl ⊢
  have hl : lv_has ls 1 [(0, .ref h0)] := hl
  refine lv_aload_n hx hb dX4_clear_0 rfl (lv_at hl 0 rfl) ?_
  refine va_get (D := (dC, dI)) (ci := 3) (v := .ref ho) (C := RX4) (T := TX4) (N := 12) hx hb hts hinX4 hown hK hP 0 rfl rfl 2 (by decide) (hts (.fieldLink RX4 21 "BondCalendars$Desk" "holidays" "LBondCalendars$Holidays;") (by decide +kernel)) (fun _ h9 => h9) hf_h0_2 dX4_clear_1 ?_
  refine lv_iconst (v := 0) hx hb dX4_clear_4 (by decide) ?_
  refine va_put (D := (dC, dI)) (ci := 4) (v := .int 0) (C := RX5) (T := TX5) (N := 2) hx hb hts hinX5 tyX5 tyX5_ok nmX5 hown hK hP hD hS 1 rfl rfl 1 (by decide) (hts (.fieldLink RX4 65 "BondCalendars$Holidays" "count" "I") (by decide +kernel)) (fun _ h9 => h9) rfl (ty := .int) (by decide +kernel) rfl rfl (by rw [hn_ho]; decide) dX4_clear_5 (fun H locs hP hD hS => ?_)
  have hP : va_P (dC, dI) vwCl [(h0, .inr (3, fs_h0)), (ho, .inr (4, (fs_ho.set 1 (.int 0))))] H := hP
  have hD : va_D A [(h0, .inr (3, fs_h0)), (ho, .inr (4, (fs_ho.set 1 (.int 0))))] := hD
  refine lv_aload_n hx hb dX4_clear_8 rfl (lv_at hl 0 rfl) ?_
  refine lv_iconst (v := 0) hx hb dX4_clear_9 (by decide) ?_
  refine va_put (D := (dC, dI)) (ci := 3) (v := .int 0) (C := RX4) (T := TX4) (N := 12) hx hb hts hinX4 tyX4 tyX4_ok nmX4 hown hK hP hD hS 0 rfl rfl 4 (by decide) (hts (.fieldLink RX4 31 "BondCalendars$Desk" "bondCount" "I") (by decide +kernel)) (fun _ h9 => h9) rfl (ty := .int) (by decide +kernel) rfl rfl (by rw [hn_h0]; decide) dX4_clear_10 (fun H locs hP hD hS => ?_)
  have hP : va_P (dC, dI) vwCl [(h0, .inr (3, (fs_h0.set 4 (.int 0)))), (ho, .inr (4, (fs_ho.set 1 (.int 0))))] H := hP
  have hD : va_D A [(h0, .inr (3, (fs_h0.set 4 (.int 0)))), (ho, .inr (4, (fs_ho.set 1 (.int 0))))] := hD
  refine lv_aload_n hx hb dX4_clear_13 rfl (lv_at hl 0 rfl) ?_
  refine lv_iconst (v := 0) hx hb dX4_clear_14 (by decide) ?_
  refine va_put (D := (dC, dI)) (ci := 3) (v := .int 0) (C := RX4) (T := TX4) (N := 12) hx hb hts hinX4 tyX4 tyX4_ok nmX4 hown hK hP hD hS 0 rfl rfl 9 (by decide) (hts (.fieldLink RX4 50 "BondCalendars$Desk" "quoteCount" "I") (by decide +kernel)) (fun _ h9 => h9) rfl (ty := .int) (by decide +kernel) rfl rfl (by rw [(List.length_set.trans hn_h0)]; decide) dX4_clear_15 (fun H locs hP hD hS => ?_)
  have hP : va_P (dC, dI) vwCl [(h0, .inr (3, ((fs_h0.set 4 (.int 0)).set 9 (.int 0)))), (ho, .inr (4, (fs_ho.set 1 (.int 0))))] H := hP
  have hD : va_D A [(h0, .inr (3, ((fs_h0.set 4 (.int 0)).set 9 (.int 0)))), (ho, .inr (4, (fs_ho.set 1 (.int 0))))] := hD
  refine lv_aload_n hx hb dX4_clear_18 rfl (lv_at hl 0 rfl) ?_
  refine lv_iconst (v := (-1)) hx hb dX4_clear_19 (by decide) ?_
  refine va_put (D := (dC, dI)) (ci := 3) (v := .int (-1)) (C := RX4) (T := TX4) (N := 12) hx hb hts hinX4 tyX4 tyX4_ok nmX4 hown hK hP hD hS 0 rfl rfl 10 (by decide) (hts (.fieldLink RX4 53 "BondCalendars$Desk" "flatPoints" "I") (by decide +kernel)) (fun _ h9 => h9) rfl (ty := .int) (by decide +kernel) rfl rfl (by rw [(List.length_set.trans (List.length_set.trans hn_h0))]; decide) dX4_clear_20 (fun H locs hP hD hS => ?_)
  have hP : va_P (dC, dI) vwCl [(h0, .inr (3, (((fs_h0.set 4 (.int 0)).set 9 (.int 0)).set 10 (.int (-1))))), (ho, .inr (4, (fs_ho.set 1 (.int 0))))] H := hP
  have hD : va_D A [(h0, .inr (3, (((fs_h0.set 4 (.int 0)).set 9 (.int 0)).set 10 (.int (-1))))), (ho, .inr (4, (fs_ho.set 1 (.int 0))))] := hD
  have hpost : True := trivial
  have hP9 := hP.sub (ws' := [(h0, .inr (3, (((fs_h0.set 4 (.int 0)).set 9 (.int 0)).set 10 (.int (-1))))), (ho, .inr (4, (fs_ho.set 1 (.int 0))))]) [0, 1] rfl
  have hD9 := hD.sub (ws' := [(h0, .inr (3, (((fs_h0.set 4 (.int 0)).set 9 (.int 0)).set 10 (.int (-1))))), (ho, .inr (4, (fs_ho.set 1 (.int 0))))]) [0, 1] (by decide) rfl
  have hK9 := hK.sub (tys' := []) [] rfl
  exact W.vret hx hb hr (fun t ht hW => ⟨⟨(), rfl, hpost, by rw [ht]; exact hP9, va_K.moved hW.alike hK9, hD9⟩, hS.F ht⟩) hS.2.2 dX4_clear_23
set_option maxHeartbeats 4000000 in
set_option maxRecDepth 100000 in
theorem k_X10_advance (l : Launch) (dC : Nat → ClassId) (dI : Nat → Nat → Nat) (sz : Nat) (h0 : Nat) (fs_h0 : List Value) (ba : Nat) (cB : ClassId) (fb : Nat → Int32) (hn_h0 : fs_h0.length = 7) (hf_h0_5 : fs_h0[5]? = some (.int 0)) (hf_h0_6 : fs_h0[6]? = some (.int 0)) : Met l yX10_advance wsX10_advance ({ frames := 0, cells := 0, slots := 0, locals := 0 }) (va_Pc [.ref h0] (fun U => U.heap.size = sz ∧ va_P (dC, dI) vwCl [(h0, .inr (9, fs_h0)), (ba, .inl (cB, 900, .inl fb))] U.heap ∧ va_K (dC, dI) vwCl [] U ∧ va_D (fun _ => True) [(h0, .inr (9, fs_h0)), (ba, .inl (cB, 900, .inl fb))])) (va_Qv (fun (_ : Unit) => True) (fun _ t => va_P (dC, dI) vwCl [(h0, .inr (9, (((fs_h0.set 3 (.int 0)).set 4 (.int 0)).set 2 (.int 0)))), (ba, .inl (cB, 900, .inl fb))] t.heap ∧ va_K (dC, dI) vwCl [] t ∧ va_D (va_A [(h0, .inr (9, fs_h0)), (ba, .inl (cB, 900, .inl fb))] sz) [(h0, .inr (9, (((fs_h0.set 3 (.int 0)).set 4 (.int 0)).set 2 (.int 0)))), (ba, .inl (cB, 900, .inl fb))]) (va_A [(h0, .inr (9, fs_h0)), (ba, .inl (cB, 900, .inl fb))] sz)) 0 0 (va_A [(h0, .inr (9, fs_h0)), (ba, .inl (cB, 900, .inl fb))] sz) := by
  refine Met.ofW (cc := cX10_advance) (maxL := 7) (ret := none) (by decide) rfl ?_
  intro p e s m args below meth c s₁ B hml hv
  obtain ⟨rfl, hsz, hP, hK, hD0⟩ := hv
  have hx := B.exec
  have hb := B.bytes
  have hr := B.returns
  have hts := atoms_spec (ws := wsX10_advance) B.pre
  have hown : s.vm.findClass RX10 = some m.cls := findClass_of_methodNamed B.named
  have hlocks := B.notSynchronized
  have hinX10 : ∀ w ∈ u_ws RX10 TX10 7, w ∈ wsX10_advance := (fun _ h9 => List.mem_cons_of_mem _ (List.mem_append_right _ h9))
  subst hsz
  have hD := hD0.self (sz := s.heap.size)
  generalize hAe : va_A [(h0, .inr (9, fs_h0)), (ba, .inl (cB, 900, .inl fb))] s.heap.size = A at hD ⊢
  have hA : ∀ q : Nat, s.heap.size ≤ q → A q := fun q h => by rw [← hAe]; exact Or.inr h
  have hS : va_S A s.heap s.heap [] := va_S.rf
  have hP : va_P (dC, dI) vwCl [(h0, .inr (9, fs_h0)), (ba, .inl (cB, 900, .inl fb))] s.heap := hP
  have hl := lv_entry ([.ref h0]) (n := 7) (Nat.le_of_ble_eq_true rfl)
  rw [lg_entry_eq]
  generalize (lg_sl ([.ref h0]) ++ List.replicate (7 - (lg_sl ([.ref h0])).length) Slot.unset).toArray = ls at hl ⊢
  have hl : lv_has ls 7 [(0, .ref h0)] := hl
  refine lv_aload_n hx hb dX10_advance_0 rfl (lv_at hl 0 rfl) ?_
  refine va_get (D := (dC, dI)) (ci := 9) (v := .int 0) (C := RX10) (T := TX10) (N := 7) hx hb hts hinX10 hown hK hP 0 rfl rfl 6 (by decide) (hts (.fieldLink RX10 29 "BondCalendars$Tape" "next" "I") (by decide +kernel)) (fun _ h9 => h9) hf_h0_6 dX10_advance_1 ?_
  refine lv_aload_n hx hb dX10_advance_4 rfl (lv_at hl 0 rfl) ?_
  refine va_get (D := (dC, dI)) (ci := 9) (v := .int 0) (C := RX10) (T := TX10) (N := 7) hx hb hts hinX10 hown hK hP 0 rfl rfl 5 (by decide) (hts (.fieldLink RX10 26 "BondCalendars$Tape" "limit" "I") (by decide +kernel)) (fun _ h9 => h9) hf_h0_5 dX10_advance_5 ?_
  refine lv_icmp_ge (tgt := 38) hx hb dX10_advance_8 (by decide) (fun c_1 => ?_) (fun c_1 => ?_)
  · refine lv_aload_n hx hb dX10_advance_38 rfl (lv_at hl 0 rfl) ?_
    refine lv_aload_n hx hb dX10_advance_39 rfl (lv_at hl 0 rfl) ?_
    refine va_get (D := (dC, dI)) (ci := 9) (v := .int 0) (C := RX10) (T := TX10) (N := 7) hx hb hts hinX10 hown hK hP 0 rfl rfl 6 (by decide) (hts (.fieldLink RX10 29 "BondCalendars$Tape" "next" "I") (by decide +kernel)) (fun _ h9 => h9) hf_h0_6 dX10_advance_40 ?_
    refine va_put (D := (dC, dI)) (ci := 9) (v := .int 0) (C := RX10) (T := TX10) (N := 7) hx hb hts hinX10 tyX10 tyX10_ok nmX10 hown hK hP hD hS 0 rfl rfl 3 (by decide) (hts (.fieldLink RX10 20 "BondCalendars$Tape" "start" "I") (by decide +kernel)) (fun _ h9 => h9) rfl (ty := .int) (by decide +kernel) rfl rfl (by rw [hn_h0]; decide) dX10_advance_43 (fun H locs hP hD hS => ?_)
    have hP : va_P (dC, dI) vwCl [(h0, .inr (9, (fs_h0.set 3 (.int 0)))), (ba, .inl (cB, 900, .inl fb))] H := hP
    have hD : va_D A [(h0, .inr (9, (fs_h0.set 3 (.int 0)))), (ba, .inl (cB, 900, .inl fb))] := hD
    refine lv_aload_n hx hb dX10_advance_46 rfl (lv_at hl 0 rfl) ?_
    refine lv_iconst (v := 0) hx hb dX10_advance_47 (by decide) ?_
    refine va_put (D := (dC, dI)) (ci := 9) (v := .int 0) (C := RX10) (T := TX10) (N := 7) hx hb hts hinX10 tyX10 tyX10_ok nmX10 hown hK hP hD hS 0 rfl rfl 4 (by decide) (hts (.fieldLink RX10 23 "BondCalendars$Tape" "value" "I") (by decide +kernel)) (fun _ h9 => h9) rfl (ty := .int) (by decide +kernel) rfl rfl (by rw [(List.length_set.trans hn_h0)]; decide) dX10_advance_48 (fun H locs hP hD hS => ?_)
    have hP : va_P (dC, dI) vwCl [(h0, .inr (9, ((fs_h0.set 3 (.int 0)).set 4 (.int 0)))), (ba, .inl (cB, 900, .inl fb))] H := hP
    have hD : va_D A [(h0, .inr (9, ((fs_h0.set 3 (.int 0)).set 4 (.int 0)))), (ba, .inl (cB, 900, .inl fb))] := hD
    refine lv_aload_n hx hb dX10_advance_51 rfl (lv_at hl 0 rfl) ?_
    refine va_get (D := (dC, dI)) (ci := 9) (v := .int 0) (C := RX10) (T := TX10) (N := 7) hx hb hts hinX10 hown hK hP 0 rfl rfl 6 (by decide) (hts (.fieldLink RX10 29 "BondCalendars$Tape" "next" "I") (by decide +kernel)) (fun _ h9 => h9) ((List.getElem?_set_ne (by decide)).trans ((List.getElem?_set_ne (by decide)).trans hf_h0_6)) dX10_advance_52 ?_
    refine lv_aload_n hx hb dX10_advance_55 rfl (lv_at hl 0 rfl) ?_
    refine va_get (D := (dC, dI)) (ci := 9) (v := .int 0) (C := RX10) (T := TX10) (N := 7) hx hb hts hinX10 hown hK hP 0 rfl rfl 5 (by decide) (hts (.fieldLink RX10 26 "BondCalendars$Tape" "limit" "I") (by decide +kernel)) (fun _ h9 => h9) ((List.getElem?_set_ne (by decide)).trans ((List.getElem?_set_ne (by decide)).trans hf_h0_5)) dX10_advance_56 ?_
    refine lv_icmp_lt (tgt := 68) hx hb dX10_advance_59 (by decide) (fun c_2 => ?_) (fun c_2 => ?_)
    · exact absurd c_2 (by decide)
    · refine lv_aload_n hx hb dX10_advance_62 rfl (lv_at hl 0 rfl) ?_
      refine lv_iconst (v := 0) hx hb dX10_advance_63 (by decide) ?_
      refine va_put (D := (dC, dI)) (ci := 9) (v := .int 0) (C := RX10) (T := TX10) (N := 7) hx hb hts hinX10 tyX10 tyX10_ok nmX10 hown hK hP hD hS 0 rfl rfl 2 (by decide) (hts (.fieldLink RX10 17 "BondCalendars$Tape" "kind" "I") (by decide +kernel)) (fun _ h9 => h9) rfl (ty := .int) (by decide +kernel) rfl rfl (by rw [(List.length_set.trans (List.length_set.trans hn_h0))]; decide) dX10_advance_64 (fun H locs hP hD hS => ?_)
      have hP : va_P (dC, dI) vwCl [(h0, .inr (9, (((fs_h0.set 3 (.int 0)).set 4 (.int 0)).set 2 (.int 0)))), (ba, .inl (cB, 900, .inl fb))] H := hP
      have hD : va_D A [(h0, .inr (9, (((fs_h0.set 3 (.int 0)).set 4 (.int 0)).set 2 (.int 0)))), (ba, .inl (cB, 900, .inl fb))] := hD
      have hpost : True := trivial
      have hP9 := hP.sub (ws' := [(h0, .inr (9, (((fs_h0.set 3 (.int 0)).set 4 (.int 0)).set 2 (.int 0)))), (ba, .inl (cB, 900, .inl fb))]) [0, 1] rfl
      have hD9 := hD.sub (ws' := [(h0, .inr (9, (((fs_h0.set 3 (.int 0)).set 4 (.int 0)).set 2 (.int 0)))), (ba, .inl (cB, 900, .inl fb))]) [0, 1] (by decide) rfl
      have hK9 := hK.sub (tys' := []) [] rfl
      exact W.vret hx hb hr (fun t ht hW => ⟨⟨(), rfl, hpost, by rw [ht]; exact hP9, va_K.moved hW.alike hK9, hD9⟩, hS.F ht⟩) hS.2.2 dX10_advance_67
  · exact absurd (by decide) c_1
set_option maxHeartbeats 4000000 in
set_option maxRecDepth 100000 in
theorem k_X10_rewind (l : Launch) (dC : Nat → ClassId) (dI : Nat → Nat → Nat) (sz : Nat) (h0 : Nat) (fs_h0 : List Value) (ba : Nat) (cB : ClassId) (fb : Nat → Int32) (hn_h0 : fs_h0.length = 7) (hf_h0_0 : fs_h0[0]? = some (.ref ba)) (hf_h0_5 : fs_h0[5]? = some (.int 0)) (hf_h0_6 : fs_h0[6]? = some (.int 0)) : Met l yX10_rewind wsX10_rewind ({ frames := 1, cells := 0, slots := 0, locals := 26 }) (va_Pc [.ref h0, .int 0] (fun U => U.heap.size = sz ∧ va_P (dC, dI) vwCl [(h0, .inr (9, fs_h0)), (ba, .inl (cB, 900, .inl fb))] U.heap ∧ va_K (dC, dI) vwCl [(cB, .byte)] U ∧ va_D (fun _ => True) [(h0, .inr (9, fs_h0)), (ba, .inl (cB, 900, .inl fb))])) (va_Qv (fun (_ : Unit) => True) (fun _ t => va_P (dC, dI) vwCl [(h0, .inr (9, (((((fs_h0.set 5 (.int 0)).set 6 (.int 0)).set 3 (.int 0)).set 4 (.int 0)).set 2 (.int 0)))), (ba, .inl (cB, 900, .inl fb))] t.heap ∧ va_K (dC, dI) vwCl [] t ∧ va_D (va_A [(h0, .inr (9, fs_h0)), (ba, .inl (cB, 900, .inl fb))] sz) [(h0, .inr (9, (((((fs_h0.set 5 (.int 0)).set 6 (.int 0)).set 3 (.int 0)).set 4 (.int 0)).set 2 (.int 0)))), (ba, .inl (cB, 900, .inl fb))]) (va_A [(h0, .inr (9, fs_h0)), (ba, .inl (cB, 900, .inl fb))] sz)) 0 0 (va_A [(h0, .inr (9, fs_h0)), (ba, .inl (cB, 900, .inl fb))] sz) := by
  refine Met.ofW (cc := cX10_rewind) (maxL := 2) (ret := none) (by decide) rfl ?_
  intro p e s m args below meth c s₁ B hml hv
  obtain ⟨rfl, hsz, hP, hK, hD0⟩ := hv
  have hx := B.exec
  have hb := B.bytes
  have hr := B.returns
  have hts := atoms_spec (ws := wsX10_rewind) B.pre
  have hown : s.vm.findClass RX10 = some m.cls := findClass_of_methodNamed B.named
  have hlocks := B.notSynchronized
  have hinX10 : ∀ w ∈ u_ws RX10 TX10 7, w ∈ wsX10_rewind := (fun _ h9 => List.mem_cons_of_mem _ (List.mem_append_right _ h9))
  subst hsz
  have hD := hD0.self (sz := s.heap.size)
  generalize hAe : va_A [(h0, .inr (9, fs_h0)), (ba, .inl (cB, 900, .inl fb))] s.heap.size = A at hD ⊢
  have hA : ∀ q : Nat, s.heap.size ≤ q → A q := fun q h => by rw [← hAe]; exact Or.inr h
  have hS : va_S A s.heap s.heap [] := va_S.rf
  have hP : va_P (dC, dI) vwCl [(h0, .inr (9, fs_h0)), (ba, .inl (cB, 900, .inl fb))] s.heap := hP
  have hl := lv_entry ([.ref h0, .int 0]) (n := 2) (Nat.le_of_ble_eq_true rfl)
  rw [lg_entry_eq]
  generalize (lg_sl ([.ref h0, .int 0]) ++ List.replicate (2 - (lg_sl ([.ref h0, .int 0])).length) Slot.unset).toArray = ls at hl ⊢
  have hl : lv_has ls 2 [(0, .ref h0), (1, .int 0)] := hl
  refine lv_aload_n hx hb dX10_rewind_0 rfl (lv_at hl 0 rfl) ?_
  refine lv_iload_n hx hb dX10_rewind_1 rfl (lv_at hl 1 rfl) ?_
  refine lv_aload_n hx hb dX10_rewind_2 rfl (lv_at hl 0 rfl) ?_
  refine va_get (D := (dC, dI)) (ci := 9) (v := .ref ba) (C := RX10) (T := TX10) (N := 7) hx hb hts hinX10 hown hK hP 0 rfl rfl 0 (by decide) (hts (.fieldLink RX10 9 "BondCalendars$Tape" "bytes" "[B") (by decide +kernel)) (fun _ h9 => h9) hf_h0_0 dX10_rewind_3 ?_
  refine va_alen (v := 900) hx hb hK hP 1 0 rfl rfl rfl dX10_rewind_6 ?_
  refine va_mmin hx hb (hml.trans hl.1.symm) hown (hts (.methodLink RX10 32 Lib.Math.min.name) (by decide +kernel)) (hts (.static Lib.Math.min.name) (by decide +kernel)) (hts (.initialized "java/lang/Math") (by decide +kernel)) (hts (.code Lib.Math.min.name Lib.Math.min.code 2 (some .int)) (by decide +kernel)) (Nat.le_of_ble_eq_true rfl) (Nat.le_of_ble_eq_true rfl) (Nat.zero_le _) (Nat.zero_le _) dX10_rewind_7 ?_
  refine lv_topi (fun z_1 ez_1 => ?_)
  obtain rfl : z_1 = 0 := ez_1.trans (by decide)
  refine va_put (D := (dC, dI)) (ci := 9) (v := .int 0) (C := RX10) (T := TX10) (N := 7) hx hb hts hinX10 tyX10 tyX10_ok nmX10 hown hK hP hD hS 0 rfl rfl 5 (by decide) (hts (.fieldLink RX10 26 "BondCalendars$Tape" "limit" "I") (by decide +kernel)) (fun _ h9 => h9) rfl (ty := .int) (by decide +kernel) rfl rfl (by rw [hn_h0]; decide) dX10_rewind_10 (fun H locs hP hD hS => ?_)
  have hP : va_P (dC, dI) vwCl [(h0, .inr (9, (fs_h0.set 5 (.int 0)))), (ba, .inl (cB, 900, .inl fb))] H := hP
  have hD : va_D A [(h0, .inr (9, (fs_h0.set 5 (.int 0)))), (ba, .inl (cB, 900, .inl fb))] := hD
  refine lv_aload_n hx hb dX10_rewind_13 rfl (lv_at hl 0 rfl) ?_
  refine lv_iconst (v := 0) hx hb dX10_rewind_14 (by decide) ?_
  refine va_put (D := (dC, dI)) (ci := 9) (v := .int 0) (C := RX10) (T := TX10) (N := 7) hx hb hts hinX10 tyX10 tyX10_ok nmX10 hown hK hP hD hS 0 rfl rfl 6 (by decide) (hts (.fieldLink RX10 29 "BondCalendars$Tape" "next" "I") (by decide +kernel)) (fun _ h9 => h9) rfl (ty := .int) (by decide +kernel) rfl rfl (by rw [(List.length_set.trans hn_h0)]; decide) dX10_rewind_15 (fun H locs hP hD hS => ?_)
  have hP : va_P (dC, dI) vwCl [(h0, .inr (9, ((fs_h0.set 5 (.int 0)).set 6 (.int 0)))), (ba, .inl (cB, 900, .inl fb))] H := hP
  have hD : va_D A [(h0, .inr (9, ((fs_h0.set 5 (.int 0)).set 6 (.int 0)))), (ba, .inl (cB, 900, .inl fb))] := hD
  refine lv_aload_n hx hb dX10_rewind_18 rfl (lv_at hl 0 rfl) ?_
  have hPc := hP.sub (ws' := [(h0, .inr (9, ((fs_h0.set 5 (.int 0)).set 6 (.int 0)))), (ba, .inl (cB, 900, .inl fb))]) [0, 1] rfl
  have hDc := hD.sub (ws' := [(h0, .inr (9, ((fs_h0.set 5 (.int 0)).set 6 (.int 0)))), (ba, .inl (cB, 900, .inl fb))]) [0, 1] (by decide) rfl
  have hKc := hK.sub (tys' := []) [] rfl
  have hFc := va_free (wc := [(h0, .inr (9, ((fs_h0.set 5 (.int 0)).set 6 (.int 0)))), (ba, .inl (cB, 900, .inl fb))]) hD hS hA [0, 1] rfl
  refine va_callv (va_runV (As := []) (rest := []) ⟨hx, hb, hml, hown, hts⟩ (k_X10_advance l dC dI H.size h0 ((fs_h0.set 5 (.int 0)).set 6 (.int 0)) ba cB fb (List.length_set.trans (List.length_set.trans hn_h0)) ((List.getElem?_set_ne (by decide)).trans (List.getElem?_set_self (by rw [hn_h0]; decide))) (List.getElem?_set_self (by rw [(List.length_set.trans hn_h0)]; decide))) (cwV 0 hts gX10_rewind_X10_advance rfl rfl rfl (by decide +kernel) ⟨Nat.le_of_ble_eq_true rfl, Nat.le_of_ble_eq_true rfl⟩) ⟨fun a U g mk q => by obtain ⟨q0, q1, qP, qK, qD⟩ := q; exact ⟨q0, q1, qP, va_K.moved (u := U) (U := U.calling g mk a) (Vm.Alike.refl U.vm) qK, qD⟩, va_recv hKc hPc (ci := 9) (q0 := 0) rfl rfl, fun U hU hW => ⟨rfl, by rw [hU], by rw [hU]; exact hPc, va_K.moved hW.alike hKc, hDc.weaken (fun _ _ _ _ => trivial)⟩⟩ rfl rfl hl.1 rfl (lv_room (Nat.le_of_ble_eq_true rfl)) dX10_rewind_19 ⟨Nat.le_of_ble_eq_true rfl, Nat.le_of_ble_eq_true rfl⟩) hS (fun q _ h => hFc q h) hFc (fun u t H1 locs ht hvm hw hB hz1 hk1 hS => ?_)
  obtain ⟨hP1, hK1, hD1⟩ := hB
  rw [ht] at hP1
  have hK1 := va_K.moved hvm.symm hK1
  obtain ⟨hP, hD⟩ := va_join (wr := []) (w1 := [(h0, .inr (9, (((((fs_h0.set 5 (.int 0)).set 6 (.int 0)).set 3 (.int 0)).set 4 (.int 0)).set 2 (.int 0)))), (ba, .inl (cB, 900, .inl fb))]) hP hD [0, 1] [] rfl rfl (by decide) (by decide) hk1 hFc hP1 hD1
  generalize H1 = H at hP hS ⊢
  have hP : va_P (dC, dI) vwCl [(h0, .inr (9, (((((fs_h0.set 5 (.int 0)).set 6 (.int 0)).set 3 (.int 0)).set 4 (.int 0)).set 2 (.int 0)))), (ba, .inl (cB, 900, .inl fb))] H := hP
  have hD : va_D A [(h0, .inr (9, (((((fs_h0.set 5 (.int 0)).set 6 (.int 0)).set 3 (.int 0)).set 4 (.int 0)).set 2 (.int 0)))), (ba, .inl (cB, 900, .inl fb))] := hD
  have hpost : True := trivial
  have hP9 := hP.sub (ws' := [(h0, .inr (9, (((((fs_h0.set 5 (.int 0)).set 6 (.int 0)).set 3 (.int 0)).set 4 (.int 0)).set 2 (.int 0)))), (ba, .inl (cB, 900, .inl fb))]) [0, 1] rfl
  have hD9 := hD.sub (ws' := [(h0, .inr (9, (((((fs_h0.set 5 (.int 0)).set 6 (.int 0)).set 3 (.int 0)).set 4 (.int 0)).set 2 (.int 0)))), (ba, .inl (cB, 900, .inl fb))]) [0, 1] (by decide) rfl
  have hK9 := hK.sub (tys' := []) [] rfl
  exact W.vret hx hb hr (fun t ht hW => ⟨⟨(), rfl, hpost, by rw [ht]; exact hP9, va_K.moved hW.alike hK9, hD9⟩, hS.F ht⟩) hS.2.2 dX10_rewind_22
set_option maxHeartbeats 4000000 in
set_option maxRecDepth 100000 in
theorem k_X10_isWord (l : Launch) (dC : Nat → ClassId) (dI : Nat → Nat → Nat) (sz : Nat) (h0 : Nat) (fs_h0 : List Value) (w0 : Nat) (hn_h0 : fs_h0.length = 7) (hf_h0_2 : fs_h0[2]? = some (.int 0)) : Met l yX10_isWord wsX10_isWord ({ frames := 0, cells := 0, slots := 0, locals := 0 }) (va_Pc [.ref h0, .ref w0] (fun U => U.heap.size = sz ∧ va_P (dC, dI) vwCl [(h0, .inr (9, fs_h0))] U.heap ∧ va_K (dC, dI) vwCl [] U ∧ va_D (fun _ => True) [(h0, .inr (9, fs_h0))])) (va_Qi (fun (r : Int32) (_ : Unit) => r = 0) (fun _ t => va_P (dC, dI) vwCl [(h0, .inr (9, fs_h0))] t.heap ∧ va_K (dC, dI) vwCl [] t ∧ va_D (va_A [(h0, .inr (9, fs_h0))] sz) [(h0, .inr (9, fs_h0))]) (va_A [(h0, .inr (9, fs_h0))] sz)) 0 0 (va_A [(h0, .inr (9, fs_h0))] sz) := by
  refine Met.ofW (cc := cX10_isWord) (maxL := 3) (ret := (some .boolean)) (by decide) rfl ?_
  intro p e s m args below meth c s₁ B hml hv
  obtain ⟨rfl, hsz, hP, hK, hD0⟩ := hv
  have hx := B.exec
  have hb := B.bytes
  have hr := B.returns
  have hts := atoms_spec (ws := wsX10_isWord) B.pre
  have hown : s.vm.findClass RX10 = some m.cls := findClass_of_methodNamed B.named
  have hlocks := B.notSynchronized
  have hinX10 : ∀ w ∈ u_ws RX10 TX10 7, w ∈ wsX10_isWord := (fun _ h9 => List.mem_cons_of_mem _ (List.mem_append_right _ h9))
  subst hsz
  have hD := hD0.self (sz := s.heap.size)
  generalize hAe : va_A [(h0, .inr (9, fs_h0))] s.heap.size = A at hD ⊢
  have hA : ∀ q : Nat, s.heap.size ≤ q → A q := fun q h => by rw [← hAe]; exact Or.inr h
  have hS : va_S A s.heap s.heap [] := va_S.rf
  have hP : va_P (dC, dI) vwCl [(h0, .inr (9, fs_h0))] s.heap := hP
  have hl := lv_entry ([.ref h0, .ref w0]) (n := 3) (Nat.le_of_ble_eq_true rfl)
  rw [lg_entry_eq]
  generalize (lg_sl ([.ref h0, .ref w0]) ++ List.replicate (3 - (lg_sl ([.ref h0, .ref w0])).length) Slot.unset).toArray = ls at hl ⊢
  have hl : lv_has ls 3 [(0, .ref h0), (1, .ref w0)] := hl
  refine lv_aload_n hx hb dX10_isWord_0 rfl (lv_at hl 0 rfl) ?_
  refine va_get (D := (dC, dI)) (ci := 9) (v := .int 0) (C := RX10) (T := TX10) (N := 7) hx hb hts hinX10 hown hK hP 0 rfl rfl 2 (by decide) (hts (.fieldLink RX10 17 "BondCalendars$Tape" "kind" "I") (by decide +kernel)) (fun _ h9 => h9) hf_h0_2 dX10_isWord_1 ?_
  refine lv_iconst (v := 1) hx hb dX10_isWord_4 (by decide) ?_
  refine lv_icmp_ne (tgt := 36) hx hb dX10_isWord_5 (by decide) (fun c_1 => ?_) (fun c_1 => ?_)
  · refine lv_iconst (v := 0) hx hb dX10_isWord_36 (by decide) ?_
    have hpost : (0 : Int32) = 0 := rfl
    have hP9 := hP.sub (ws' := [(h0, .inr (9, fs_h0))]) [0] rfl
    have hD9 := hD.sub (ws' := [(h0, .inr (9, fs_h0))]) [0] (by decide) rfl
    have hK9 := hK.sub (tys' := []) [] rfl
    exact W.zret (v := 0) hx hb hr (by decide) (fun t ht hW => ⟨⟨0, (), rfl, hpost, by rw [ht]; exact hP9, va_K.moved hW.alike hK9, hD9⟩, hS.F ht⟩) hS.2.2 dX10_isWord_37
  · exact absurd c_1 (by decide)
set_option maxHeartbeats 4000000 in
set_option maxRecDepth 100000 in
theorem k_X7_fail (l : Launch) (dC : Nat → ClassId) (dI : Nat → Nat → Nat) (sz : Nat) (h0 : Nat) (fs_h0 : List Value) (p0 : Int32) (p1 : Int32) (hn_h0 : fs_h0.length = 5) : Met l yX7_fail wsX7_fail ({ frames := 0, cells := 0, slots := 0, locals := 0 }) (va_Pc [.ref h0, .int p0, .int p1] (fun U => U.heap.size = sz ∧ va_P (dC, dI) vwCl [(h0, .inr (6, fs_h0))] U.heap ∧ va_K (dC, dI) vwCl [] U ∧ va_D (fun _ => True) [(h0, .inr (6, fs_h0))])) (va_Qi (fun (r : Int32) (_ : Unit) => r = 0) (fun _ t => va_P (dC, dI) vwCl [(h0, .inr (6, ((fs_h0.set 1 (.int p0)).set 2 (.int p1))))] t.heap ∧ va_K (dC, dI) vwCl [] t ∧ va_D (va_A [(h0, .inr (6, fs_h0))] sz) [(h0, .inr (6, ((fs_h0.set 1 (.int p0)).set 2 (.int p1))))]) (va_A [(h0, .inr (6, fs_h0))] sz)) 0 0 (va_A [(h0, .inr (6, fs_h0))] sz) := by
  refine Met.ofW (cc := cX7_fail) (maxL := 3) (ret := (some .boolean)) (by decide) rfl ?_
  intro p e s m args below meth c s₁ B hml hv
  obtain ⟨rfl, hsz, hP, hK, hD0⟩ := hv
  have hx := B.exec
  have hb := B.bytes
  have hr := B.returns
  have hts := atoms_spec (ws := wsX7_fail) B.pre
  have hown : s.vm.findClass RX7 = some m.cls := findClass_of_methodNamed B.named
  have hlocks := B.notSynchronized
  have hinX7 : ∀ w ∈ u_ws RX7 TX7 5, w ∈ wsX7_fail := (fun _ h9 => List.mem_cons_of_mem _ (List.mem_append_right _ h9))
  subst hsz
  have hD := hD0.self (sz := s.heap.size)
  generalize hAe : va_A [(h0, .inr (6, fs_h0))] s.heap.size = A at hD ⊢
  have hA : ∀ q : Nat, s.heap.size ≤ q → A q := fun q h => by rw [← hAe]; exact Or.inr h
  have hS : va_S A s.heap s.heap [] := va_S.rf
  have hP : va_P (dC, dI) vwCl [(h0, .inr (6, fs_h0))] s.heap := hP
  have hl := lv_entry ([.ref h0, .int p0, .int p1]) (n := 3) (Nat.le_of_ble_eq_true rfl)
  rw [lg_entry_eq]
  generalize (lg_sl ([.ref h0, .int p0, .int p1]) ++ List.replicate (3 - (lg_sl ([.ref h0, .int p0, .int p1])).length) Slot.unset).toArray = ls at hl ⊢
  have hl : lv_has ls 3 [(0, .ref h0), (1, .int p0), (2, .int p1)] := hl
  refine lv_aload_n hx hb dX7_fail_0 rfl (lv_at hl 0 rfl) ?_
  refine lv_iload_n hx hb dX7_fail_1 rfl (lv_at hl 1 rfl) ?_
  refine va_put (D := (dC, dI)) (ci := 6) (v := .int p0) (C := RX7) (T := TX7) (N := 5) hx hb hts hinX7 tyX7 tyX7_ok nmX7 hown hK hP hD hS 0 rfl rfl 1 (by decide) (hts (.fieldLink RX7 18 "BondCalendars$Reader" "faultNumber" "I") (by decide +kernel)) (fun _ h9 => h9) rfl (ty := .int) (by decide +kernel) rfl rfl (by rw [hn_h0]; decide) dX7_fail_2 (fun H locs hP hD hS => ?_)
  have hP : va_P (dC, dI) vwCl [(h0, .inr (6, (fs_h0.set 1 (.int p0))))] H := hP
  have hD : va_D A [(h0, .inr (6, (fs_h0.set 1 (.int p0))))] := hD
  refine lv_aload_n hx hb dX7_fail_5 rfl (lv_at hl 0 rfl) ?_
  refine lv_iload_n hx hb dX7_fail_6 rfl (lv_at hl 2 rfl) ?_
  refine va_put (D := (dC, dI)) (ci := 6) (v := .int p1) (C := RX7) (T := TX7) (N := 5) hx hb hts hinX7 tyX7 tyX7_ok nmX7 hown hK hP hD hS 0 rfl rfl 2 (by decide) (hts (.fieldLink RX7 22 "BondCalendars$Reader" "faultPlace" "I") (by decide +kernel)) (fun _ h9 => h9) rfl (ty := .int) (by decide +kernel) rfl rfl (by rw [(List.length_set.trans hn_h0)]; decide) dX7_fail_7 (fun H locs hP hD hS => ?_)
  have hP : va_P (dC, dI) vwCl [(h0, .inr (6, ((fs_h0.set 1 (.int p0)).set 2 (.int p1))))] H := hP
  have hD : va_D A [(h0, .inr (6, ((fs_h0.set 1 (.int p0)).set 2 (.int p1))))] := hD
  refine lv_iconst (v := 0) hx hb dX7_fail_10 (by decide) ?_
  have hpost : (0 : Int32) = 0 := rfl
  have hP9 := hP.sub (ws' := [(h0, .inr (6, ((fs_h0.set 1 (.int p0)).set 2 (.int p1))))]) [0] rfl
  have hD9 := hD.sub (ws' := [(h0, .inr (6, ((fs_h0.set 1 (.int p0)).set 2 (.int p1))))]) [0] (by decide) rfl
  have hK9 := hK.sub (tys' := []) [] rfl
  exact W.zret (v := 0) hx hb hr (by decide) (fun t ht hW => ⟨⟨0, (), rfl, hpost, by rw [ht]; exact hP9, va_K.moved hW.alike hK9, hD9⟩, hS.F ht⟩) hS.2.2 dX7_fail_11
set_option maxHeartbeats 4000000 in
set_option maxRecDepth 100000 in
theorem k_X7_readLine (l : Launch) (dC : Nat → ClassId) (dI : Nat → Nat → Nat) (sz : Nat) (h0 : Nat) (fs_h0 : List Value) (tp : Nat) (fs_tp : List Value) (w0 : Nat) (q7_62 : Nat) (q7_71 : Nat) (q7_73 : Nat) (q7_75 : Nat) (hn_h0 : fs_h0.length = 5) (hf_h0_0 : fs_h0[0]? = some (.ref tp)) (hn_tp : fs_tp.length = 7) (hf_tp_2 : fs_tp[2]? = some (.int 0)) (hf_tp_3 : fs_tp[3]? = some (.int 0)) : Met l yX7_readLine wsX7_readLine ({ frames := 1, cells := 0, slots := 0, locals := 22 }) (va_Pc [.ref h0, .ref w0] (fun U => U.heap.size = sz ∧ va_P (dC, dI) vwCl [(h0, .inr (6, fs_h0)), (tp, .inr (9, fs_tp))] U.heap ∧ va_K (dC, dI) vwCl [] U ∧ va_D (fun _ => True) [(h0, .inr (6, fs_h0)), (tp, .inr (9, fs_tp))] ∧ vk_R RX7 62 "desk" q7_62 U ∧ vk_R RX7 71 "holiday" q7_71 U ∧ vk_R RX7 73 "bond" q7_73 U ∧ vk_R RX7 75 "quote" q7_75 U)) (va_Qi (fun (r : Int32) (_ : Unit) => r = 0) (fun _ t => va_P (dC, dI) vwCl [(h0, .inr (6, ((fs_h0.set 1 (.int 1)).set 2 (.int 0)))), (tp, .inr (9, fs_tp))] t.heap ∧ va_K (dC, dI) vwCl [] t ∧ va_D (va_A [(h0, .inr (6, fs_h0)), (tp, .inr (9, fs_tp))] sz) [(h0, .inr (6, ((fs_h0.set 1 (.int 1)).set 2 (.int 0)))), (tp, .inr (9, fs_tp))]) (va_A [(h0, .inr (6, fs_h0)), (tp, .inr (9, fs_tp))] sz)) 0 0 (va_A [(h0, .inr (6, fs_h0)), (tp, .inr (9, fs_tp))] sz) := by
  refine Met.ofW (cc := cX7_readLine) (maxL := 4) (ret := (some .boolean)) (by decide) rfl ?_
  intro p e s m args below meth c s₁ B hml hv
  obtain ⟨rfl, hsz, hP, hK, hD0, hN0, hN1, hN2, hN3⟩ := hv
  have hx := B.exec
  have hb := B.bytes
  have hr := B.returns
  have hts := atoms_spec (ws := wsX7_readLine) B.pre
  have hown : s.vm.findClass RX7 = some m.cls := findClass_of_methodNamed B.named
  have hlocks := B.notSynchronized
  have hinX7 : ∀ w ∈ u_ws RX7 TX7 5, w ∈ wsX7_readLine := (fun _ h9 => List.mem_cons_of_mem _ (List.mem_append_left _ (List.mem_append_left _ (List.mem_append_left _ (List.mem_append_left _ (List.mem_append_right _ h9))))))
  have hinX10 : ∀ w ∈ u_ws RX10 TX10 7, w ∈ wsX7_readLine := (fun _ h9 => List.mem_cons_of_mem _ (List.mem_append_left _ (List.mem_append_left _ (List.mem_append_left _ (List.mem_append_right _ h9)))))
  subst hsz
  have hD := hD0.self (sz := s.heap.size)
  generalize hAe : va_A [(h0, .inr (6, fs_h0)), (tp, .inr (9, fs_tp))] s.heap.size = A at hD ⊢
  have hA : ∀ q : Nat, s.heap.size ≤ q → A q := fun q h => by rw [← hAe]; exact Or.inr h
  have hS : va_S A s.heap s.heap [] := va_S.rf
  have hP : va_P (dC, dI) vwCl [(h0, .inr (6, fs_h0)), (tp, .inr (9, fs_tp))] s.heap := hP
  have hl := lv_entry ([.ref h0, .ref w0]) (n := 4) (Nat.le_of_ble_eq_true rfl)
  rw [lg_entry_eq]
  generalize (lg_sl ([.ref h0, .ref w0]) ++ List.replicate (4 - (lg_sl ([.ref h0, .ref w0])).length) Slot.unset).toArray = ls at hl ⊢
  have hl : lv_has ls 4 [(0, .ref h0), (1, .ref w0)] := hl
  refine lv_aload_n hx hb dX7_readLine_0 rfl (lv_at hl 0 rfl) ?_
  refine va_get (D := (dC, dI)) (ci := 6) (v := .ref tp) (C := RX7) (T := TX7) (N := 5) hx hb hts hinX7 hown hK hP 0 rfl rfl 0 (by decide) (hts (.fieldLink RX7 12 "BondCalendars$Reader" "tape" "LBondCalendars$Tape;") (by decide +kernel)) (fun _ h9 => h9) hf_h0_0 dX7_readLine_1 ?_
  refine va_ldcS (tx := "desk") (q := q7_62) hx hb hown hN0 dX7_readLine_4 ?_
  have hPc := hP.sub (ws' := [(tp, .inr (9, fs_tp))]) [1] rfl
  have hDc := hD.sub (ws' := [(tp, .inr (9, fs_tp))]) [1] (by decide) rfl
  have hKc := hK.sub (tys' := []) [] rfl
  have hFc := va_free (wc := [(tp, .inr (9, fs_tp))]) hD hS hA [1] rfl
  refine va_calli (va_runV (As := [.ref q7_62]) (rest := []) ⟨hx, hb, hml, hown, hts⟩ (k_X10_isWord l dC dI s.heap.size tp fs_tp q7_62 hn_tp hf_tp_2) (cwV 1 hts gX7_readLine_X10_isWord rfl rfl rfl (by decide +kernel) ⟨Nat.le_of_ble_eq_true rfl, Nat.le_of_ble_eq_true rfl⟩) ⟨fun a U g mk q => by obtain ⟨q0, q1, qP, qK, qD⟩ := q; exact ⟨q0, q1, qP, va_K.moved (u := U) (U := U.calling g mk a) (Vm.Alike.refl U.vm) qK, qD⟩, va_recv hKc hPc (ci := 9) (q0 := 0) rfl rfl, fun U hU hW => ⟨rfl, by rw [hU], by rw [hU]; exact hPc, va_K.moved hW.alike hKc, hDc.weaken (fun _ _ _ _ => trivial)⟩⟩ rfl rfl hl.1 rfl (lv_room (Nat.le_of_ble_eq_true rfl)) dX7_readLine_6 ⟨Nat.le_of_ble_eq_true rfl, Nat.le_of_ble_eq_true rfl⟩) hS (fun q _ h => hFc q h) hFc (fun r_1 u t H1 locs ht hvm hw hB hz1 hk1 hS => ?_)
  obtain ⟨hP1, hK1, hD1⟩ := hB
  rw [ht] at hP1
  have hK1 := va_K.moved hvm.symm hK1
  obtain ⟨hP, hD⟩ := va_join (wr := [(h0, .inr (6, fs_h0))]) (w1 := [(tp, .inr (9, fs_tp))]) hP hD [1] [0] rfl rfl (by decide) (by decide) hk1 hFc hP1 hD1
  generalize H1 = H at hP hS ⊢
  have hP : va_P (dC, dI) vwCl [(h0, .inr (6, fs_h0)), (tp, .inr (9, fs_tp))] H := hP
  have hD : va_D A [(h0, .inr (6, fs_h0)), (tp, .inr (9, fs_tp))] := hD
  have er_1 : r_1 = 0 := hw
  subst er_1
  refine lv_if_eq (tgt := 40) hx hb dX7_readLine_9 (by decide) (fun c_2 => ?_) (fun c_2 => ?_)
  · refine lv_aload_n hx hb dX7_readLine_40 rfl (lv_at hl 0 rfl) ?_
    refine va_get (D := (dC, dI)) (ci := 6) (v := .ref tp) (C := RX7) (T := TX7) (N := 5) hx hb hts hinX7 hown hK hP 0 rfl rfl 0 (by decide) (hts (.fieldLink RX7 12 "BondCalendars$Reader" "tape" "LBondCalendars$Tape;") (by decide +kernel)) (fun _ h9 => h9) hf_h0_0 dX7_readLine_41 ?_
    refine va_ldcS (tx := "holiday") (q := q7_71) hx hb hown hN1 dX7_readLine_44 ?_
    have hPc := hP.sub (ws' := [(tp, .inr (9, fs_tp))]) [1] rfl
    have hDc := hD.sub (ws' := [(tp, .inr (9, fs_tp))]) [1] (by decide) rfl
    have hKc := hK.sub (tys' := []) [] rfl
    have hFc := va_free (wc := [(tp, .inr (9, fs_tp))]) hD hS hA [1] rfl
    refine va_calli (va_runV (As := [.ref q7_71]) (rest := []) ⟨hx, hb, hml, hown, hts⟩ (k_X10_isWord l dC dI H.size tp fs_tp q7_71 hn_tp hf_tp_2) (cwV 1 hts gX7_readLine_X10_isWord rfl rfl rfl (by decide +kernel) ⟨Nat.le_of_ble_eq_true rfl, Nat.le_of_ble_eq_true rfl⟩) ⟨fun a U g mk q => by obtain ⟨q0, q1, qP, qK, qD⟩ := q; exact ⟨q0, q1, qP, va_K.moved (u := U) (U := U.calling g mk a) (Vm.Alike.refl U.vm) qK, qD⟩, va_recv hKc hPc (ci := 9) (q0 := 0) rfl rfl, fun U hU hW => ⟨rfl, by rw [hU], by rw [hU]; exact hPc, va_K.moved hW.alike hKc, hDc.weaken (fun _ _ _ _ => trivial)⟩⟩ rfl rfl hl.1 rfl (lv_room (Nat.le_of_ble_eq_true rfl)) dX7_readLine_46 ⟨Nat.le_of_ble_eq_true rfl, Nat.le_of_ble_eq_true rfl⟩) hS (fun q _ h => hFc q h) hFc (fun r_3 u t H1 locs ht hvm hw hB hz1 hk1 hS => ?_)
    obtain ⟨hP1, hK1, hD1⟩ := hB
    rw [ht] at hP1
    have hK1 := va_K.moved hvm.symm hK1
    obtain ⟨hP, hD⟩ := va_join (wr := [(h0, .inr (6, fs_h0))]) (w1 := [(tp, .inr (9, fs_tp))]) hP hD [1] [0] rfl rfl (by decide) (by decide) hk1 hFc hP1 hD1
    generalize H1 = H at hP hS ⊢
    have hP : va_P (dC, dI) vwCl [(h0, .inr (6, fs_h0)), (tp, .inr (9, fs_tp))] H := hP
    have hD : va_D A [(h0, .inr (6, fs_h0)), (tp, .inr (9, fs_tp))] := hD
    have er_3 : r_3 = 0 := hw
    subst er_3
    refine lv_istore_n (lv' := [(2, .int 0), (0, .ref h0), (1, .ref w0)]) hx hb dX7_readLine_49 rfl hl (by decide) rfl (fun ls hl => ?_)
    refine lv_aload_n hx hb dX7_readLine_50 rfl (lv_at hl 1 rfl) ?_
    refine va_get (D := (dC, dI)) (ci := 6) (v := .ref tp) (C := RX7) (T := TX7) (N := 5) hx hb hts hinX7 hown hK hP 0 rfl rfl 0 (by decide) (hts (.fieldLink RX7 12 "BondCalendars$Reader" "tape" "LBondCalendars$Tape;") (by decide +kernel)) (fun _ h9 => h9) hf_h0_0 dX7_readLine_51 ?_
    refine va_ldcS (tx := "bond") (q := q7_73) hx hb hown hN2 dX7_readLine_54 ?_
    have hPc := hP.sub (ws' := [(tp, .inr (9, fs_tp))]) [1] rfl
    have hDc := hD.sub (ws' := [(tp, .inr (9, fs_tp))]) [1] (by decide) rfl
    have hKc := hK.sub (tys' := []) [] rfl
    have hFc := va_free (wc := [(tp, .inr (9, fs_tp))]) hD hS hA [1] rfl
    refine va_calli (va_runV (As := [.ref q7_73]) (rest := []) ⟨hx, hb, hml, hown, hts⟩ (k_X10_isWord l dC dI H.size tp fs_tp q7_73 hn_tp hf_tp_2) (cwV 1 hts gX7_readLine_X10_isWord rfl rfl rfl (by decide +kernel) ⟨Nat.le_of_ble_eq_true rfl, Nat.le_of_ble_eq_true rfl⟩) ⟨fun a U g mk q => by obtain ⟨q0, q1, qP, qK, qD⟩ := q; exact ⟨q0, q1, qP, va_K.moved (u := U) (U := U.calling g mk a) (Vm.Alike.refl U.vm) qK, qD⟩, va_recv hKc hPc (ci := 9) (q0 := 0) rfl rfl, fun U hU hW => ⟨rfl, by rw [hU], by rw [hU]; exact hPc, va_K.moved hW.alike hKc, hDc.weaken (fun _ _ _ _ => trivial)⟩⟩ rfl rfl hl.1 rfl (lv_room (Nat.le_of_ble_eq_true rfl)) dX7_readLine_56 ⟨Nat.le_of_ble_eq_true rfl, Nat.le_of_ble_eq_true rfl⟩) hS (fun q _ h => hFc q h) hFc (fun r_4 u t H1 locs ht hvm hw hB hz1 hk1 hS => ?_)
    obtain ⟨hP1, hK1, hD1⟩ := hB
    rw [ht] at hP1
    have hK1 := va_K.moved hvm.symm hK1
    obtain ⟨hP, hD⟩ := va_join (wr := [(h0, .inr (6, fs_h0))]) (w1 := [(tp, .inr (9, fs_tp))]) hP hD [1] [0] rfl rfl (by decide) (by decide) hk1 hFc hP1 hD1
    generalize H1 = H at hP hS ⊢
    have hP : va_P (dC, dI) vwCl [(h0, .inr (6, fs_h0)), (tp, .inr (9, fs_tp))] H := hP
    have hD : va_D A [(h0, .inr (6, fs_h0)), (tp, .inr (9, fs_tp))] := hD
    have er_4 : r_4 = 0 := hw
    subst er_4
    refine lv_istore_n (lv' := [(3, .int 0), (2, .int 0), (0, .ref h0), (1, .ref w0)]) hx hb dX7_readLine_59 rfl hl (by decide) rfl (fun ls hl => ?_)
    refine lv_iload_n hx hb dX7_readLine_60 rfl (lv_at hl 1 rfl) ?_
    refine lv_if_ne (tgt := 93) hx hb dX7_readLine_61 (by decide) (fun c_5 => ?_) (fun c_5 => ?_)
    · exact absurd (by decide) c_5
    · refine lv_iload_n hx hb dX7_readLine_64 rfl (lv_at hl 0 rfl) ?_
      refine lv_if_ne (tgt := 93) hx hb dX7_readLine_65 (by decide) (fun c_6 => ?_) (fun c_6 => ?_)
      · exact absurd (by decide) c_6
      · refine lv_aload_n hx hb dX7_readLine_68 rfl (lv_at hl 2 rfl) ?_
        refine va_get (D := (dC, dI)) (ci := 6) (v := .ref tp) (C := RX7) (T := TX7) (N := 5) hx hb hts hinX7 hown hK hP 0 rfl rfl 0 (by decide) (hts (.fieldLink RX7 12 "BondCalendars$Reader" "tape" "LBondCalendars$Tape;") (by decide +kernel)) (fun _ h9 => h9) hf_h0_0 dX7_readLine_69 ?_
        refine va_ldcS (tx := "quote") (q := q7_75) hx hb hown hN3 dX7_readLine_72 ?_
        have hPc := hP.sub (ws' := [(tp, .inr (9, fs_tp))]) [1] rfl
        have hDc := hD.sub (ws' := [(tp, .inr (9, fs_tp))]) [1] (by decide) rfl
        have hKc := hK.sub (tys' := []) [] rfl
        have hFc := va_free (wc := [(tp, .inr (9, fs_tp))]) hD hS hA [1] rfl
        refine va_calli (va_runV (As := [.ref q7_75]) (rest := []) ⟨hx, hb, hml, hown, hts⟩ (k_X10_isWord l dC dI H.size tp fs_tp q7_75 hn_tp hf_tp_2) (cwV 1 hts gX7_readLine_X10_isWord rfl rfl rfl (by decide +kernel) ⟨Nat.le_of_ble_eq_true rfl, Nat.le_of_ble_eq_true rfl⟩) ⟨fun a U g mk q => by obtain ⟨q0, q1, qP, qK, qD⟩ := q; exact ⟨q0, q1, qP, va_K.moved (u := U) (U := U.calling g mk a) (Vm.Alike.refl U.vm) qK, qD⟩, va_recv hKc hPc (ci := 9) (q0 := 0) rfl rfl, fun U hU hW => ⟨rfl, by rw [hU], by rw [hU]; exact hPc, va_K.moved hW.alike hKc, hDc.weaken (fun _ _ _ _ => trivial)⟩⟩ rfl rfl hl.1 rfl (lv_room (Nat.le_of_ble_eq_true rfl)) dX7_readLine_74 ⟨Nat.le_of_ble_eq_true rfl, Nat.le_of_ble_eq_true rfl⟩) hS (fun q _ h => hFc q h) hFc (fun r_7 u t H1 locs ht hvm hw hB hz1 hk1 hS => ?_)
        obtain ⟨hP1, hK1, hD1⟩ := hB
        rw [ht] at hP1
        have hK1 := va_K.moved hvm.symm hK1
        obtain ⟨hP, hD⟩ := va_join (wr := [(h0, .inr (6, fs_h0))]) (w1 := [(tp, .inr (9, fs_tp))]) hP hD [1] [0] rfl rfl (by decide) (by decide) hk1 hFc hP1 hD1
        generalize H1 = H at hP hS ⊢
        have hP : va_P (dC, dI) vwCl [(h0, .inr (6, fs_h0)), (tp, .inr (9, fs_tp))] H := hP
        have hD : va_D A [(h0, .inr (6, fs_h0)), (tp, .inr (9, fs_tp))] := hD
        have er_7 : r_7 = 0 := hw
        subst er_7
        refine lv_if_ne (tgt := 93) hx hb dX7_readLine_77 (by decide) (fun c_8 => ?_) (fun c_8 => ?_)
        · exact absurd (by decide) c_8
        · refine lv_aload_n hx hb dX7_readLine_80 rfl (lv_at hl 2 rfl) ?_
          refine lv_iconst (v := 1) hx hb dX7_readLine_81 (by decide) ?_
          refine lv_aload_n hx hb dX7_readLine_82 rfl (lv_at hl 2 rfl) ?_
          refine va_get (D := (dC, dI)) (ci := 6) (v := .ref tp) (C := RX7) (T := TX7) (N := 5) hx hb hts hinX7 hown hK hP 0 rfl rfl 0 (by decide) (hts (.fieldLink RX7 12 "BondCalendars$Reader" "tape" "LBondCalendars$Tape;") (by decide +kernel)) (fun _ h9 => h9) hf_h0_0 dX7_readLine_83 ?_
          refine va_get (D := (dC, dI)) (ci := 9) (v := .int 0) (C := RX10) (T := TX10) (N := 7) hx hb hts hinX10 hown hK hP 1 rfl rfl 3 (by decide) (hts (.fieldLink RX7 52 "BondCalendars$Tape" "start" "I") (by decide +kernel)) (fun _ h9 => h9) hf_tp_3 dX7_readLine_86 ?_
          have hPc := hP.sub (ws' := [(h0, .inr (6, fs_h0))]) [0] rfl
          have hDc := hD.sub (ws' := [(h0, .inr (6, fs_h0))]) [0] (by decide) rfl
          have hKc := hK.sub (tys' := []) [] rfl
          have hFc := va_free (wc := [(h0, .inr (6, fs_h0))]) hD hS hA [0] rfl
          refine va_calli (va_runV (As := [.int 1, .int 0]) (rest := []) ⟨hx, hb, hml, hown, hts⟩ (k_X7_fail l dC dI H.size h0 fs_h0 1 0 hn_h0) (cwV 2 hts gX7_readLine_X7_fail rfl rfl rfl (by decide +kernel) ⟨Nat.le_of_ble_eq_true rfl, Nat.le_of_ble_eq_true rfl⟩) ⟨fun a U g mk q => by obtain ⟨q0, q1, qP, qK, qD⟩ := q; exact ⟨q0, q1, qP, va_K.moved (u := U) (U := U.calling g mk a) (Vm.Alike.refl U.vm) qK, qD⟩, va_recv hKc hPc (ci := 6) (q0 := 0) rfl rfl, fun U hU hW => ⟨rfl, by rw [hU], by rw [hU]; exact hPc, va_K.moved hW.alike hKc, hDc.weaken (fun _ _ _ _ => trivial)⟩⟩ rfl rfl hl.1 rfl (lv_room (Nat.le_of_ble_eq_true rfl)) dX7_readLine_89 ⟨Nat.le_of_ble_eq_true rfl, Nat.le_of_ble_eq_true rfl⟩) hS (fun q _ h => hFc q h) hFc (fun r_9 u t H1 locs ht hvm hw hB hz1 hk1 hS => ?_)
          obtain ⟨hP1, hK1, hD1⟩ := hB
          rw [ht] at hP1
          have hK1 := va_K.moved hvm.symm hK1
          obtain ⟨hP, hD⟩ := va_join (wr := [(tp, .inr (9, fs_tp))]) (w1 := [(h0, .inr (6, ((fs_h0.set 1 (.int 1)).set 2 (.int 0))))]) hP hD [0] [1] rfl rfl (by decide) (by decide) hk1 hFc hP1 hD1
          generalize H1 = H at hP hS ⊢
          have hP : va_P (dC, dI) vwCl [(tp, .inr (9, fs_tp)), (h0, .inr (6, ((fs_h0.set 1 (.int 1)).set 2 (.int 0))))] H := hP
          have hD : va_D A [(tp, .inr (9, fs_tp)), (h0, .inr (6, ((fs_h0.set 1 (.int 1)).set 2 (.int 0))))] := hD
          have er_9 : r_9 = 0 := hw
          subst er_9
          have hpost : (0 : Int32) = 0 := rfl
          have hP9 := hP.sub (ws' := [(h0, .inr (6, ((fs_h0.set 1 (.int 1)).set 2 (.int 0)))), (tp, .inr (9, fs_tp))]) [1, 0] rfl
          have hD9 := hD.sub (ws' := [(h0, .inr (6, ((fs_h0.set 1 (.int 1)).set 2 (.int 0)))), (tp, .inr (9, fs_tp))]) [1, 0] (by decide) rfl
          have hK9 := hK.sub (tys' := []) [] rfl
          exact W.zret (v := 0) hx hb hr (by decide) (fun t ht hW => ⟨⟨0, (), rfl, hpost, by rw [ht]; exact hP9, va_K.moved hW.alike hK9, hD9⟩, hS.F ht⟩) hS.2.2 dX7_readLine_92
  · exact absurd (by decide) c_2
set_option maxHeartbeats 4000000 in
set_option maxRecDepth 100000 in
theorem k_X7_read (l : Launch) (dC : Nat → ClassId) (dI : Nat → Nat → Nat) (sz : Nat) (h0 : Nat) (fs_h0 : List Value) (tp : Nat) (fs_tp : List Value) (ba : Nat) (cB : ClassId) (fb : Nat → Int32) (dr : Nat) (fs_dr : List Value) (hd : Nat) (fs_hd : List Value) (q7_62 : Nat) (q7_71 : Nat) (q7_73 : Nat) (q7_75 : Nat) (hn_h0 : fs_h0.length = 5) (hf_h0_0 : fs_h0[0]? = some (.ref tp)) (hn_tp : fs_tp.length = 7) (hf_tp_0 : fs_tp[0]? = some (.ref ba)) (hf_tp_1 : fs_tp[1]? = some (.int 0)) (hf_tp_2 : fs_tp[2]? = some (.int 0)) (hf_tp_3 : fs_tp[3]? = some (.int 0)) (hf_tp_4 : fs_tp[4]? = some (.int 0)) (hf_tp_5 : fs_tp[5]? = some (.int 0)) (hf_tp_6 : fs_tp[6]? = some (.int 0)) (hn_dr : fs_dr.length = 12) (hf_dr_2 : fs_dr[2]? = some (.ref hd)) (hn_hd : fs_hd.length = 2) : Met l yX7_read wsX7_read ({ frames := 2, cells := 0, slots := 0, locals := 47 }) (va_Pc [.ref h0, .int 0, .ref dr] (fun U => U.heap.size = sz ∧ va_P (dC, dI) vwCl [(h0, .inr (6, fs_h0)), (tp, .inr (9, fs_tp)), (ba, .inl (cB, 900, .inl fb)), (dr, .inr (3, fs_dr)), (hd, .inr (4, fs_hd))] U.heap ∧ va_K (dC, dI) vwCl [(cB, .byte)] U ∧ va_D (fun _ => True) [(h0, .inr (6, fs_h0)), (tp, .inr (9, fs_tp)), (ba, .inl (cB, 900, .inl fb)), (dr, .inr (3, fs_dr)), (hd, .inr (4, fs_hd))] ∧ vk_R RX7 62 "desk" q7_62 U ∧ vk_R RX7 71 "holiday" q7_71 U ∧ vk_R RX7 73 "bond" q7_73 U ∧ vk_R RX7 75 "quote" q7_75 U)) (va_Qv (fun (_ : Unit) => True) (fun _ t => va_P (dC, dI) vwCl [(h0, .inr (6, (((((fs_h0.set 1 (.int 0)).set 2 (.int (-1))).set 3 (.int 0)).set 1 (.int 1)).set 2 (.int 0)))), (tp, .inr (9, (((((fs_tp.set 5 (.int 0)).set 6 (.int 0)).set 3 (.int 0)).set 4 (.int 0)).set 2 (.int 0)))), (ba, .inl (cB, 900, .inl fb)), (dr, .inr (3, (((fs_dr.set 4 (.int 0)).set 9 (.int 0)).set 10 (.int (-1))))), (hd, .inr (4, (fs_hd.set 1 (.int 0))))] t.heap ∧ va_K (dC, dI) vwCl [] t ∧ va_D (va_A [(h0, .inr (6, fs_h0)), (tp, .inr (9, fs_tp)), (ba, .inl (cB, 900, .inl fb)), (dr, .inr (3, fs_dr)), (hd, .inr (4, fs_hd))] sz) [(h0, .inr (6, (((((fs_h0.set 1 (.int 0)).set 2 (.int (-1))).set 3 (.int 0)).set 1 (.int 1)).set 2 (.int 0)))), (tp, .inr (9, (((((fs_tp.set 5 (.int 0)).set 6 (.int 0)).set 3 (.int 0)).set 4 (.int 0)).set 2 (.int 0)))), (ba, .inl (cB, 900, .inl fb)), (dr, .inr (3, (((fs_dr.set 4 (.int 0)).set 9 (.int 0)).set 10 (.int (-1))))), (hd, .inr (4, (fs_hd.set 1 (.int 0))))]) (va_A [(h0, .inr (6, fs_h0)), (tp, .inr (9, fs_tp)), (ba, .inl (cB, 900, .inl fb)), (dr, .inr (3, fs_dr)), (hd, .inr (4, fs_hd))] sz)) 0 0 (va_A [(h0, .inr (6, fs_h0)), (tp, .inr (9, fs_tp)), (ba, .inl (cB, 900, .inl fb)), (dr, .inr (3, fs_dr)), (hd, .inr (4, fs_hd))] sz) := by
  refine Met.ofW (cc := cX7_read) (maxL := 5) (ret := none) (by decide) rfl ?_
  intro p e s m args below meth c s₁ B hml hv
  obtain ⟨rfl, hsz, hP, hK, hD0, hN0, hN1, hN2, hN3⟩ := hv
  have hx := B.exec
  have hb := B.bytes
  have hr := B.returns
  have hts := atoms_spec (ws := wsX7_read) B.pre
  have hown : s.vm.findClass RX7 = some m.cls := findClass_of_methodNamed B.named
  have hlocks := B.notSynchronized
  have hinX7 : ∀ w ∈ u_ws RX7 TX7 5, w ∈ wsX7_read := (fun _ h9 => List.mem_cons_of_mem _ (List.mem_append_left _ (List.mem_append_left _ (List.mem_append_left _ (List.mem_append_left _ (List.mem_append_right _ h9))))))
  subst hsz
  have hD := hD0.self (sz := s.heap.size)
  generalize hAe : va_A [(h0, .inr (6, fs_h0)), (tp, .inr (9, fs_tp)), (ba, .inl (cB, 900, .inl fb)), (dr, .inr (3, fs_dr)), (hd, .inr (4, fs_hd))] s.heap.size = A at hD ⊢
  have hA : ∀ q : Nat, s.heap.size ≤ q → A q := fun q h => by rw [← hAe]; exact Or.inr h
  have hS : va_S A s.heap s.heap [] := va_S.rf
  have hP : va_P (dC, dI) vwCl [(h0, .inr (6, fs_h0)), (tp, .inr (9, fs_tp)), (ba, .inl (cB, 900, .inl fb)), (dr, .inr (3, fs_dr)), (hd, .inr (4, fs_hd))] s.heap := hP
  have hl := lv_entry ([.ref h0, .int 0, .ref dr]) (n := 5) (Nat.le_of_ble_eq_true rfl)
  rw [lg_entry_eq]
  generalize (lg_sl ([.ref h0, .int 0, .ref dr]) ++ List.replicate (5 - (lg_sl ([.ref h0, .int 0, .ref dr])).length) Slot.unset).toArray = ls at hl ⊢
  have hl : lv_has ls 5 [(0, .ref h0), (1, .int 0), (2, .ref dr)] := hl
  refine lv_aload_n hx hb dX7_read_0 rfl (lv_at hl 0 rfl) ?_
  refine lv_iconst (v := 0) hx hb dX7_read_1 (by decide) ?_
  refine va_put (D := (dC, dI)) (ci := 6) (v := .int 0) (C := RX7) (T := TX7) (N := 5) hx hb hts hinX7 tyX7 tyX7_ok nmX7 hown hK hP hD hS 0 rfl rfl 1 (by decide) (hts (.fieldLink RX7 18 "BondCalendars$Reader" "faultNumber" "I") (by decide +kernel)) (fun _ h9 => h9) rfl (ty := .int) (by decide +kernel) rfl rfl (by rw [hn_h0]; decide) dX7_read_2 (fun H locs hP hD hS => ?_)
  have hP : va_P (dC, dI) vwCl [(h0, .inr (6, (fs_h0.set 1 (.int 0)))), (tp, .inr (9, fs_tp)), (ba, .inl (cB, 900, .inl fb)), (dr, .inr (3, fs_dr)), (hd, .inr (4, fs_hd))] H := hP
  have hD : va_D A [(h0, .inr (6, (fs_h0.set 1 (.int 0)))), (tp, .inr (9, fs_tp)), (ba, .inl (cB, 900, .inl fb)), (dr, .inr (3, fs_dr)), (hd, .inr (4, fs_hd))] := hD
  refine lv_aload_n hx hb dX7_read_5 rfl (lv_at hl 0 rfl) ?_
  refine lv_iconst (v := (-1)) hx hb dX7_read_6 (by decide) ?_
  refine va_put (D := (dC, dI)) (ci := 6) (v := .int (-1)) (C := RX7) (T := TX7) (N := 5) hx hb hts hinX7 tyX7 tyX7_ok nmX7 hown hK hP hD hS 0 rfl rfl 2 (by decide) (hts (.fieldLink RX7 22 "BondCalendars$Reader" "faultPlace" "I") (by decide +kernel)) (fun _ h9 => h9) rfl (ty := .int) (by decide +kernel) rfl rfl (by rw [(List.length_set.trans hn_h0)]; decide) dX7_read_7 (fun H locs hP hD hS => ?_)
  have hP : va_P (dC, dI) vwCl [(h0, .inr (6, ((fs_h0.set 1 (.int 0)).set 2 (.int (-1))))), (tp, .inr (9, fs_tp)), (ba, .inl (cB, 900, .inl fb)), (dr, .inr (3, fs_dr)), (hd, .inr (4, fs_hd))] H := hP
  have hD : va_D A [(h0, .inr (6, ((fs_h0.set 1 (.int 0)).set 2 (.int (-1))))), (tp, .inr (9, fs_tp)), (ba, .inl (cB, 900, .inl fb)), (dr, .inr (3, fs_dr)), (hd, .inr (4, fs_hd))] := hD
  refine lv_aload_n hx hb dX7_read_10 rfl (lv_at hl 0 rfl) ?_
  refine lv_iconst (v := 0) hx hb dX7_read_11 (by decide) ?_
  refine va_put (D := (dC, dI)) (ci := 6) (v := .int 0) (C := RX7) (T := TX7) (N := 5) hx hb hts hinX7 tyX7 tyX7_ok nmX7 hown hK hP hD hS 0 rfl rfl 3 (by decide) (hts (.fieldLink RX7 25 "BondCalendars$Reader" "deskTold" "Z") (by decide +kernel)) (fun _ h9 => h9) rfl (ty := .boolean) (by decide +kernel) (by decide +kernel) (by decide +kernel) (by rw [(List.length_set.trans (List.length_set.trans hn_h0))]; decide) dX7_read_12 (fun H locs hP hD hS => ?_)
  have hP : va_P (dC, dI) vwCl [(h0, .inr (6, (((fs_h0.set 1 (.int 0)).set 2 (.int (-1))).set 3 (.int 0)))), (tp, .inr (9, fs_tp)), (ba, .inl (cB, 900, .inl fb)), (dr, .inr (3, fs_dr)), (hd, .inr (4, fs_hd))] H := hP
  have hD : va_D A [(h0, .inr (6, (((fs_h0.set 1 (.int 0)).set 2 (.int (-1))).set 3 (.int 0)))), (tp, .inr (9, fs_tp)), (ba, .inl (cB, 900, .inl fb)), (dr, .inr (3, fs_dr)), (hd, .inr (4, fs_hd))] := hD
  refine lv_aload_n hx hb dX7_read_15 rfl (lv_at hl 2 rfl) ?_
  have hPc := hP.sub (ws' := [(dr, .inr (3, fs_dr)), (hd, .inr (4, fs_hd))]) [3, 4] rfl
  have hDc := hD.sub (ws' := [(dr, .inr (3, fs_dr)), (hd, .inr (4, fs_hd))]) [3, 4] (by decide) rfl
  have hKc := hK.sub (tys' := []) [] rfl
  have hFc := va_free (wc := [(dr, .inr (3, fs_dr)), (hd, .inr (4, fs_hd))]) hD hS hA [3, 4] rfl
  refine va_callv (va_runV (As := []) (rest := []) ⟨hx, hb, hml, hown, hts⟩ (k_X4_clear l dC dI H.size dr fs_dr hd fs_hd hn_dr hf_dr_2 hn_hd) (cwV 0 hts gX7_read_X4_clear rfl rfl rfl (by decide +kernel) ⟨Nat.le_of_ble_eq_true rfl, Nat.le_of_ble_eq_true rfl⟩) ⟨fun a U g mk q => by obtain ⟨q0, q1, qP, qK, qD⟩ := q; exact ⟨q0, q1, qP, va_K.moved (u := U) (U := U.calling g mk a) (Vm.Alike.refl U.vm) qK, qD⟩, va_recv hKc hPc (ci := 3) (q0 := 0) rfl rfl, fun U hU hW => ⟨rfl, by rw [hU], by rw [hU]; exact hPc, va_K.moved hW.alike hKc, hDc.weaken (fun _ _ _ _ => trivial)⟩⟩ rfl rfl hl.1 rfl (lv_room (Nat.le_of_ble_eq_true rfl)) dX7_read_16 ⟨Nat.le_of_ble_eq_true rfl, Nat.le_of_ble_eq_true rfl⟩) hS (fun q _ h => hFc q h) hFc (fun u t H1 locs ht hvm hw hB hz1 hk1 hS => ?_)
  obtain ⟨hP1, hK1, hD1⟩ := hB
  rw [ht] at hP1
  have hK1 := va_K.moved hvm.symm hK1
  obtain ⟨hP, hD⟩ := va_join (wr := [(h0, .inr (6, (((fs_h0.set 1 (.int 0)).set 2 (.int (-1))).set 3 (.int 0)))), (tp, .inr (9, fs_tp)), (ba, .inl (cB, 900, .inl fb))]) (w1 := [(dr, .inr (3, (((fs_dr.set 4 (.int 0)).set 9 (.int 0)).set 10 (.int (-1))))), (hd, .inr (4, (fs_hd.set 1 (.int 0))))]) hP hD [3, 4] [0, 1, 2] rfl rfl (by decide) (by decide) hk1 hFc hP1 hD1
  generalize H1 = H at hP hS ⊢
  have hP : va_P (dC, dI) vwCl [(h0, .inr (6, (((fs_h0.set 1 (.int 0)).set 2 (.int (-1))).set 3 (.int 0)))), (tp, .inr (9, fs_tp)), (ba, .inl (cB, 900, .inl fb)), (dr, .inr (3, (((fs_dr.set 4 (.int 0)).set 9 (.int 0)).set 10 (.int (-1))))), (hd, .inr (4, (fs_hd.set 1 (.int 0))))] H := hP
  have hD : va_D A [(h0, .inr (6, (((fs_h0.set 1 (.int 0)).set 2 (.int (-1))).set 3 (.int 0)))), (tp, .inr (9, fs_tp)), (ba, .inl (cB, 900, .inl fb)), (dr, .inr (3, (((fs_dr.set 4 (.int 0)).set 9 (.int 0)).set 10 (.int (-1))))), (hd, .inr (4, (fs_hd.set 1 (.int 0))))] := hD
  refine lv_aload_n hx hb dX7_read_19 rfl (lv_at hl 0 rfl) ?_
  refine va_get (D := (dC, dI)) (ci := 6) (v := .ref tp) (C := RX7) (T := TX7) (N := 5) hx hb hts hinX7 hown hK hP 0 rfl rfl 0 (by decide) (hts (.fieldLink RX7 12 "BondCalendars$Reader" "tape" "LBondCalendars$Tape;") (by decide +kernel)) (fun _ h9 => h9) ((List.getElem?_set_ne (by decide)).trans ((List.getElem?_set_ne (by decide)).trans ((List.getElem?_set_ne (by decide)).trans hf_h0_0))) dX7_read_20 ?_
  refine lv_iload_n hx hb dX7_read_23 rfl (lv_at hl 1 rfl) ?_
  have hPc := hP.sub (ws' := [(tp, .inr (9, fs_tp)), (ba, .inl (cB, 900, .inl fb))]) [1, 2] rfl
  have hDc := hD.sub (ws' := [(tp, .inr (9, fs_tp)), (ba, .inl (cB, 900, .inl fb))]) [1, 2] (by decide) rfl
  have hKc := hK.sub (tys' := [(cB, .byte)]) [0] rfl
  have hFc := va_free (wc := [(tp, .inr (9, fs_tp)), (ba, .inl (cB, 900, .inl fb))]) hD hS hA [1, 2] rfl
  refine va_callv (va_runV (As := [.int 0]) (rest := []) ⟨hx, hb, hml, hown, hts⟩ (k_X10_rewind l dC dI H.size tp fs_tp ba cB fb hn_tp hf_tp_0 hf_tp_5 hf_tp_6) (cwV 1 hts gX7_read_X10_rewind rfl rfl rfl (by decide +kernel) ⟨Nat.le_of_ble_eq_true rfl, Nat.le_of_ble_eq_true rfl⟩) ⟨fun a U g mk q => by obtain ⟨q0, q1, qP, qK, qD⟩ := q; exact ⟨q0, q1, qP, va_K.moved (u := U) (U := U.calling g mk a) (Vm.Alike.refl U.vm) qK, qD⟩, va_recv hKc hPc (ci := 9) (q0 := 0) rfl rfl, fun U hU hW => ⟨rfl, by rw [hU], by rw [hU]; exact hPc, va_K.moved hW.alike hKc, hDc.weaken (fun _ _ _ _ => trivial)⟩⟩ rfl rfl hl.1 rfl (lv_room (Nat.le_of_ble_eq_true rfl)) dX7_read_24 ⟨Nat.le_of_ble_eq_true rfl, Nat.le_of_ble_eq_true rfl⟩) hS (fun q _ h => hFc q h) hFc (fun u t H1 locs ht hvm hw hB hz1 hk1 hS => ?_)
  obtain ⟨hP1, hK1, hD1⟩ := hB
  rw [ht] at hP1
  have hK1 := va_K.moved hvm.symm hK1
  obtain ⟨hP, hD⟩ := va_join (wr := [(h0, .inr (6, (((fs_h0.set 1 (.int 0)).set 2 (.int (-1))).set 3 (.int 0)))), (dr, .inr (3, (((fs_dr.set 4 (.int 0)).set 9 (.int 0)).set 10 (.int (-1))))), (hd, .inr (4, (fs_hd.set 1 (.int 0))))]) (w1 := [(tp, .inr (9, (((((fs_tp.set 5 (.int 0)).set 6 (.int 0)).set 3 (.int 0)).set 4 (.int 0)).set 2 (.int 0)))), (ba, .inl (cB, 900, .inl fb))]) hP hD [1, 2] [0, 3, 4] rfl rfl (by decide) (by decide) hk1 hFc hP1 hD1
  generalize H1 = H at hP hS ⊢
  have hP : va_P (dC, dI) vwCl [(h0, .inr (6, (((fs_h0.set 1 (.int 0)).set 2 (.int (-1))).set 3 (.int 0)))), (dr, .inr (3, (((fs_dr.set 4 (.int 0)).set 9 (.int 0)).set 10 (.int (-1))))), (hd, .inr (4, (fs_hd.set 1 (.int 0)))), (tp, .inr (9, (((((fs_tp.set 5 (.int 0)).set 6 (.int 0)).set 3 (.int 0)).set 4 (.int 0)).set 2 (.int 0)))), (ba, .inl (cB, 900, .inl fb))] H := hP
  have hD : va_D A [(h0, .inr (6, (((fs_h0.set 1 (.int 0)).set 2 (.int (-1))).set 3 (.int 0)))), (dr, .inr (3, (((fs_dr.set 4 (.int 0)).set 9 (.int 0)).set 10 (.int (-1))))), (hd, .inr (4, (fs_hd.set 1 (.int 0)))), (tp, .inr (9, (((((fs_tp.set 5 (.int 0)).set 6 (.int 0)).set 3 (.int 0)).set 4 (.int 0)).set 2 (.int 0)))), (ba, .inl (cB, 900, .inl fb))] := hD
  refine lv_iconst (v := 1) hx hb dX7_read_27 (by decide) ?_
  refine lv_istore_n (lv' := [(3, .int 1), (0, .ref h0), (1, .int 0), (2, .ref dr)]) hx hb dX7_read_28 rfl hl (by decide) rfl (fun ls hl => ?_)
  refine lv_iconst (v := 0) hx hb dX7_read_29 (by decide) ?_
  refine lv_istore (lv' := [(4, .int 0), (3, .int 1), (0, .ref h0), (1, .int 0), (2, .ref dr)]) hx hb dX7_read_30 hl (by decide) rfl (fun ls hl => ?_)
  refine lv_iload hx hb dX7_read_32 (lv_at hl 0 rfl) ?_
  refine lv_sipush (v := 900) hx hb dX7_read_34 (by decide) ?_
  refine lv_icmp_gt (tgt := 71) hx hb dX7_read_37 (by decide) (fun c_3 => ?_) (fun c_3 => ?_)
  · exact absurd c_3 (by decide)
  · refine lv_iload_n hx hb dX7_read_40 rfl (lv_at hl 1 rfl) ?_
    refine lv_if_eq (tgt := 71) hx hb dX7_read_41 (by decide) (fun c_4 => ?_) (fun c_4 => ?_)
    · exact absurd c_4 (by decide)
    · refine lv_aload_n hx hb dX7_read_44 rfl (lv_at hl 2 rfl) ?_
      refine lv_aload_n hx hb dX7_read_45 rfl (lv_at hl 4 rfl) ?_
      have hPc := hP.sub (ws' := [(h0, .inr (6, (((fs_h0.set 1 (.int 0)).set 2 (.int (-1))).set 3 (.int 0)))), (tp, .inr (9, (((((fs_tp.set 5 (.int 0)).set 6 (.int 0)).set 3 (.int 0)).set 4 (.int 0)).set 2 (.int 0))))]) [0, 3] rfl
      have hDc := hD.sub (ws' := [(h0, .inr (6, (((fs_h0.set 1 (.int 0)).set 2 (.int (-1))).set 3 (.int 0)))), (tp, .inr (9, (((((fs_tp.set 5 (.int 0)).set 6 (.int 0)).set 3 (.int 0)).set 4 (.int 0)).set 2 (.int 0))))]) [0, 3] (by decide) rfl
      have hKc := hK.sub (tys' := []) [] rfl
      have hFc := va_free (wc := [(h0, .inr (6, (((fs_h0.set 1 (.int 0)).set 2 (.int (-1))).set 3 (.int 0)))), (tp, .inr (9, (((((fs_tp.set 5 (.int 0)).set 6 (.int 0)).set 3 (.int 0)).set 4 (.int 0)).set 2 (.int 0))))]) hD hS hA [0, 3] rfl
      refine va_calli (va_runV (As := [.ref dr]) (rest := []) ⟨hx, hb, hml, hown, hts⟩ (k_X7_readLine l dC dI H.size h0 (((fs_h0.set 1 (.int 0)).set 2 (.int (-1))).set 3 (.int 0)) tp (((((fs_tp.set 5 (.int 0)).set 6 (.int 0)).set 3 (.int 0)).set 4 (.int 0)).set 2 (.int 0)) dr q7_62 q7_71 q7_73 q7_75 (List.length_set.trans (List.length_set.trans (List.length_set.trans hn_h0))) ((List.getElem?_set_ne (by decide)).trans ((List.getElem?_set_ne (by decide)).trans ((List.getElem?_set_ne (by decide)).trans hf_h0_0))) (List.length_set.trans (List.length_set.trans (List.length_set.trans (List.length_set.trans (List.length_set.trans hn_tp))))) (List.getElem?_set_self (by rw [(List.length_set.trans (List.length_set.trans (List.length_set.trans (List.length_set.trans hn_tp))))]; decide)) ((List.getElem?_set_ne (by decide)).trans ((List.getElem?_set_ne (by decide)).trans (List.getElem?_set_self (by rw [(List.length_set.trans (List.length_set.trans hn_tp))]; decide))))) (cwV 1 hts gX7_read_X7_readLine rfl rfl rfl (by decide +kernel) ⟨Nat.le_of_ble_eq_true rfl, Nat.le_of_ble_eq_true rfl⟩) ⟨fun a U g mk q => by obtain ⟨q0, q1, qP, qK, qD, n0, n1, n2, n3⟩ := q; exact ⟨q0, q1, qP, va_K.moved (u := U) (U := U.calling g mk a) (Vm.Alike.refl U.vm) qK, qD, (vk_R.same rfl n0), (vk_R.same rfl n1), (vk_R.same rfl n2), (vk_R.same rfl n3)⟩, va_recv hKc hPc (ci := 6) (q0 := 0) rfl rfl, fun U hU hW => ⟨rfl, by rw [hU], by rw [hU]; exact hPc, va_K.moved hW.alike hKc, hDc.weaken (fun _ _ _ _ => trivial), (vk_R.warm hW hN0), (vk_R.warm hW hN1), (vk_R.warm hW hN2), (vk_R.warm hW hN3)⟩⟩ rfl rfl hl.1 rfl (lv_room (Nat.le_of_ble_eq_true rfl)) dX7_read_46 ⟨Nat.le_of_ble_eq_true rfl, Nat.le_of_ble_eq_true rfl⟩) hS (fun q _ h => hFc q h) hFc (fun r_5 u t H1 locs ht hvm hw hB hz1 hk1 hS => ?_)
      obtain ⟨hP1, hK1, hD1⟩ := hB
      rw [ht] at hP1
      have hK1 := va_K.moved hvm.symm hK1
      obtain ⟨hP, hD⟩ := va_join (wr := [(dr, .inr (3, (((fs_dr.set 4 (.int 0)).set 9 (.int 0)).set 10 (.int (-1))))), (hd, .inr (4, (fs_hd.set 1 (.int 0)))), (ba, .inl (cB, 900, .inl fb))]) (w1 := [(h0, .inr (6, (((((fs_h0.set 1 (.int 0)).set 2 (.int (-1))).set 3 (.int 0)).set 1 (.int 1)).set 2 (.int 0)))), (tp, .inr (9, (((((fs_tp.set 5 (.int 0)).set 6 (.int 0)).set 3 (.int 0)).set 4 (.int 0)).set 2 (.int 0))))]) hP hD [0, 3] [1, 2, 4] rfl rfl (by decide) (by decide) hk1 hFc hP1 hD1
      generalize H1 = H at hP hS ⊢
      have hP : va_P (dC, dI) vwCl [(dr, .inr (3, (((fs_dr.set 4 (.int 0)).set 9 (.int 0)).set 10 (.int (-1))))), (hd, .inr (4, (fs_hd.set 1 (.int 0)))), (ba, .inl (cB, 900, .inl fb)), (h0, .inr (6, (((((fs_h0.set 1 (.int 0)).set 2 (.int (-1))).set 3 (.int 0)).set 1 (.int 1)).set 2 (.int 0)))), (tp, .inr (9, (((((fs_tp.set 5 (.int 0)).set 6 (.int 0)).set 3 (.int 0)).set 4 (.int 0)).set 2 (.int 0))))] H := hP
      have hD : va_D A [(dr, .inr (3, (((fs_dr.set 4 (.int 0)).set 9 (.int 0)).set 10 (.int (-1))))), (hd, .inr (4, (fs_hd.set 1 (.int 0)))), (ba, .inl (cB, 900, .inl fb)), (h0, .inr (6, (((((fs_h0.set 1 (.int 0)).set 2 (.int (-1))).set 3 (.int 0)).set 1 (.int 1)).set 2 (.int 0)))), (tp, .inr (9, (((((fs_tp.set 5 (.int 0)).set 6 (.int 0)).set 3 (.int 0)).set 4 (.int 0)).set 2 (.int 0))))] := hD
      have er_5 : r_5 = 0 := hw
      subst er_5
      refine lv_if_eq (tgt := 63) hx hb dX7_read_49 (by decide) (fun c_6 => ?_) (fun c_6 => ?_)
      · refine lv_iconst (v := 0) hx hb dX7_read_63 (by decide) ?_
        refine lv_istore_n (lv' := [(3, .int 0), (4, .int 0), (0, .ref h0), (1, .int 0), (2, .ref dr)]) hx hb dX7_read_64 rfl hl (by decide) rfl (fun ls hl => ?_)
        refine lv_iinc (v := 1) (lv' := [(4, .int 1), (3, .int 0), (0, .ref h0), (1, .int 0), (2, .ref dr)]) hx hb dX7_read_65 hl (k := 1) rfl (by decide) (by decide) rfl (fun ls hl => ?_)
        refine lv_goto (tgt := 32) hx hb dX7_read_68 (by decide) ?_
        refine lv_iload hx hb dX7_read_32 (lv_at hl 0 rfl) ?_
        refine lv_sipush (v := 900) hx hb dX7_read_34 (by decide) ?_
        refine lv_icmp_gt (tgt := 71) hx hb dX7_read_37 (by decide) (fun c_8 => ?_) (fun c_8 => ?_)
        · exact absurd c_8 (by decide)
        · refine lv_iload_n hx hb dX7_read_40 rfl (lv_at hl 1 rfl) ?_
          refine lv_if_eq (tgt := 71) hx hb dX7_read_41 (by decide) (fun c_9 => ?_) (fun c_9 => ?_)
          · have hpost : True := trivial
            have hP9 := hP.sub (ws' := [(h0, .inr (6, (((((fs_h0.set 1 (.int 0)).set 2 (.int (-1))).set 3 (.int 0)).set 1 (.int 1)).set 2 (.int 0)))), (tp, .inr (9, (((((fs_tp.set 5 (.int 0)).set 6 (.int 0)).set 3 (.int 0)).set 4 (.int 0)).set 2 (.int 0)))), (ba, .inl (cB, 900, .inl fb)), (dr, .inr (3, (((fs_dr.set 4 (.int 0)).set 9 (.int 0)).set 10 (.int (-1))))), (hd, .inr (4, (fs_hd.set 1 (.int 0))))]) [3, 4, 2, 0, 1] rfl
            have hD9 := hD.sub (ws' := [(h0, .inr (6, (((((fs_h0.set 1 (.int 0)).set 2 (.int (-1))).set 3 (.int 0)).set 1 (.int 1)).set 2 (.int 0)))), (tp, .inr (9, (((((fs_tp.set 5 (.int 0)).set 6 (.int 0)).set 3 (.int 0)).set 4 (.int 0)).set 2 (.int 0)))), (ba, .inl (cB, 900, .inl fb)), (dr, .inr (3, (((fs_dr.set 4 (.int 0)).set 9 (.int 0)).set 10 (.int (-1))))), (hd, .inr (4, (fs_hd.set 1 (.int 0))))]) [3, 4, 2, 0, 1] (by decide) rfl
            have hK9 := hK.sub (tys' := []) [] rfl
            exact W.vret hx hb hr (fun t ht hW => ⟨⟨(), rfl, hpost, by rw [ht]; exact hP9, va_K.moved hW.alike hK9, hD9⟩, hS.F ht⟩) hS.2.2 dX7_read_71
          · exact absurd (by decide) c_9
      · exact absurd (by decide) c_6
set_option maxHeartbeats 4000000 in
set_option maxRecDepth 100000 in
theorem k_X11_desk (l : Launch) (dC : Nat → ClassId) (dI : Nat → Nat → Nat) (sz : Nat) (h0 : Nat) (fs_h0 : List Value) (rd : Nat) (fs_rd : List Value) (tp : Nat) (fs_tp : List Value) (ba : Nat) (cB : ClassId) (fb : Nat → Int32) (dr : Nat) (fs_dr : List Value) (hd : Nat) (fs_hd : List Value) (p0 : Int32) (q7_62 : Nat) (q7_71 : Nat) (q7_73 : Nat) (q7_75 : Nat) (hn_h0 : fs_h0.length = 15) (hf_h0_0 : fs_h0[0]? = some (.ref rd)) (hf_h0_9 : fs_h0[9]? = some (.ref dr)) (hn_rd : fs_rd.length = 5) (hf_rd_0 : fs_rd[0]? = some (.ref tp)) (hn_tp : fs_tp.length = 7) (hf_tp_0 : fs_tp[0]? = some (.ref ba)) (hf_tp_1 : fs_tp[1]? = some (.int 0)) (hf_tp_2 : fs_tp[2]? = some (.int 0)) (hf_tp_3 : fs_tp[3]? = some (.int 0)) (hf_tp_4 : fs_tp[4]? = some (.int 0)) (hf_tp_5 : fs_tp[5]? = some (.int 0)) (hf_tp_6 : fs_tp[6]? = some (.int 0)) (hn_dr : fs_dr.length = 12) (hf_dr_2 : fs_dr[2]? = some (.ref hd)) (hn_hd : fs_hd.length = 2) : Met l yX11_desk wsX11_desk ({ frames := 3, cells := 0, slots := 0, locals := 71 }) (va_Pc [.ref h0, .int p0] (fun U => U.heap.size = sz ∧ va_P (dC, dI) vwCl [(h0, .inr (10, fs_h0)), (rd, .inr (6, fs_rd)), (tp, .inr (9, fs_tp)), (ba, .inl (cB, 900, .inl fb)), (dr, .inr (3, fs_dr)), (hd, .inr (4, fs_hd))] U.heap ∧ va_K (dC, dI) vwCl [(cB, .byte)] U ∧ va_D (fun _ => True) [(h0, .inr (10, fs_h0)), (rd, .inr (6, fs_rd)), (tp, .inr (9, fs_tp)), (ba, .inl (cB, 900, .inl fb)), (dr, .inr (3, fs_dr)), (hd, .inr (4, fs_hd))] ∧ vk_R RX7 62 "desk" q7_62 U ∧ vk_R RX7 71 "holiday" q7_71 U ∧ vk_R RX7 73 "bond" q7_73 U ∧ vk_R RX7 75 "quote" q7_75 U)) (va_Qi (fun (r : Int32) (_ : Unit) => r = (-1)) (fun _ t => va_P (dC, dI) vwCl [] t.heap ∧ va_K (dC, dI) vwCl [] t ∧ va_D (va_A [(h0, .inr (10, fs_h0)), (rd, .inr (6, fs_rd)), (tp, .inr (9, fs_tp)), (ba, .inl (cB, 900, .inl fb)), (dr, .inr (3, fs_dr)), (hd, .inr (4, fs_hd))] sz) []) (va_A [(h0, .inr (10, fs_h0)), (rd, .inr (6, fs_rd)), (tp, .inr (9, fs_tp)), (ba, .inl (cB, 900, .inl fb)), (dr, .inr (3, fs_dr)), (hd, .inr (4, fs_hd))] sz)) 0 0 (va_A [(h0, .inr (10, fs_h0)), (rd, .inr (6, fs_rd)), (tp, .inr (9, fs_tp)), (ba, .inl (cB, 900, .inl fb)), (dr, .inr (3, fs_dr)), (hd, .inr (4, fs_hd))] sz) := by
  refine Met.ofW (cc := cX11_desk) (maxL := 3) (ret := (some .int)) (by decide) rfl ?_
  intro p e s m args below meth c s₁ B hml hv
  obtain ⟨rfl, hsz, hP, hK, hD0, hN0, hN1, hN2, hN3⟩ := hv
  have hx := B.exec
  have hb := B.bytes
  have hr := B.returns
  have hts := atoms_spec (ws := wsX11_desk) B.pre
  have hown : s.vm.findClass RX11 = some m.cls := findClass_of_methodNamed B.named
  have hlocks := B.notSynchronized
  have hinX11 : ∀ w ∈ u_ws RX11 TX11 15, w ∈ wsX11_desk := (fun _ h9 => List.mem_cons_of_mem _ (List.mem_append_left _ (List.mem_append_left _ (List.mem_append_left _ (List.mem_append_left _ (List.mem_append_left _ (List.mem_append_left _ (List.mem_append_left _ (List.mem_append_left _ (List.mem_append_right _ h9))))))))))
  have hinX7 : ∀ w ∈ u_ws RX7 TX7 5, w ∈ wsX11_desk := (fun _ h9 => List.mem_cons_of_mem _ (List.mem_append_left _ (List.mem_append_left _ (List.mem_append_left _ (List.mem_append_left _ (List.mem_append_left _ (List.mem_append_left _ (List.mem_append_left _ (List.mem_append_right _ h9)))))))))
  have hinX10 : ∀ w ∈ u_ws RX10 TX10 7, w ∈ wsX11_desk := (fun _ h9 => List.mem_cons_of_mem _ (List.mem_append_left _ (List.mem_append_left _ (List.mem_append_left _ (List.mem_append_left _ (List.mem_append_left _ (List.mem_append_left _ (List.mem_append_right _ h9))))))))
  subst hsz
  have hD := hD0.self (sz := s.heap.size)
  generalize hAe : va_A [(h0, .inr (10, fs_h0)), (rd, .inr (6, fs_rd)), (tp, .inr (9, fs_tp)), (ba, .inl (cB, 900, .inl fb)), (dr, .inr (3, fs_dr)), (hd, .inr (4, fs_hd))] s.heap.size = A at hD ⊢
  have hA : ∀ q : Nat, s.heap.size ≤ q → A q := fun q h => by rw [← hAe]; exact Or.inr h
  have hS : va_S A s.heap s.heap [] := va_S.rf
  have hP : va_P (dC, dI) vwCl [(h0, .inr (10, fs_h0)), (rd, .inr (6, fs_rd)), (tp, .inr (9, fs_tp)), (ba, .inl (cB, 900, .inl fb)), (dr, .inr (3, fs_dr)), (hd, .inr (4, fs_hd))] s.heap := hP
  have hl := lv_entry ([.ref h0, .int p0]) (n := 3) (Nat.le_of_ble_eq_true rfl)
  rw [lg_entry_eq]
  generalize (lg_sl ([.ref h0, .int p0]) ++ List.replicate (3 - (lg_sl ([.ref h0, .int p0])).length) Slot.unset).toArray = ls at hl ⊢
  have hl : lv_has ls 3 [(0, .ref h0), (1, .int p0)] := hl
  refine lv_iload_n hx hb dX11_desk_0 rfl (lv_at hl 1 rfl) ?_
  refine lv_if_lt (tgt := 18) hx hb dX11_desk_1 (by decide) (fun c_1 => ?_) (fun c_1 => ?_)
  · refine lv_aload_n hx hb dX11_desk_18 rfl (lv_at hl 0 rfl) ?_
    refine lv_iconst (v := 2) hx hb dX11_desk_19 (by decide) ?_
    have hPc := hP.sub (ws' := [(h0, .inr (10, fs_h0))]) [0] rfl
    have hDc := hD.sub (ws' := [(h0, .inr (10, fs_h0))]) [0] (by decide) rfl
    have hKc := hK.sub (tys' := []) [] rfl
    have hFc := va_free (wc := [(h0, .inr (10, fs_h0))]) hD hS hA [0] rfl
    refine va_calli (va_runV (As := [.int 2]) (rest := []) ⟨hx, hb, hml, hown, hts⟩ (k_X11_refuse l dC dI s.heap.size h0 fs_h0 2 hn_h0) (cwV 1 hts gX11_desk_X11_refuse rfl rfl rfl (by decide +kernel) ⟨Nat.le_of_ble_eq_true rfl, Nat.le_of_ble_eq_true rfl⟩) ⟨fun a U g mk q => by obtain ⟨q0, q1, qP, qK, qD⟩ := q; exact ⟨q0, q1, qP, va_K.moved (u := U) (U := U.calling g mk a) (Vm.Alike.refl U.vm) qK, qD⟩, va_recv hKc hPc (ci := 10) (q0 := 0) rfl rfl, fun U hU hW => ⟨rfl, by rw [hU], by rw [hU]; exact hPc, va_K.moved hW.alike hKc, hDc.weaken (fun _ _ _ _ => trivial)⟩⟩ rfl rfl hl.1 rfl (lv_room (Nat.le_of_ble_eq_true rfl)) dX11_desk_20 ⟨Nat.le_of_ble_eq_true rfl, Nat.le_of_ble_eq_true rfl⟩) hS (fun q _ h => hFc q h) hFc (fun r_2 u t H1 locs ht hvm hw hB hz1 hk1 hS => ?_)
    obtain ⟨hP1, hK1, hD1⟩ := hB
    rw [ht] at hP1
    have hK1 := va_K.moved hvm.symm hK1
    obtain ⟨hP, hD⟩ := va_join (wr := [(rd, .inr (6, fs_rd)), (tp, .inr (9, fs_tp)), (ba, .inl (cB, 900, .inl fb)), (dr, .inr (3, fs_dr)), (hd, .inr (4, fs_hd))]) (w1 := []) hP hD [0] [1, 2, 3, 4, 5] rfl rfl (by decide) (by decide) hk1 hFc hP1 hD1
    generalize H1 = H at hP hS ⊢
    have hP : va_P (dC, dI) vwCl [(rd, .inr (6, fs_rd)), (tp, .inr (9, fs_tp)), (ba, .inl (cB, 900, .inl fb)), (dr, .inr (3, fs_dr)), (hd, .inr (4, fs_hd))] H := hP
    have hD : va_D A [(rd, .inr (6, fs_rd)), (tp, .inr (9, fs_tp)), (ba, .inl (cB, 900, .inl fb)), (dr, .inr (3, fs_dr)), (hd, .inr (4, fs_hd))] := hD
    have er_2 : r_2 = (-1) := hw
    subst er_2
    have hpost : ((-1) : Int32) = (-1) := rfl
    have hP9 := hP.sub (ws' := []) [] rfl
    have hD9 := hD.sub (ws' := []) [] (by decide) rfl
    have hK9 := hK.sub (tys' := []) [] rfl
    exact W.iret (v := (-1)) hx hb hr (fun t ht hW => ⟨⟨(-1), (), rfl, hpost, by rw [ht]; exact hP9, va_K.moved hW.alike hK9, hD9⟩, hS.F ht⟩) hS.2.2 dX11_desk_23
  · refine lv_iload_n hx hb dX11_desk_4 rfl (lv_at hl 1 rfl) ?_
    refine lv_aload_n hx hb dX11_desk_5 rfl (lv_at hl 0 rfl) ?_
    refine va_get (D := (dC, dI)) (ci := 10) (v := .ref rd) (C := RX11) (T := TX11) (N := 15) hx hb hts hinX11 hown hK hP 0 rfl rfl 0 (by decide) (hts (.fieldLink RX11 10 "BondCalendars" "reader" "LBondCalendars$Reader;") (by decide +kernel)) (fun _ h9 => h9) hf_h0_0 dX11_desk_6 ?_
    refine va_get (D := (dC, dI)) (ci := 6) (v := .ref tp) (C := RX7) (T := TX7) (N := 5) hx hb hts hinX7 hown hK hP 1 rfl rfl 0 (by decide) (hts (.fieldLink RX11 84 "BondCalendars$Reader" "tape" "LBondCalendars$Tape;") (by decide +kernel)) (fun _ h9 => h9) hf_rd_0 dX11_desk_9 ?_
    refine va_get (D := (dC, dI)) (ci := 9) (v := .int 0) (C := RX10) (T := TX10) (N := 7) hx hb hts hinX10 hown hK hP 2 rfl rfl 1 (by decide) (hts (.fieldLink RX11 88 "BondCalendars$Tape" "length" "I") (by decide +kernel)) (fun _ h9 => h9) hf_tp_1 dX11_desk_12 ?_
    refine lv_icmp_le (tgt := 24) hx hb dX11_desk_15 (by decide) (fun c_3 => ?_) (fun c_3 => ?_)
    · obtain rfl : p0 = 0 := Int32.le_antisymm c_3 (Int32.not_lt.mp c_1)
      refine lv_aload_n hx hb dX11_desk_24 rfl (lv_at hl 0 rfl) ?_
      refine va_get (D := (dC, dI)) (ci := 10) (v := .ref rd) (C := RX11) (T := TX11) (N := 15) hx hb hts hinX11 hown hK hP 0 rfl rfl 0 (by decide) (hts (.fieldLink RX11 10 "BondCalendars" "reader" "LBondCalendars$Reader;") (by decide +kernel)) (fun _ h9 => h9) hf_h0_0 dX11_desk_25 ?_
      refine lv_iload_n hx hb dX11_desk_28 rfl (lv_at hl 1 rfl) ?_
      refine lv_aload_n hx hb dX11_desk_29 rfl (lv_at hl 0 rfl) ?_
      refine va_get (D := (dC, dI)) (ci := 10) (v := .ref dr) (C := RX11) (T := TX11) (N := 15) hx hb hts hinX11 hown hK hP 0 rfl rfl 9 (by decide) (hts (.fieldLink RX11 64 "BondCalendars" "draft" "LBondCalendars$Desk;") (by decide +kernel)) (fun _ h9 => h9) hf_h0_9 dX11_desk_30 ?_
      have hPc := hP.sub (ws' := [(rd, .inr (6, fs_rd)), (tp, .inr (9, fs_tp)), (ba, .inl (cB, 900, .inl fb)), (dr, .inr (3, fs_dr)), (hd, .inr (4, fs_hd))]) [1, 2, 3, 4, 5] rfl
      have hDc := hD.sub (ws' := [(rd, .inr (6, fs_rd)), (tp, .inr (9, fs_tp)), (ba, .inl (cB, 900, .inl fb)), (dr, .inr (3, fs_dr)), (hd, .inr (4, fs_hd))]) [1, 2, 3, 4, 5] (by decide) rfl
      have hKc := hK.sub (tys' := [(cB, .byte)]) [0] rfl
      have hFc := va_free (wc := [(rd, .inr (6, fs_rd)), (tp, .inr (9, fs_tp)), (ba, .inl (cB, 900, .inl fb)), (dr, .inr (3, fs_dr)), (hd, .inr (4, fs_hd))]) hD hS hA [1, 2, 3, 4, 5] rfl
      refine va_callv (va_runV (As := [.int 0, .ref dr]) (rest := []) ⟨hx, hb, hml, hown, hts⟩ (k_X7_read l dC dI s.heap.size rd fs_rd tp fs_tp ba cB fb dr fs_dr hd fs_hd q7_62 q7_71 q7_73 q7_75 hn_rd hf_rd_0 hn_tp hf_tp_0 hf_tp_1 hf_tp_2 hf_tp_3 hf_tp_4 hf_tp_5 hf_tp_6 hn_dr hf_dr_2 hn_hd) (cwV 2 hts gX11_desk_X7_read rfl rfl rfl (by decide +kernel) ⟨Nat.le_of_ble_eq_true rfl, Nat.le_of_ble_eq_true rfl⟩) ⟨fun a U g mk q => by obtain ⟨q0, q1, qP, qK, qD, n0, n1, n2, n3⟩ := q; exact ⟨q0, q1, qP, va_K.moved (u := U) (U := U.calling g mk a) (Vm.Alike.refl U.vm) qK, qD, (vk_R.same rfl n0), (vk_R.same rfl n1), (vk_R.same rfl n2), (vk_R.same rfl n3)⟩, va_recv hKc hPc (ci := 6) (q0 := 0) rfl rfl, fun U hU hW => ⟨rfl, by rw [hU], by rw [hU]; exact hPc, va_K.moved hW.alike hKc, hDc.weaken (fun _ _ _ _ => trivial), (vk_R.warm hW hN0), (vk_R.warm hW hN1), (vk_R.warm hW hN2), (vk_R.warm hW hN3)⟩⟩ rfl rfl hl.1 rfl (lv_room (Nat.le_of_ble_eq_true rfl)) dX11_desk_33 ⟨Nat.le_of_ble_eq_true rfl, Nat.le_of_ble_eq_true rfl⟩) hS (fun q _ h => hFc q h) hFc (fun u t H1 locs ht hvm hw hB hz1 hk1 hS => ?_)
      obtain ⟨hP1, hK1, hD1⟩ := hB
      rw [ht] at hP1
      have hK1 := va_K.moved hvm.symm hK1
      obtain ⟨hP, hD⟩ := va_join (wr := [(h0, .inr (10, fs_h0))]) (w1 := [(rd, .inr (6, (((((fs_rd.set 1 (.int 0)).set 2 (.int (-1))).set 3 (.int 0)).set 1 (.int 1)).set 2 (.int 0)))), (tp, .inr (9, (((((fs_tp.set 5 (.int 0)).set 6 (.int 0)).set 3 (.int 0)).set 4 (.int 0)).set 2 (.int 0)))), (ba, .inl (cB, 900, .inl fb)), (dr, .inr (3, (((fs_dr.set 4 (.int 0)).set 9 (.int 0)).set 10 (.int (-1))))), (hd, .inr (4, (fs_hd.set 1 (.int 0))))]) hP hD [1, 2, 3, 4, 5] [0] rfl rfl (by decide) (by decide) hk1 hFc hP1 hD1
      generalize H1 = H at hP hS ⊢
      have hP : va_P (dC, dI) vwCl [(h0, .inr (10, fs_h0)), (rd, .inr (6, (((((fs_rd.set 1 (.int 0)).set 2 (.int (-1))).set 3 (.int 0)).set 1 (.int 1)).set 2 (.int 0)))), (tp, .inr (9, (((((fs_tp.set 5 (.int 0)).set 6 (.int 0)).set 3 (.int 0)).set 4 (.int 0)).set 2 (.int 0)))), (ba, .inl (cB, 900, .inl fb)), (dr, .inr (3, (((fs_dr.set 4 (.int 0)).set 9 (.int 0)).set 10 (.int (-1))))), (hd, .inr (4, (fs_hd.set 1 (.int 0))))] H := hP
      have hD : va_D A [(h0, .inr (10, fs_h0)), (rd, .inr (6, (((((fs_rd.set 1 (.int 0)).set 2 (.int (-1))).set 3 (.int 0)).set 1 (.int 1)).set 2 (.int 0)))), (tp, .inr (9, (((((fs_tp.set 5 (.int 0)).set 6 (.int 0)).set 3 (.int 0)).set 4 (.int 0)).set 2 (.int 0)))), (ba, .inl (cB, 900, .inl fb)), (dr, .inr (3, (((fs_dr.set 4 (.int 0)).set 9 (.int 0)).set 10 (.int (-1))))), (hd, .inr (4, (fs_hd.set 1 (.int 0))))] := hD
      refine lv_aload_n hx hb dX11_desk_36 rfl (lv_at hl 0 rfl) ?_
      refine va_get (D := (dC, dI)) (ci := 10) (v := .ref rd) (C := RX11) (T := TX11) (N := 15) hx hb hts hinX11 hown hK hP 0 rfl rfl 0 (by decide) (hts (.fieldLink RX11 10 "BondCalendars" "reader" "LBondCalendars$Reader;") (by decide +kernel)) (fun _ h9 => h9) hf_h0_0 dX11_desk_37 ?_
      refine va_get (D := (dC, dI)) (ci := 6) (v := .ref tp) (C := RX7) (T := TX7) (N := 5) hx hb hts hinX7 hown hK hP 1 rfl rfl 0 (by decide) (hts (.fieldLink RX11 84 "BondCalendars$Reader" "tape" "LBondCalendars$Tape;") (by decide +kernel)) (fun _ h9 => h9) ((List.getElem?_set_ne (by decide)).trans ((List.getElem?_set_ne (by decide)).trans ((List.getElem?_set_ne (by decide)).trans ((List.getElem?_set_ne (by decide)).trans ((List.getElem?_set_ne (by decide)).trans hf_rd_0))))) dX11_desk_40 ?_
      refine lv_iconst (v := 0) hx hb dX11_desk_43 (by decide) ?_
      refine va_put (D := (dC, dI)) (ci := 9) (v := .int 0) (C := RX10) (T := TX10) (N := 7) hx hb hts hinX10 tyX10 tyX10_ok nmX10 hown hK hP hD hS 2 rfl rfl 1 (by decide) (hts (.fieldLink RX11 88 "BondCalendars$Tape" "length" "I") (by decide +kernel)) (fun _ h9 => h9) rfl (ty := .int) (by decide +kernel) rfl rfl (by rw [(List.length_set.trans (List.length_set.trans (List.length_set.trans (List.length_set.trans (List.length_set.trans hn_tp)))))]; decide) dX11_desk_44 (fun H locs hP hD hS => ?_)
      have hP : va_P (dC, dI) vwCl [(h0, .inr (10, fs_h0)), (rd, .inr (6, (((((fs_rd.set 1 (.int 0)).set 2 (.int (-1))).set 3 (.int 0)).set 1 (.int 1)).set 2 (.int 0)))), (tp, .inr (9, ((((((fs_tp.set 5 (.int 0)).set 6 (.int 0)).set 3 (.int 0)).set 4 (.int 0)).set 2 (.int 0)).set 1 (.int 0)))), (ba, .inl (cB, 900, .inl fb)), (dr, .inr (3, (((fs_dr.set 4 (.int 0)).set 9 (.int 0)).set 10 (.int (-1))))), (hd, .inr (4, (fs_hd.set 1 (.int 0))))] H := hP
      have hD : va_D A [(h0, .inr (10, fs_h0)), (rd, .inr (6, (((((fs_rd.set 1 (.int 0)).set 2 (.int (-1))).set 3 (.int 0)).set 1 (.int 1)).set 2 (.int 0)))), (tp, .inr (9, ((((((fs_tp.set 5 (.int 0)).set 6 (.int 0)).set 3 (.int 0)).set 4 (.int 0)).set 2 (.int 0)).set 1 (.int 0)))), (ba, .inl (cB, 900, .inl fb)), (dr, .inr (3, (((fs_dr.set 4 (.int 0)).set 9 (.int 0)).set 10 (.int (-1))))), (hd, .inr (4, (fs_hd.set 1 (.int 0))))] := hD
      refine lv_aload_n hx hb dX11_desk_47 rfl (lv_at hl 0 rfl) ?_
      refine lv_aload_n hx hb dX11_desk_48 rfl (lv_at hl 0 rfl) ?_
      refine va_get (D := (dC, dI)) (ci := 10) (v := .ref rd) (C := RX11) (T := TX11) (N := 15) hx hb hts hinX11 hown hK hP 0 rfl rfl 0 (by decide) (hts (.fieldLink RX11 10 "BondCalendars" "reader" "LBondCalendars$Reader;") (by decide +kernel)) (fun _ h9 => h9) hf_h0_0 dX11_desk_49 ?_
      refine va_get (D := (dC, dI)) (ci := 6) (v := .int 1) (C := RX7) (T := TX7) (N := 5) hx hb hts hinX7 hown hK hP 1 rfl rfl 1 (by decide) (hts (.fieldLink RX11 105 "BondCalendars$Reader" "faultNumber" "I") (by decide +kernel)) (fun _ h9 => h9) ((List.getElem?_set_ne (by decide)).trans (List.getElem?_set_self (by rw [(List.length_set.trans (List.length_set.trans (List.length_set.trans hn_rd)))]; decide))) dX11_desk_52 ?_
      refine va_put (D := (dC, dI)) (ci := 10) (v := .int 1) (C := RX11) (T := TX11) (N := 15) hx hb hts hinX11 tyX11 tyX11_ok nmX11 hown hK hP hD hS 0 rfl rfl 13 (by decide) (hts (.fieldLink RX11 78 "BondCalendars" "latestFault" "I") (by decide +kernel)) (fun _ h9 => h9) rfl (ty := .int) (by decide +kernel) rfl rfl (by rw [hn_h0]; decide) dX11_desk_55 (fun H locs hP hD hS => ?_)
      have hP : va_P (dC, dI) vwCl [(h0, .inr (10, (fs_h0.set 13 (.int 1)))), (rd, .inr (6, (((((fs_rd.set 1 (.int 0)).set 2 (.int (-1))).set 3 (.int 0)).set 1 (.int 1)).set 2 (.int 0)))), (tp, .inr (9, ((((((fs_tp.set 5 (.int 0)).set 6 (.int 0)).set 3 (.int 0)).set 4 (.int 0)).set 2 (.int 0)).set 1 (.int 0)))), (ba, .inl (cB, 900, .inl fb)), (dr, .inr (3, (((fs_dr.set 4 (.int 0)).set 9 (.int 0)).set 10 (.int (-1))))), (hd, .inr (4, (fs_hd.set 1 (.int 0))))] H := hP
      have hD : va_D A [(h0, .inr (10, (fs_h0.set 13 (.int 1)))), (rd, .inr (6, (((((fs_rd.set 1 (.int 0)).set 2 (.int (-1))).set 3 (.int 0)).set 1 (.int 1)).set 2 (.int 0)))), (tp, .inr (9, ((((((fs_tp.set 5 (.int 0)).set 6 (.int 0)).set 3 (.int 0)).set 4 (.int 0)).set 2 (.int 0)).set 1 (.int 0)))), (ba, .inl (cB, 900, .inl fb)), (dr, .inr (3, (((fs_dr.set 4 (.int 0)).set 9 (.int 0)).set 10 (.int (-1))))), (hd, .inr (4, (fs_hd.set 1 (.int 0))))] := hD
      refine lv_aload_n hx hb dX11_desk_58 rfl (lv_at hl 0 rfl) ?_
      refine lv_aload_n hx hb dX11_desk_59 rfl (lv_at hl 0 rfl) ?_
      refine va_get (D := (dC, dI)) (ci := 10) (v := .ref rd) (C := RX11) (T := TX11) (N := 15) hx hb hts hinX11 hown hK hP 0 rfl rfl 0 (by decide) (hts (.fieldLink RX11 10 "BondCalendars" "reader" "LBondCalendars$Reader;") (by decide +kernel)) (fun _ h9 => h9) ((List.getElem?_set_ne (by decide)).trans hf_h0_0) dX11_desk_60 ?_
      refine va_get (D := (dC, dI)) (ci := 6) (v := .int 0) (C := RX7) (T := TX7) (N := 5) hx hb hts hinX7 hown hK hP 1 rfl rfl 2 (by decide) (hts (.fieldLink RX11 108 "BondCalendars$Reader" "faultPlace" "I") (by decide +kernel)) (fun _ h9 => h9) (List.getElem?_set_self (by rw [(List.length_set.trans (List.length_set.trans (List.length_set.trans (List.length_set.trans hn_rd))))]; decide)) dX11_desk_63 ?_
      refine va_put (D := (dC, dI)) (ci := 10) (v := .int 0) (C := RX11) (T := TX11) (N := 15) hx hb hts hinX11 tyX11 tyX11_ok nmX11 hown hK hP hD hS 0 rfl rfl 14 (by decide) (hts (.fieldLink RX11 81 "BondCalendars" "latestPlace" "I") (by decide +kernel)) (fun _ h9 => h9) rfl (ty := .int) (by decide +kernel) rfl rfl (by rw [(List.length_set.trans hn_h0)]; decide) dX11_desk_66 (fun H locs hP hD hS => ?_)
      have hP : va_P (dC, dI) vwCl [(h0, .inr (10, ((fs_h0.set 13 (.int 1)).set 14 (.int 0)))), (rd, .inr (6, (((((fs_rd.set 1 (.int 0)).set 2 (.int (-1))).set 3 (.int 0)).set 1 (.int 1)).set 2 (.int 0)))), (tp, .inr (9, ((((((fs_tp.set 5 (.int 0)).set 6 (.int 0)).set 3 (.int 0)).set 4 (.int 0)).set 2 (.int 0)).set 1 (.int 0)))), (ba, .inl (cB, 900, .inl fb)), (dr, .inr (3, (((fs_dr.set 4 (.int 0)).set 9 (.int 0)).set 10 (.int (-1))))), (hd, .inr (4, (fs_hd.set 1 (.int 0))))] H := hP
      have hD : va_D A [(h0, .inr (10, ((fs_h0.set 13 (.int 1)).set 14 (.int 0)))), (rd, .inr (6, (((((fs_rd.set 1 (.int 0)).set 2 (.int (-1))).set 3 (.int 0)).set 1 (.int 1)).set 2 (.int 0)))), (tp, .inr (9, ((((((fs_tp.set 5 (.int 0)).set 6 (.int 0)).set 3 (.int 0)).set 4 (.int 0)).set 2 (.int 0)).set 1 (.int 0)))), (ba, .inl (cB, 900, .inl fb)), (dr, .inr (3, (((fs_dr.set 4 (.int 0)).set 9 (.int 0)).set 10 (.int (-1))))), (hd, .inr (4, (fs_hd.set 1 (.int 0))))] := hD
      refine lv_aload_n hx hb dX11_desk_69 rfl (lv_at hl 0 rfl) ?_
      refine va_get (D := (dC, dI)) (ci := 10) (v := .int 1) (C := RX11) (T := TX11) (N := 15) hx hb hts hinX11 hown hK hP 0 rfl rfl 13 (by decide) (hts (.fieldLink RX11 78 "BondCalendars" "latestFault" "I") (by decide +kernel)) (fun _ h9 => h9) ((List.getElem?_set_ne (by decide)).trans (List.getElem?_set_self (by rw [hn_h0]; decide))) dX11_desk_70 ?_
      refine lv_if_eq (tgt := 82) hx hb dX11_desk_73 (by decide) (fun c_5 => ?_) (fun c_5 => ?_)
      · exact absurd c_5 (by decide)
      · refine lv_aload_n hx hb dX11_desk_76 rfl (lv_at hl 0 rfl) ?_
        refine lv_iconst (v := 4) hx hb dX11_desk_77 (by decide) ?_
        have hPc := hP.sub (ws' := [(h0, .inr (10, ((fs_h0.set 13 (.int 1)).set 14 (.int 0))))]) [0] rfl
        have hDc := hD.sub (ws' := [(h0, .inr (10, ((fs_h0.set 13 (.int 1)).set 14 (.int 0))))]) [0] (by decide) rfl
        have hKc := hK.sub (tys' := []) [] rfl
        have hFc := va_free (wc := [(h0, .inr (10, ((fs_h0.set 13 (.int 1)).set 14 (.int 0))))]) hD hS hA [0] rfl
        refine va_calli (va_runV (As := [.int 4]) (rest := []) ⟨hx, hb, hml, hown, hts⟩ (k_X11_refuse l dC dI H.size h0 ((fs_h0.set 13 (.int 1)).set 14 (.int 0)) 4 (List.length_set.trans (List.length_set.trans hn_h0))) (cwV 1 hts gX11_desk_X11_refuse rfl rfl rfl (by decide +kernel) ⟨Nat.le_of_ble_eq_true rfl, Nat.le_of_ble_eq_true rfl⟩) ⟨fun a U g mk q => by obtain ⟨q0, q1, qP, qK, qD⟩ := q; exact ⟨q0, q1, qP, va_K.moved (u := U) (U := U.calling g mk a) (Vm.Alike.refl U.vm) qK, qD⟩, va_recv hKc hPc (ci := 10) (q0 := 0) rfl rfl, fun U hU hW => ⟨rfl, by rw [hU], by rw [hU]; exact hPc, va_K.moved hW.alike hKc, hDc.weaken (fun _ _ _ _ => trivial)⟩⟩ rfl rfl hl.1 rfl (lv_room (Nat.le_of_ble_eq_true rfl)) dX11_desk_78 ⟨Nat.le_of_ble_eq_true rfl, Nat.le_of_ble_eq_true rfl⟩) hS (fun q _ h => hFc q h) hFc (fun r_6 u t H1 locs ht hvm hw hB hz1 hk1 hS => ?_)
        obtain ⟨hP1, hK1, hD1⟩ := hB
        rw [ht] at hP1
        have hK1 := va_K.moved hvm.symm hK1
        obtain ⟨hP, hD⟩ := va_join (wr := [(rd, .inr (6, (((((fs_rd.set 1 (.int 0)).set 2 (.int (-1))).set 3 (.int 0)).set 1 (.int 1)).set 2 (.int 0)))), (tp, .inr (9, ((((((fs_tp.set 5 (.int 0)).set 6 (.int 0)).set 3 (.int 0)).set 4 (.int 0)).set 2 (.int 0)).set 1 (.int 0)))), (ba, .inl (cB, 900, .inl fb)), (dr, .inr (3, (((fs_dr.set 4 (.int 0)).set 9 (.int 0)).set 10 (.int (-1))))), (hd, .inr (4, (fs_hd.set 1 (.int 0))))]) (w1 := []) hP hD [0] [1, 2, 3, 4, 5] rfl rfl (by decide) (by decide) hk1 hFc hP1 hD1
        generalize H1 = H at hP hS ⊢
        have hP : va_P (dC, dI) vwCl [(rd, .inr (6, (((((fs_rd.set 1 (.int 0)).set 2 (.int (-1))).set 3 (.int 0)).set 1 (.int 1)).set 2 (.int 0)))), (tp, .inr (9, ((((((fs_tp.set 5 (.int 0)).set 6 (.int 0)).set 3 (.int 0)).set 4 (.int 0)).set 2 (.int 0)).set 1 (.int 0)))), (ba, .inl (cB, 900, .inl fb)), (dr, .inr (3, (((fs_dr.set 4 (.int 0)).set 9 (.int 0)).set 10 (.int (-1))))), (hd, .inr (4, (fs_hd.set 1 (.int 0))))] H := hP
        have hD : va_D A [(rd, .inr (6, (((((fs_rd.set 1 (.int 0)).set 2 (.int (-1))).set 3 (.int 0)).set 1 (.int 1)).set 2 (.int 0)))), (tp, .inr (9, ((((((fs_tp.set 5 (.int 0)).set 6 (.int 0)).set 3 (.int 0)).set 4 (.int 0)).set 2 (.int 0)).set 1 (.int 0)))), (ba, .inl (cB, 900, .inl fb)), (dr, .inr (3, (((fs_dr.set 4 (.int 0)).set 9 (.int 0)).set 10 (.int (-1))))), (hd, .inr (4, (fs_hd.set 1 (.int 0))))] := hD
        have er_6 : r_6 = (-1) := hw
        subst er_6
        have hpost : ((-1) : Int32) = (-1) := rfl
        have hP9 := hP.sub (ws' := []) [] rfl
        have hD9 := hD.sub (ws' := []) [] (by decide) rfl
        have hK9 := hK.sub (tys' := []) [] rfl
        exact W.iret (v := (-1)) hx hb hr (fun t ht hW => ⟨⟨(-1), (), rfl, hpost, by rw [ht]; exact hP9, va_K.moved hW.alike hK9, hD9⟩, hS.F ht⟩) hS.2.2 dX11_desk_81
    · refine lv_aload_n hx hb dX11_desk_18 rfl (lv_at hl 0 rfl) ?_
      refine lv_iconst (v := 2) hx hb dX11_desk_19 (by decide) ?_
      have hPc := hP.sub (ws' := [(h0, .inr (10, fs_h0))]) [0] rfl
      have hDc := hD.sub (ws' := [(h0, .inr (10, fs_h0))]) [0] (by decide) rfl
      have hKc := hK.sub (tys' := []) [] rfl
      have hFc := va_free (wc := [(h0, .inr (10, fs_h0))]) hD hS hA [0] rfl
      refine va_calli (va_runV (As := [.int 2]) (rest := []) ⟨hx, hb, hml, hown, hts⟩ (k_X11_refuse l dC dI s.heap.size h0 fs_h0 2 hn_h0) (cwV 1 hts gX11_desk_X11_refuse rfl rfl rfl (by decide +kernel) ⟨Nat.le_of_ble_eq_true rfl, Nat.le_of_ble_eq_true rfl⟩) ⟨fun a U g mk q => by obtain ⟨q0, q1, qP, qK, qD⟩ := q; exact ⟨q0, q1, qP, va_K.moved (u := U) (U := U.calling g mk a) (Vm.Alike.refl U.vm) qK, qD⟩, va_recv hKc hPc (ci := 10) (q0 := 0) rfl rfl, fun U hU hW => ⟨rfl, by rw [hU], by rw [hU]; exact hPc, va_K.moved hW.alike hKc, hDc.weaken (fun _ _ _ _ => trivial)⟩⟩ rfl rfl hl.1 rfl (lv_room (Nat.le_of_ble_eq_true rfl)) dX11_desk_20 ⟨Nat.le_of_ble_eq_true rfl, Nat.le_of_ble_eq_true rfl⟩) hS (fun q _ h => hFc q h) hFc (fun r_7 u t H1 locs ht hvm hw hB hz1 hk1 hS => ?_)
      obtain ⟨hP1, hK1, hD1⟩ := hB
      rw [ht] at hP1
      have hK1 := va_K.moved hvm.symm hK1
      obtain ⟨hP, hD⟩ := va_join (wr := [(rd, .inr (6, fs_rd)), (tp, .inr (9, fs_tp)), (ba, .inl (cB, 900, .inl fb)), (dr, .inr (3, fs_dr)), (hd, .inr (4, fs_hd))]) (w1 := []) hP hD [0] [1, 2, 3, 4, 5] rfl rfl (by decide) (by decide) hk1 hFc hP1 hD1
      generalize H1 = H at hP hS ⊢
      have hP : va_P (dC, dI) vwCl [(rd, .inr (6, fs_rd)), (tp, .inr (9, fs_tp)), (ba, .inl (cB, 900, .inl fb)), (dr, .inr (3, fs_dr)), (hd, .inr (4, fs_hd))] H := hP
      have hD : va_D A [(rd, .inr (6, fs_rd)), (tp, .inr (9, fs_tp)), (ba, .inl (cB, 900, .inl fb)), (dr, .inr (3, fs_dr)), (hd, .inr (4, fs_hd))] := hD
      have er_7 : r_7 = (-1) := hw
      subst er_7
      have hpost : ((-1) : Int32) = (-1) := rfl
      have hP9 := hP.sub (ws' := []) [] rfl
      have hD9 := hD.sub (ws' := []) [] (by decide) rfl
      have hK9 := hK.sub (tys' := []) [] rfl
      exact W.iret (v := (-1)) hx hb hr (fun t ht hW => ⟨⟨(-1), (), rfl, hpost, by rw [ht]; exact hP9, va_K.moved hW.alike hK9, hD9⟩, hS.F ht⟩) hS.2.2 dX11_desk_23
