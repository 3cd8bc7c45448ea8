set_option maxHeartbeats 4000000 in
set_option maxRecDepth 100000 in
theorem k_X10_append (l : Launch) (dC : Nat → ClassId) (dI : Nat → Nat → Nat) (sz : Nat) (h0 : Nat) (fs_h0 : List Value) (ba : Nat) (cB : ClassId) (fb : Nat → Int32) (j : Nat) (p0 : Int32) (hn_h0 : fs_h0.length = 7) (hf_h0_0 : fs_h0[0]? = some (.ref ba)) (hf_h0_1 : fs_h0[1]? = some (.int (nI j))) (hj : j + 4 ≤ 900) : Met l yX10_append wsX10_append ({ frames := 0, cells := 0, slots := 0, locals := 0 }) (va_Pc [.ref h0, .int p0] (fun U => U.heap.size = sz ∧ va_P (dC, dI) vwCl [(h0, .inr (9, fs_h0)), (ba, .inl (cB, 900, .inl fb))] U.heap ∧ va_K (dC, dI) vwCl [(cB, .byte)] U ∧ va_D (fun _ => True) [(h0, .inr (9, fs_h0)), (ba, .inl (cB, 900, .inl fb))])) (va_Qv (fun (_ : (Nat → Int32)) => True) (fun uu t => va_P (dC, dI) vwCl [(h0, .inr (9, (fs_h0.set 1 (.int (nI (j + 4)))))), (ba, .inl (cB, 900, .inl uu))] t.heap ∧ va_K (dC, dI) vwCl [] t ∧ va_D (va_A [(h0, .inr (9, fs_h0)), (ba, .inl (cB, 900, .inl fb))] sz) [(h0, .inr (9, (fs_h0.set 1 (.int (nI (j + 4)))))), (ba, .inl (cB, 900, .inl uu))]) (va_A [(h0, .inr (9, fs_h0)), (ba, .inl (cB, 900, .inl fb))] sz)) 0 0 (va_A [(h0, .inr (9, fs_h0)), (ba, .inl (cB, 900, .inl fb))] sz) := by
  refine Met.ofW (cc := cX10_append) (maxL := 3) (ret := none) (by decide) rfl ?_
  intro p e s m args below meth c s₁ B hml hv
  obtain ⟨rfl, hsz, hP, hK, hD0⟩ := hv
  have hx := B.exec
  have hb := B.bytes
  have hr := B.returns
  have hts := atoms_spec (ws := wsX10_append) B.pre
  have hown : s.vm.findClass RX10 = some m.cls := findClass_of_methodNamed B.named
  have hlocks := B.notSynchronized
  have hinX10 : ∀ w ∈ u_ws RX10 TX10 7, w ∈ wsX10_append := (fun _ h9 => List.mem_cons_of_mem _ (List.mem_append_right _ h9))
  subst hsz
  have hD := hD0.self (sz := s.heap.size)
  generalize hAe : va_A [(h0, .inr (9, fs_h0)), (ba, .inl (cB, 900, .inl fb))] s.heap.size = A at hD ⊢
  have hA : ∀ q : Nat, s.heap.size ≤ q → A q := fun q h => by rw [← hAe]; exact Or.inr h
  have hS : va_S A s.heap s.heap [] := va_S.rf
  have hP : va_P (dC, dI) vwCl [(h0, .inr (9, fs_h0)), (ba, .inl (cB, 900, .inl fb))] s.heap := hP
  have hl := lv_entry ([.ref h0, .int p0]) (n := 3) (Nat.le_of_ble_eq_true rfl)
  rw [lg_entry_eq]
  generalize (lg_sl ([.ref h0, .int p0]) ++ List.replicate (3 - (lg_sl ([.ref h0, .int p0])).length) Slot.unset).toArray = ls at hl ⊢
  have hl : lv_has ls 3 [(0, .ref h0), (1, .int p0)] := hl
  refine lv_bipush (v := 24) hx hb dX10_append_0 (by decide) ?_
  refine lv_istore_n (lv' := [(2, .int 24), (0, .ref h0), (1, .int p0)]) hx hb dX10_append_2 rfl hl (by decide) rfl (fun ls hl => ?_)
  refine lv_iload_n hx hb dX10_append_3 rfl (lv_at hl 0 rfl) ?_
  refine lv_if_lt (tgt := 48) hx hb dX10_append_4 (by decide) (fun c_1 => ?_) (fun c_1 => ?_)
  · exact absurd c_1 (by decide)
  · refine lv_aload_n hx hb dX10_append_7 rfl (lv_at hl 1 rfl) ?_
    refine va_get (D := (dC, dI)) (ci := 9) (v := .int (nI j)) (C := RX10) (T := TX10) (N := 7) hx hb hts hinX10 hown hK hP 0 rfl rfl 1 (by decide) (hts (.fieldLink RX10 13 "BondCalendars$Tape" "length" "I") (by decide +kernel)) (fun _ h9 => h9) hf_h0_1 dX10_append_8 ?_
    refine lv_aload_n hx hb dX10_append_11 rfl (lv_at hl 1 rfl) ?_
    refine va_get (D := (dC, dI)) (ci := 9) (v := .ref ba) (C := RX10) (T := TX10) (N := 7) hx hb hts hinX10 hown hK hP 0 rfl rfl 0 (by decide) (hts (.fieldLink RX10 9 "BondCalendars$Tape" "bytes" "[B") (by decide +kernel)) (fun _ h9 => h9) hf_h0_0 dX10_append_12 ?_
    refine va_alen (v := 900) hx hb hK hP 1 0 rfl rfl rfl dX10_append_15 ?_
    refine lv_icmp_ge (tgt := 42) hx hb dX10_append_16 (by decide) (fun c_2 => ?_) (fun c_2 => ?_)
    · exact absurd c_2 (nI_ge (b := 900) (by omega) (by decide))
    · refine lv_aload_n hx hb dX10_append_19 rfl (lv_at hl 1 rfl) ?_
      refine va_get (D := (dC, dI)) (ci := 9) (v := .ref ba) (C := RX10) (T := TX10) (N := 7) hx hb hts hinX10 hown hK hP 0 rfl rfl 0 (by decide) (hts (.fieldLink RX10 9 "BondCalendars$Tape" "bytes" "[B") (by decide +kernel)) (fun _ h9 => h9) hf_h0_0 dX10_append_20 ?_
      refine lv_aload_n hx hb dX10_append_23 rfl (lv_at hl 1 rfl) ?_
      refine va_get (D := (dC, dI)) (ci := 9) (v := .int (nI j)) (C := RX10) (T := TX10) (N := 7) hx hb hts hinX10 hown hK hP 0 rfl rfl 1 (by decide) (hts (.fieldLink RX10 13 "BondCalendars$Tape" "length" "I") (by decide +kernel)) (fun _ h9 => h9) hf_h0_1 dX10_append_24 ?_
      refine lv_iload_n hx hb dX10_append_27 rfl (lv_at hl 2 rfl) ?_
      refine lv_iload_n hx hb dX10_append_28 rfl (lv_at hl 0 rfl) ?_
      refine lv_ishr hx hb dX10_append_29 ?_
      refine lv_topi (fun x_3 _ => ?_)
      refine lv_i2b hx hb dX10_append_30 rfl ?_
      refine lv_topi (fun x_4 _ => ?_)
      refine va_bast hx hb hK hP hD hS 1 0 rfl rfl (vp_in_nI (by omega) (by decide)) dX10_append_31 (fun H locs hP hD hS => ?_)
      have hP : va_P (dC, dI) vwCl [(h0, .inr (9, fs_h0)), (ba, .inl (cB, 900, .inl (upd fb (nI j).toNatClampNeg (vp_nar .byte x_4))))] H := hP
      have hD : va_D A [(h0, .inr (9, fs_h0)), (ba, .inl (cB, 900, .inl (upd fb (nI j).toNatClampNeg (vp_nar .byte x_4))))] := hD
      generalize (upd fb (nI j).toNatClampNeg (vp_nar .byte x_4)) = f_5 at hP hD
      refine lv_aload_n hx hb dX10_append_32 rfl (lv_at hl 1 rfl) ?_
      refine lv_dup hx hb dX10_append_33 rfl ?_
      refine va_get (D := (dC, dI)) (ci := 9) (v := .int (nI j)) (C := RX10) (T := TX10) (N := 7) hx hb hts hinX10 hown hK hP 0 rfl rfl 1 (by decide) (hts (.fieldLink RX10 13 "BondCalendars$Tape" "length" "I") (by decide +kernel)) (fun _ h9 => h9) hf_h0_1 dX10_append_34 ?_
      refine lv_iconst (v := 1) hx hb dX10_append_37 (by decide) ?_
      refine lv_iadd hx hb dX10_append_38 ?_
      refine lv_topi (fun z_6 ez_6 => ?_)
      obtain rfl : z_6 = nI (j + 1) := ez_6.trans (nI_add j 1)
      refine va_put (D := (dC, dI)) (ci := 9) (v := .int (nI (j + 1))) (C := RX10) (T := TX10) (N := 7) hx hb hts hinX10 tyX10 tyX10_ok nmX10 hown hK hP hD hS 0 rfl rfl 1 (by decide) (hts (.fieldLink RX10 13 "BondCalendars$Tape" "length" "I") (by decide +kernel)) (fun _ h9 => h9) rfl (ty := .int) (by decide +kernel) rfl rfl (by rw [hn_h0]; decide) dX10_append_39 (fun H locs hP hD hS => ?_)
      have hP : va_P (dC, dI) vwCl [(h0, .inr (9, (fs_h0.set 1 (.int (nI (j + 1)))))), (ba, .inl (cB, 900, .inl f_5))] H := hP
      have hD : va_D A [(h0, .inr (9, (fs_h0.set 1 (.int (nI (j + 1)))))), (ba, .inl (cB, 900, .inl f_5))] := hD
      refine lv_iinc (v := 16) (lv' := [(2, .int 16), (0, .ref h0), (1, .int p0)]) hx hb dX10_append_42 hl (k := 0) rfl (by decide) (by decide) rfl (fun ls hl => ?_)
      refine lv_goto (tgt := 3) hx hb dX10_append_45 (by decide) ?_
      refine lv_iload_n hx hb dX10_append_3 rfl (lv_at hl 0 rfl) ?_
      refine lv_if_lt (tgt := 48) hx hb dX10_append_4 (by decide) (fun c_8 => ?_) (fun c_8 => ?_)
      · exact absurd c_8 (by decide)
      · refine lv_aload_n hx hb dX10_append_7 rfl (lv_at hl 1 rfl) ?_
        refine va_get (D := (dC, dI)) (ci := 9) (v := .int (nI (j + 1))) (C := RX10) (T := TX10) (N := 7) hx hb hts hinX10 hown hK hP 0 rfl rfl 1 (by decide) (hts (.fieldLink RX10 13 "BondCalendars$Tape" "length" "I") (by decide +kernel)) (fun _ h9 => h9) (List.getElem?_set_self (by rw [hn_h0]; decide)) dX10_append_8 ?_
        refine lv_aload_n hx hb dX10_append_11 rfl (lv_at hl 1 rfl) ?_
        refine va_get (D := (dC, dI)) (ci := 9) (v := .ref ba) (C := RX10) (T := TX10) (N := 7) hx hb hts hinX10 hown hK hP 0 rfl rfl 0 (by decide) (hts (.fieldLink RX10 9 "BondCalendars$Tape" "bytes" "[B") (by decide +kernel)) (fun _ h9 => h9) ((List.getElem?_set_ne (by decide)).trans hf_h0_0) dX10_append_12 ?_
        refine va_alen (v := 900) hx hb hK hP 1 0 rfl rfl rfl dX10_append_15 ?_
        refine lv_icmp_ge (tgt := 42) hx hb dX10_append_16 (by decide) (fun c_9 => ?_) (fun c_9 => ?_)
        · exact absurd c_9 (nI_ge (b := 900) (by omega) (by decide))
        · refine lv_aload_n hx hb dX10_append_19 rfl (lv_at hl 1 rfl) ?_
          refine va_get (D := (dC, dI)) (ci := 9) (v := .ref ba) (C := RX10) (T := TX10) (N := 7) hx hb hts hinX10 hown hK hP 0 rfl rfl 0 (by decide) (hts (.fieldLink RX10 9 "BondCalendars$Tape" "bytes" "[B") (by decide +kernel)) (fun _ h9 => h9) ((List.getElem?_set_ne (by decide)).trans hf_h0_0) dX10_append_20 ?_
          refine lv_aload_n hx hb dX10_append_23 rfl (lv_at hl 1 rfl) ?_
          refine va_get (D := (dC, dI)) (ci := 9) (v := .int (nI (j + 1))) (C := RX10) (T := TX10) (N := 7) hx hb hts hinX10 hown hK hP 0 rfl rfl 1 (by decide) (hts (.fieldLink RX10 13 "BondCalendars$Tape" "length" "I") (by decide +kernel)) (fun _ h9 => h9) (List.getElem?_set_self (by rw [hn_h0]; decide)) dX10_append_24 ?_
          refine lv_iload_n hx hb dX10_append_27 rfl (lv_at hl 2 rfl) ?_
          refine lv_iload_n hx hb dX10_append_28 rfl (lv_at hl 0 rfl) ?_
          refine lv_ishr hx hb dX10_append_29 ?_
          refine lv_topi (fun x_10 _ => ?_)
          refine lv_i2b hx hb dX10_append_30 rfl ?_
          refine lv_topi (fun x_11 _ => ?_)
          refine va_bast hx hb hK hP hD hS 1 0 rfl rfl (vp_in_nI (by omega) (by decide)) dX10_append_31 (fun H locs hP hD hS => ?_)
          have hP : va_P (dC, dI) vwCl [(h0, .inr (9, (fs_h0.set 1 (.int (nI (j + 1)))))), (ba, .inl (cB, 900, .inl (upd f_5 (nI (j + 1)).toNatClampNeg (vp_nar .byte x_11))))] H := hP
          have hD : va_D A [(h0, .inr (9, (fs_h0.set 1 (.int (nI (j + 1)))))), (ba, .inl (cB, 900, .inl (upd f_5 (nI (j + 1)).toNatClampNeg (vp_nar .byte x_11))))] := hD
          generalize (upd f_5 (nI (j + 1)).toNatClampNeg (vp_nar .byte x_11)) = f_12 at hP hD
          refine lv_aload_n hx hb dX10_append_32 rfl (lv_at hl 1 rfl) ?_
          refine lv_dup hx hb dX10_append_33 rfl ?_
          refine va_get (D := (dC, dI)) (ci := 9) (v := .int (nI (j + 1))) (C := RX10) (T := TX10) (N := 7) hx hb hts hinX10 hown hK hP 0 rfl rfl 1 (by decide) (hts (.fieldLink RX10 13 "BondCalendars$Tape" "length" "I") (by decide +kernel)) (fun _ h9 => h9) (List.getElem?_set_self (by rw [hn_h0]; decide)) dX10_append_34 ?_
          refine lv_iconst (v := 1) hx hb dX10_append_37 (by decide) ?_
          refine lv_iadd hx hb dX10_append_38 ?_
          refine lv_topi (fun z_13 ez_13 => ?_)
          obtain rfl : z_13 = nI (j + 1 + 1) := ez_13.trans (nI_add (j + 1) 1)
          refine va_put (D := (dC, dI)) (ci := 9) (v := .int (nI (j + 1 + 1))) (C := RX10) (T := TX10) (N := 7) hx hb hts hinX10 tyX10 tyX10_ok nmX10 hown hK hP hD hS 0 rfl rfl 1 (by decide) (hts (.fieldLink RX10 13 "BondCalendars$Tape" "length" "I") (by decide +kernel)) (fun _ h9 => h9) rfl (ty := .int) (by decide +kernel) rfl rfl (by rw [(List.length_set.trans hn_h0)]; decide) dX10_append_39 (fun H locs hP hD hS => ?_)
          rw [List.set_set] at hP hD
          have hP : va_P (dC, dI) vwCl [(h0, .inr (9, (fs_h0.set 1 (.int (nI (j + 1 + 1)))))), (ba, .inl (cB, 900, .inl f_12))] H := hP
          have hD : va_D A [(h0, .inr (9, (fs_h0.set 1 (.int (nI (j + 1 + 1)))))), (ba, .inl (cB, 900, .inl f_12))] := hD
          refine lv_iinc (v := 8) (lv' := [(2, .int 8), (0, .ref h0), (1, .int p0)]) hx hb dX10_append_42 hl (k := 0) rfl (by decide) (by decide) rfl (fun ls hl => ?_)
          refine lv_goto (tgt := 3) hx hb dX10_append_45 (by decide) ?_
          refine lv_iload_n hx hb dX10_append_3 rfl (lv_at hl 0 rfl) ?_
          refine lv_if_lt (tgt := 48) hx hb dX10_append_4 (by decide) (fun c_15 => ?_) (fun c_15 => ?_)
          · exact absurd c_15 (by decide)
          · refine lv_aload_n hx hb dX10_append_7 rfl (lv_at hl 1 rfl) ?_
            refine va_get (D := (dC, dI)) (ci := 9) (v := .int (nI (j + 1 + 1))) (C := RX10) (T := TX10) (N := 7) hx hb hts hinX10 hown hK hP 0 rfl rfl 1 (by decide) (hts (.fieldLink RX10 13 "BondCalendars$Tape" "length" "I") (by decide +kernel)) (fun _ h9 => h9) (List.getElem?_set_self (by rw [hn_h0]; decide)) dX10_append_8 ?_
            refine lv_aload_n hx hb dX10_append_11 rfl (lv_at hl 1 rfl) ?_
            refine va_get (D := (dC, dI)) (ci := 9) (v := .ref ba) (C := RX10) (T := TX10) (N := 7) hx hb hts hinX10 hown hK hP 0 rfl rfl 0 (by decide) (hts (.fieldLink RX10 9 "BondCalendars$Tape" "bytes" "[B") (by decide +kernel)) (fun _ h9 => h9) ((List.getElem?_set_ne (by decide)).trans hf_h0_0) dX10_append_12 ?_
            refine va_alen (v := 900) hx hb hK hP 1 0 rfl rfl rfl dX10_append_15 ?_
            refine lv_icmp_ge (tgt := 42) hx hb dX10_append_16 (by decide) (fun c_16 => ?_) (fun c_16 => ?_)
            · exact absurd c_16 (nI_ge (b := 900) (by omega) (by decide))
            · refine lv_aload_n hx hb dX10_append_19 rfl (lv_at hl 1 rfl) ?_
              refine va_get (D := (dC, dI)) (ci := 9) (v := .ref ba) (C := RX10) (T := TX10) (N := 7) hx hb hts hinX10 hown hK hP 0 rfl rfl 0 (by decide) (hts (.fieldLink RX10 9 "BondCalendars$Tape" "bytes" "[B") (by decide +kernel)) (fun _ h9 => h9) ((List.getElem?_set_ne (by decide)).trans hf_h0_0) dX10_append_20 ?_
              refine lv_aload_n hx hb dX10_append_23 rfl (lv_at hl 1 rfl) ?_
              refine va_get (D := (dC, dI)) (ci := 9) (v := .int (nI (j + 1 + 1))) (C := RX10) (T := TX10) (N := 7) hx hb hts hinX10 hown hK hP 0 rfl rfl 1 (by decide) (hts (.fieldLink RX10 13 "BondCalendars$Tape" "length" "I") (by decide +kernel)) (fun _ h9 => h9) (List.getElem?_set_self (by rw [hn_h0]; decide)) dX10_append_24 ?_
              refine lv_iload_n hx hb dX10_append_27 rfl (lv_at hl 2 rfl) ?_
              refine lv_iload_n hx hb dX10_append_28 rfl (lv_at hl 0 rfl) ?_
              refine lv_ishr hx hb dX10_append_29 ?_
              refine lv_topi (fun x_17 _ => ?_)
              refine lv_i2b hx hb dX10_append_30 rfl ?_
              refine lv_topi (fun x_18 _ => ?_)
              refine va_bast hx hb hK hP hD hS 1 0 rfl rfl (vp_in_nI (by omega) (by decide)) dX10_append_31 (fun H locs hP hD hS => ?_)
              have hP : va_P (dC, dI) vwCl [(h0, .inr (9, (fs_h0.set 1 (.int (nI (j + 1 + 1)))))), (ba, .inl (cB, 900, .inl (upd f_12 (nI (j + 1 + 1)).toNatClampNeg (vp_nar .byte x_18))))] H := hP
              have hD : va_D A [(h0, .inr (9, (fs_h0.set 1 (.int (nI (j + 1 + 1)))))), (ba, .inl (cB, 900, .inl (upd f_12 (nI (j + 1 + 1)).toNatClampNeg (vp_nar .byte x_18))))] := hD
              generalize (upd f_12 (nI (j + 1 + 1)).toNatClampNeg (vp_nar .byte x_18)) = f_19 at hP hD
              refine lv_aload_n hx hb dX10_append_32 rfl (lv_at hl 1 rfl) ?_
              refine lv_dup hx hb dX10_append_33 rfl ?_
              refine va_get (D := (dC, dI)) (ci := 9) (v := .int (nI (j + 1 + 1))) (C := RX10) (T := TX10) (N := 7) hx hb hts hinX10 hown hK hP 0 rfl rfl 1 (by decide) (hts (.fieldLink RX10 13 "BondCalendars$Tape" "length" "I") (by decide +kernel)) (fun _ h9 => h9) (List.getElem?_set_self (by rw [hn_h0]; decide)) dX10_append_34 ?_
              refine lv_iconst (v := 1) hx hb dX10_append_37 (by decide) ?_
              refine lv_iadd hx hb dX10_append_38 ?_
              refine lv_topi (fun z_20 ez_20 => ?_)
              obtain rfl : z_20 = nI (j + 1 + 1 + 1) := ez_20.trans (nI_add (j + 1 + 1) 1)
              refine va_put (D := (dC, dI)) (ci := 9) (v := .int (nI (j + 1 + 1 + 1))) (C := RX10) (T := TX10) (N := 7) hx hb hts hinX10 tyX10 tyX10_ok nmX10 hown hK hP hD hS 0 rfl rfl 1 (by decide) (hts (.fieldLink RX10 13 "BondCalendars$Tape" "length" "I") (by decide +kernel)) (fun _ h9 => h9) rfl (ty := .int) (by decide +kernel) rfl rfl (by rw [(List.length_set.trans hn_h0)]; decide) dX10_append_39 (fun H locs hP hD hS => ?_)
              rw [List.set_set] at hP hD
              have hP : va_P (dC, dI) vwCl [(h0, .inr (9, (fs_h0.set 1 (.int (nI (j + 1 + 1 + 1)))))), (ba, .inl (cB, 900, .inl f_19))] H := hP
              have hD : va_D A [(h0, .inr (9, (fs_h0.set 1 (.int (nI (j + 1 + 1 + 1)))))), (ba, .inl (cB, 900, .inl f_19))] := hD
              refine lv_iinc (v := 0) (lv' := [(2, .int 0), (0, .ref h0), (1, .int p0)]) hx hb dX10_append_42 hl (k := 0) rfl (by decide) (by decide) rfl (fun ls hl => ?_)
              refine lv_goto (tgt := 3) hx hb dX10_append_45 (by decide) ?_
              refine lv_iload_n hx hb dX10_append_3 rfl (lv_at hl 0 rfl) ?_
              refine lv_if_lt (tgt := 48) hx hb dX10_append_4 (by decide) (fun c_22 => ?_) (fun c_22 => ?_)
              · exact absurd c_22 (by decide)
              · refine lv_aload_n hx hb dX10_append_7 rfl (lv_at hl 1 rfl) ?_
                refine va_get (D := (dC, dI)) (ci := 9) (v := .int (nI (j + 1 + 1 + 1))) (C := RX10) (T := TX10) (N := 7) hx hb hts hinX10 hown hK hP 0 rfl rfl 1 (by decide) (hts (.fieldLink RX10 13 "BondCalendars$Tape" "length" "I") (by decide +kernel)) (fun _ h9 => h9) (List.getElem?_set_self (by rw [hn_h0]; decide)) dX10_append_8 ?_
                refine lv_aload_n hx hb dX10_append_11 rfl (lv_at hl 1 rfl) ?_
                refine va_get (D := (dC, dI)) (ci := 9) (v := .ref ba) (C := RX10) (T := TX10) (N := 7) hx hb hts hinX10 hown hK hP 0 rfl rfl 0 (by decide) (hts (.fieldLink RX10 9 "BondCalendars$Tape" "bytes" "[B") (by decide +kernel)) (fun _ h9 => h9) ((List.getElem?_set_ne (by decide)).trans hf_h0_0) dX10_append_12 ?_
                refine va_alen (v := 900) hx hb hK hP 1 0 rfl rfl rfl dX10_append_15 ?_
                refine lv_icmp_ge (tgt := 42) hx hb dX10_append_16 (by decide) (fun c_23 => ?_) (fun c_23 => ?_)
                · exact absurd c_23 (nI_ge (b := 900) (by omega) (by decide))
                · refine lv_aload_n hx hb dX10_append_19 rfl (lv_at hl 1 rfl) ?_
                  refine va_get (D := (dC, dI)) (ci := 9) (v := .ref ba) (C := RX10) (T := TX10) (N := 7) hx hb hts hinX10 hown hK hP 0 rfl rfl 0 (by decide) (hts (.fieldLink RX10 9 "BondCalendars$Tape" "bytes" "[B") (by decide +kernel)) (fun _ h9 => h9) ((List.getElem?_set_ne (by decide)).trans hf_h0_0) dX10_append_20 ?_
                  refine lv_aload_n hx hb dX10_append_23 rfl (lv_at hl 1 rfl) ?_
                  refine va_get (D := (dC, dI)) (ci := 9) (v := .int (nI (j + 1 + 1 + 1))) (C := RX10) (T := TX10) (N := 7) hx hb hts hinX10 hown hK hP 0 rfl rfl 1 (by decide) (hts (.fieldLink RX10 13 "BondCalendars$Tape" "length" "I") (by decide +kernel)) (fun _ h9 => h9) (List.getElem?_set_self (by rw [hn_h0]; decide)) dX10_append_24 ?_
                  refine lv_iload_n hx hb dX10_append_27 rfl (lv_at hl 2 rfl) ?_
                  refine lv_iload_n hx hb dX10_append_28 rfl (lv_at hl 0 rfl) ?_
                  refine lv_ishr hx hb dX10_append_29 ?_
                  refine lv_topi (fun x_24 _ => ?_)
                  refine lv_i2b hx hb dX10_append_30 rfl ?_
                  refine lv_topi (fun x_25 _ => ?_)
                  refine va_bast hx hb hK hP hD hS 1 0 rfl rfl (vp_in_nI (by omega) (by decide)) dX10_append_31 (fun H locs hP hD hS => ?_)
                  have hP : va_P (dC, dI) vwCl [(h0, .inr (9, (fs_h0.set 1 (.int (nI (j + 1 + 1 + 1)))))), (ba, .inl (cB, 900, .inl (upd f_19 (nI (j + 1 + 1 + 1)).toNatClampNeg (vp_nar .byte x_25))))] H := hP
                  have hD : va_D A [(h0, .inr (9, (fs_h0.set 1 (.int (nI (j + 1 + 1 + 1)))))), (ba, .inl (cB, 900, .inl (upd f_19 (nI (j + 1 + 1 + 1)).toNatClampNeg (vp_nar .byte x_25))))] := hD
                  generalize (upd f_19 (nI (j + 1 + 1 + 1)).toNatClampNeg (vp_nar .byte x_25)) = f_26 at hP hD
                  refine lv_aload_n hx hb dX10_append_32 rfl (lv_at hl 1 rfl) ?_
                  refine lv_dup hx hb dX10_append_33 rfl ?_
                  refine va_get (D := (dC, dI)) (ci := 9) (v := .int (nI (j + 1 + 1 + 1))) (C := RX10) (T := TX10) (N := 7) hx hb hts hinX10 hown hK hP 0 rfl rfl 1 (by decide) (hts (.fieldLink RX10 13 "BondCalendars$Tape" "length" "I") (by decide +kernel)) (fun _ h9 => h9) (List.getElem?_set_self (by rw [hn_h0]; decide)) dX10_append_34 ?_
                  refine lv_iconst (v := 1) hx hb dX10_append_37 (by decide) ?_
                  refine lv_iadd hx hb dX10_append_38 ?_
                  refine lv_topi (fun z_27 ez_27 => ?_)
                  obtain rfl : z_27 = nI (j + 1 + 1 + 1 + 1) := ez_27.trans (nI_add (j + 1 + 1 + 1) 1)
                  refine va_put (D := (dC, dI)) (ci := 9) (v := .int (nI (j + 1 + 1 + 1 + 1))) (C := RX10) (T := TX10) (N := 7) hx hb hts hinX10 tyX10 tyX10_ok nmX10 hown hK hP hD hS 0 rfl rfl 1 (by decide) (hts (.fieldLink RX10 13 "BondCalendars$Tape" "length" "I") (by decide +kernel)) (fun _ h9 => h9) rfl (ty := .int) (by decide +kernel) rfl rfl (by rw [(List.length_set.trans hn_h0)]; decide) dX10_append_39 (fun H locs hP hD hS => ?_)
                  rw [List.set_set] at hP hD
                  have hP : va_P (dC, dI) vwCl [(h0, .inr (9, (fs_h0.set 1 (.int (nI (j + 1 + 1 + 1 + 1)))))), (ba, .inl (cB, 900, .inl f_26))] H := hP
                  have hD : va_D A [(h0, .inr (9, (fs_h0.set 1 (.int (nI (j + 1 + 1 + 1 + 1)))))), (ba, .inl (cB, 900, .inl f_26))] := hD
                  refine lv_iinc (v := (-8)) (lv' := [(2, .int (-8)), (0, .ref h0), (1, .int p0)]) hx hb dX10_append_42 hl (k := 0) rfl (by decide) (by decide) rfl (fun ls hl => ?_)
                  refine lv_goto (tgt := 3) hx hb dX10_append_45 (by decide) ?_
                  refine lv_iload_n hx hb dX10_append_3 rfl (lv_at hl 0 rfl) ?_
                  refine lv_if_lt (tgt := 48) hx hb dX10_append_4 (by decide) (fun c_29 => ?_) (fun c_29 => ?_)
                  · have hpost : True := trivial
                    have hP9 := hP.sub (ws' := [(h0, .inr (9, (fs_h0.set 1 (.int (nI (j + 1 + 1 + 1 + 1)))))), (ba, .inl (cB, 900, .inl f_26))]) [0, 1] rfl
                    have hD9 := hD.sub (ws' := [(h0, .inr (9, (fs_h0.set 1 (.int (nI (j + 1 + 1 + 1 + 1)))))), (ba, .inl (cB, 900, .inl f_26))]) [0, 1] (by decide) rfl
                    have hK9 := hK.sub (tys' := []) [] rfl
                    exact W.vret hx hb hr (fun t ht hW => ⟨⟨f_26, rfl, hpost, by rw [ht]; exact hP9, va_K.moved hW.alike hK9, hD9⟩, hS.F ht⟩) hS.2.2 dX10_append_48
                  · exact absurd (by decide) c_29
set_option maxHeartbeats 4000000 in
set_option maxRecDepth 100000 in
theorem k_X11_feed (l : Launch) (dC : Nat → ClassId) (dI : Nat → Nat → Nat) (sz : Nat) (h0 : Nat) (fs_h0 : List Value) (rd : Nat) (fs_rd : List Value) (tp : Nat) (fs_tp : List Value) (ba : Nat) (cB : ClassId) (fb : Nat → Int32) (p0 : Int32) (p1 : Int32) (p2 : Int32) (p3 : Int32) (p4 : Int32) (hn_h0 : fs_h0.length = 15) (hf_h0_0 : fs_h0[0]? = some (.ref rd)) (hn_rd : fs_rd.length = 5) (hf_rd_0 : fs_rd[0]? = some (.ref tp)) (hn_tp : fs_tp.length = 7) (hf_tp_0 : fs_tp[0]? = some (.ref ba)) (hf_tp_1 : fs_tp[1]? = some (.int 0)) : Met l yX11_feed wsX11_feed ({ frames := 1, cells := 0, slots := 0, locals := 22 }) (va_Pc [.ref h0, .int p0, .int p1, .int p2, .int p3, .int p4] (fun U => U.heap.size = sz ∧ va_P (dC, dI) vwCl [(h0, .inr (10, fs_h0)), (rd, .inr (6, fs_rd)), (tp, .inr (9, fs_tp)), (ba, .inl (cB, 900, .inl fb))] U.heap ∧ va_K (dC, dI) vwCl [(cB, .byte)] U ∧ va_D (fun _ => True) [(h0, .inr (10, fs_h0)), (rd, .inr (6, fs_rd)), (tp, .inr (9, fs_tp)), (ba, .inl (cB, 900, .inl fb))])) (va_Qi (fun (r : Int32) (_ : Unit) => r = 20) (fun _ t => va_P (dC, dI) vwCl [] t.heap ∧ va_K (dC, dI) vwCl [] t ∧ va_D (va_A [(h0, .inr (10, fs_h0)), (rd, .inr (6, fs_rd)), (tp, .inr (9, fs_tp)), (ba, .inl (cB, 900, .inl fb))] sz) []) (va_A [(h0, .inr (10, fs_h0)), (rd, .inr (6, fs_rd)), (tp, .inr (9, fs_tp)), (ba, .inl (cB, 900, .inl fb))] sz)) 0 0 (va_A [(h0, .inr (10, fs_h0)), (rd, .inr (6, fs_rd)), (tp, .inr (9, fs_tp)), (ba, .inl (cB, 900, .inl fb))] sz) := by
  refine Met.ofW (cc := cX11_feed) (maxL := 7) (ret := (some .int)) (by decide) rfl ?_
  intro p e s m args below meth c s₁ B hml hv
  obtain ⟨rfl, hsz, hP, hK, hD0⟩ := hv
  have hx := B.exec
  have hb := B.bytes
  have hr := B.returns
  have hts := atoms_spec (ws := wsX11_feed) B.pre
  have hown : s.vm.findClass RX11 = some m.cls := findClass_of_methodNamed B.named
  have hlocks := B.notSynchronized
  have hinX11 : ∀ w ∈ u_ws RX11 TX11 15, w ∈ wsX11_feed := (fun _ h9 => List.mem_cons_of_mem _ (List.mem_append_left _ (List.mem_append_left _ (List.mem_append_right _ h9))))
  have hinX7 : ∀ w ∈ u_ws RX7 TX7 5, w ∈ wsX11_feed := (fun _ h9 => List.mem_cons_of_mem _ (List.mem_append_left _ (List.mem_append_right _ h9)))
  have hinX10 : ∀ w ∈ u_ws RX10 TX10 7, w ∈ wsX11_feed := (fun _ h9 => List.mem_cons_of_mem _ (List.mem_append_right _ h9))
  subst hsz
  have hD := hD0.self (sz := s.heap.size)
  generalize hAe : va_A [(h0, .inr (10, fs_h0)), (rd, .inr (6, fs_rd)), (tp, .inr (9, fs_tp)), (ba, .inl (cB, 900, .inl fb))] s.heap.size = A at hD ⊢
  have hA : ∀ q : Nat, s.heap.size ≤ q → A q := fun q h => by rw [← hAe]; exact Or.inr h
  have hS : va_S A s.heap s.heap [] := va_S.rf
  have hP : va_P (dC, dI) vwCl [(h0, .inr (10, fs_h0)), (rd, .inr (6, fs_rd)), (tp, .inr (9, fs_tp)), (ba, .inl (cB, 900, .inl fb))] s.heap := hP
  have hl := lv_entry ([.ref h0, .int p0, .int p1, .int p2, .int p3, .int p4]) (n := 7) (Nat.le_of_ble_eq_true rfl)
  rw [lg_entry_eq]
  generalize (lg_sl ([.ref h0, .int p0, .int p1, .int p2, .int p3, .int p4]) ++ List.replicate (7 - (lg_sl ([.ref h0, .int p0, .int p1, .int p2, .int p3, .int p4])).length) Slot.unset).toArray = ls at hl ⊢
  have hl : lv_has ls 7 [(0, .ref h0), (1, .int p0), (2, .int p1), (3, .int p2), (4, .int p3), (5, .int p4)] := hl
  refine lv_aload_n hx hb dX11_feed_0 rfl (lv_at hl 0 rfl) ?_
  refine va_get (D := (dC, dI)) (ci := 10) (v := .ref rd) (C := RX11) (T := TX11) (N := 15) hx hb hts hinX11 hown hK hP 0 rfl rfl 0 (by decide) (hts (.fieldLink RX11 10 "BondCalendars" "reader" "LBondCalendars$Reader;") (by decide +kernel)) (fun _ h9 => h9) hf_h0_0 dX11_feed_1 ?_
  refine va_get (D := (dC, dI)) (ci := 6) (v := .ref tp) (C := RX7) (T := TX7) (N := 5) hx hb hts hinX7 hown hK hP 1 rfl rfl 0 (by decide) (hts (.fieldLink RX11 84 "BondCalendars$Reader" "tape" "LBondCalendars$Tape;") (by decide +kernel)) (fun _ h9 => h9) hf_rd_0 dX11_feed_4 ?_
  refine lv_astore (lv' := [(6, .ref tp), (0, .ref h0), (1, .int p0), (2, .int p1), (3, .int p2), (4, .int p3), (5, .int p4)]) hx hb dX11_feed_7 hl (by decide) rfl (fun ls hl => ?_)
  refine lv_aload hx hb dX11_feed_9 (lv_at hl 0 rfl) ?_
  refine va_get (D := (dC, dI)) (ci := 9) (v := .int 0) (C := RX10) (T := TX10) (N := 7) hx hb hts hinX10 hown hK hP 2 rfl rfl 1 (by decide) (hts (.fieldLink RX11 88 "BondCalendars$Tape" "length" "I") (by decide +kernel)) (fun _ h9 => h9) hf_tp_1 dX11_feed_11 ?_
  refine lv_sipush (v := 880) hx hb dX11_feed_14 (by decide) ?_
  refine lv_icmp_le (tgt := 22) hx hb dX11_feed_17 (by decide) (fun c_1 => ?_) (fun c_1 => ?_)
  · refine lv_aload hx hb dX11_feed_22 (lv_at hl 0 rfl) ?_
    refine lv_iload_n hx hb dX11_feed_24 rfl (lv_at hl 2 rfl) ?_
    have hPc := hP.sub (ws' := [(tp, .inr (9, fs_tp)), (ba, .inl (cB, 900, .inl fb))]) [2, 3] rfl
    have hDc := hD.sub (ws' := [(tp, .inr (9, fs_tp)), (ba, .inl (cB, 900, .inl fb))]) [2, 3] (by decide) rfl
    have hKc := hK.sub (tys' := [(cB, .byte)]) [0] rfl
    have hFc := va_free (wc := [(tp, .inr (9, fs_tp)), (ba, .inl (cB, 900, .inl fb))]) hD hS hA [2, 3] rfl
    refine va_callv (va_runV (As := [.int p0]) (rest := []) ⟨hx, hb, hml, hown, hts⟩ (k_X10_append l dC dI s.heap.size tp fs_tp ba cB fb 0 p0 hn_tp hf_tp_0 hf_tp_1 (by decide)) (cwV 1 hts gX11_feed_X10_append rfl rfl rfl (by decide +kernel) ⟨Nat.le_of_ble_eq_true rfl, Nat.le_of_ble_eq_true rfl⟩) ⟨fun a U g mk q => by obtain ⟨q0, q1, qP, qK, qD⟩ := q; exact ⟨q0, q1, qP, va_K.moved (u := U) (U := U.calling g mk a) (Vm.Alike.refl U.vm) qK, qD⟩, va_recv hKc hPc (ci := 9) (q0 := 0) rfl rfl, fun U hU hW => ⟨rfl, by rw [hU], by rw [hU]; exact hPc, va_K.moved hW.alike hKc, hDc.weaken (fun _ _ _ _ => trivial)⟩⟩ rfl rfl hl.1 rfl (lv_room (Nat.le_of_ble_eq_true rfl)) dX11_feed_25 ⟨Nat.le_of_ble_eq_true rfl, Nat.le_of_ble_eq_true rfl⟩) hS (fun q _ h => hFc q h) hFc (fun u t H1 locs ht hvm hw hB hz1 hk1 hS => ?_)
    obtain ⟨f_3, rfl⟩ : ∃ z, z = u := ⟨_, rfl⟩
    obtain ⟨hP1, hK1, hD1⟩ := hB
    rw [ht] at hP1
    have hK1 := va_K.moved hvm.symm hK1
    obtain ⟨hP, hD⟩ := va_join (wr := [(h0, .inr (10, fs_h0)), (rd, .inr (6, fs_rd))]) (w1 := [(tp, .inr (9, (fs_tp.set 1 (.int (nI (0 + 4)))))), (ba, .inl (cB, 900, .inl f_3))]) hP hD [2, 3] [0, 1] rfl rfl (by decide) (by decide) hk1 hFc hP1 hD1
    generalize H1 = H at hP hS ⊢
    have hP : va_P (dC, dI) vwCl [(h0, .inr (10, fs_h0)), (rd, .inr (6, fs_rd)), (tp, .inr (9, (fs_tp.set 1 (.int (nI (0 + 4)))))), (ba, .inl (cB, 900, .inl f_3))] H := hP
    have hD : va_D A [(h0, .inr (10, fs_h0)), (rd, .inr (6, fs_rd)), (tp, .inr (9, (fs_tp.set 1 (.int (nI (0 + 4)))))), (ba, .inl (cB, 900, .inl f_3))] := hD
    refine lv_aload hx hb dX11_feed_28 (lv_at hl 0 rfl) ?_
    refine lv_iload_n hx hb dX11_feed_30 rfl (lv_at hl 3 rfl) ?_
    have hPc := hP.sub (ws' := [(tp, .inr (9, (fs_tp.set 1 (.int (nI (0 + 4)))))), (ba, .inl (cB, 900, .inl f_3))]) [2, 3] rfl
    have hDc := hD.sub (ws' := [(tp, .inr (9, (fs_tp.set 1 (.int (nI (0 + 4)))))), (ba, .inl (cB, 900, .inl f_3))]) [2, 3] (by decide) rfl
    have hKc := hK.sub (tys' := [(cB, .byte)]) [0] rfl
    have hFc := va_free (wc := [(tp, .inr (9, (fs_tp.set 1 (.int (nI (0 + 4)))))), (ba, .inl (cB, 900, .inl f_3))]) hD hS hA [2, 3] rfl
    refine va_callv (va_runV (As := [.int p1]) (rest := []) ⟨hx, hb, hml, hown, hts⟩ (k_X10_append l dC dI H.size tp (fs_tp.set 1 (.int (nI (0 + 4)))) ba cB f_3 (0 + 4) p1 (List.length_set.trans hn_tp) ((List.getElem?_set_ne (by decide)).trans hf_tp_0) (List.getElem?_set_self (by rw [hn_tp]; decide)) (by decide)) (cwV 1 hts gX11_feed_X10_append rfl rfl rfl (by decide +kernel) ⟨Nat.le_of_ble_eq_true rfl, Nat.le_of_ble_eq_true rfl⟩) ⟨fun a U g mk q => by obtain ⟨q0, q1, qP, qK, qD⟩ := q; exact ⟨q0, q1, qP, va_K.moved (u := U) (U := U.calling g mk a) (Vm.Alike.refl U.vm) qK, qD⟩, va_recv hKc hPc (ci := 9) (q0 := 0) rfl rfl, fun U hU hW => ⟨rfl, by rw [hU], by rw [hU]; exact hPc, va_K.moved hW.alike hKc, hDc.weaken (fun _ _ _ _ => trivial)⟩⟩ rfl rfl hl.1 rfl (lv_room (Nat.le_of_ble_eq_true rfl)) dX11_feed_31 ⟨Nat.le_of_ble_eq_true rfl, Nat.le_of_ble_eq_true rfl⟩) hS (fun q _ h => hFc q h) hFc (fun u t H1 locs ht hvm hw hB hz1 hk1 hS => ?_)
    obtain ⟨f_5, rfl⟩ : ∃ z, z = u := ⟨_, rfl⟩
    obtain ⟨hP1, hK1, hD1⟩ := hB
    rw [ht] at hP1
    have hK1 := va_K.moved hvm.symm hK1
    obtain ⟨hP, hD⟩ := va_join (wr := [(h0, .inr (10, fs_h0)), (rd, .inr (6, fs_rd))]) (w1 := [(tp, .inr (9, ((fs_tp.set 1 (.int (nI (0 + 4)))).set 1 (.int (nI ((0 + 4) + 4)))))), (ba, .inl (cB, 900, .inl f_5))]) hP hD [2, 3] [0, 1] rfl rfl (by decide) (by decide) hk1 hFc hP1 hD1
    generalize H1 = H at hP hS ⊢
    have hP : va_P (dC, dI) vwCl [(h0, .inr (10, fs_h0)), (rd, .inr (6, fs_rd)), (tp, .inr (9, ((fs_tp.set 1 (.int (nI (0 + 4)))).set 1 (.int (nI ((0 + 4) + 4)))))), (ba, .inl (cB, 900, .inl f_5))] H := hP
    have hD : va_D A [(h0, .inr (10, fs_h0)), (rd, .inr (6, fs_rd)), (tp, .inr (9, ((fs_tp.set 1 (.int (nI (0 + 4)))).set 1 (.int (nI ((0 + 4) + 4)))))), (ba, .inl (cB, 900, .inl f_5))] := hD
    refine lv_aload hx hb dX11_feed_34 (lv_at hl 0 rfl) ?_
    refine lv_iload_n hx hb dX11_feed_36 rfl (lv_at hl 4 rfl) ?_
    have hPc := hP.sub (ws' := [(tp, .inr (9, ((fs_tp.set 1 (.int (nI (0 + 4)))).set 1 (.int (nI ((0 + 4) + 4)))))), (ba, .inl (cB, 900, .inl f_5))]) [2, 3] rfl
    have hDc := hD.sub (ws' := [(tp, .inr (9, ((fs_tp.set 1 (.int (nI (0 + 4)))).set 1 (.int (nI ((0 + 4) + 4)))))), (ba, .inl (cB, 900, .inl f_5))]) [2, 3] (by decide) rfl
    have hKc := hK.sub (tys' := [(cB, .byte)]) [0] rfl
    have hFc := va_free (wc := [(tp, .inr (9, ((fs_tp.set 1 (.int (nI (0 + 4)))).set 1 (.int (nI ((0 + 4) + 4)))))), (ba, .inl (cB, 900, .inl f_5))]) hD hS hA [2, 3] rfl
    refine va_callv (va_runV (As := [.int p2]) (rest := []) ⟨hx, hb, hml, hown, hts⟩ (k_X10_append l dC dI H.size tp ((fs_tp.set 1 (.int (nI (0 + 4)))).set 1 (.int (nI ((0 + 4) + 4)))) ba cB f_5 ((0 + 4) + 4) p2 (List.length_set.trans (List.length_set.trans hn_tp)) ((List.getElem?_set_ne (by decide)).trans ((List.getElem?_set_ne (by decide)).trans hf_tp_0)) (List.getElem?_set_self (by rw [(List.length_set.trans hn_tp)]; decide)) (by decide)) (cwV 1 hts gX11_feed_X10_append rfl rfl rfl (by decide +kernel) ⟨Nat.le_of_ble_eq_true rfl, Nat.le_of_ble_eq_true rfl⟩) ⟨fun a U g mk q => by obtain ⟨q0, q1, qP, qK, qD⟩ := q; exact ⟨q0, q1, qP, va_K.moved (u := U) (U := U.calling g mk a) (Vm.Alike.refl U.vm) qK, qD⟩, va_recv hKc hPc (ci := 9) (q0 := 0) rfl rfl, fun U hU hW => ⟨rfl, by rw [hU], by rw [hU]; exact hPc, va_K.moved hW.alike hKc, hDc.weaken (fun _ _ _ _ => trivial)⟩⟩ rfl rfl hl.1 rfl (lv_room (Nat.le_of_ble_eq_true rfl)) dX11_feed_37 ⟨Nat.le_of_ble_eq_true rfl, Nat.le_of_ble_eq_true rfl⟩) hS (fun q _ h => hFc q h) hFc (fun u t H1 locs ht hvm hw hB hz1 hk1 hS => ?_)
    obtain ⟨f_7, rfl⟩ : ∃ z, z = u := ⟨_, rfl⟩
    obtain ⟨hP1, hK1, hD1⟩ := hB
    rw [ht] at hP1
    have hK1 := va_K.moved hvm.symm hK1
    obtain ⟨hP, hD⟩ := va_join (wr := [(h0, .inr (10, fs_h0)), (rd, .inr (6, fs_rd))]) (w1 := [(tp, .inr (9, (((fs_tp.set 1 (.int (nI (0 + 4)))).set 1 (.int (nI ((0 + 4) + 4)))).set 1 (.int (nI (((0 + 4) + 4) + 4)))))), (ba, .inl (cB, 900, .inl f_7))]) hP hD [2, 3] [0, 1] rfl rfl (by decide) (by decide) hk1 hFc hP1 hD1
    generalize H1 = H at hP hS ⊢
    have hP : va_P (dC, dI) vwCl [(h0, .inr (10, fs_h0)), (rd, .inr (6, fs_rd)), (tp, .inr (9, (((fs_tp.set 1 (.int (nI (0 + 4)))).set 1 (.int (nI ((0 + 4) + 4)))).set 1 (.int (nI (((0 + 4) + 4) + 4)))))), (ba, .inl (cB, 900, .inl f_7))] H := hP
    have hD : va_D A [(h0, .inr (10, fs_h0)), (rd, .inr (6, fs_rd)), (tp, .inr (9, (((fs_tp.set 1 (.int (nI (0 + 4)))).set 1 (.int (nI ((0 + 4) + 4)))).set 1 (.int (nI (((0 + 4) + 4) + 4)))))), (ba, .inl (cB, 900, .inl f_7))] := hD
    refine lv_aload hx hb dX11_feed_40 (lv_at hl 0 rfl) ?_
    refine lv_iload hx hb dX11_feed_42 (lv_at hl 5 rfl) ?_
    have hPc := hP.sub (ws' := [(tp, .inr (9, (((fs_tp.set 1 (.int (nI (0 + 4)))).set 1 (.int (nI ((0 + 4) + 4)))).set 1 (.int (nI (((0 + 4) + 4) + 4)))))), (ba, .inl (cB, 900, .inl f_7))]) [2, 3] rfl
    have hDc := hD.sub (ws' := [(tp, .inr (9, (((fs_tp.set 1 (.int (nI (0 + 4)))).set 1 (.int (nI ((0 + 4) + 4)))).set 1 (.int (nI (((0 + 4) + 4) + 4)))))), (ba, .inl (cB, 900, .inl f_7))]) [2, 3] (by decide) rfl
    have hKc := hK.sub (tys' := [(cB, .byte)]) [0] rfl
    have hFc := va_free (wc := [(tp, .inr (9, (((fs_tp.set 1 (.int (nI (0 + 4)))).set 1 (.int (nI ((0 + 4) + 4)))).set 1 (.int (nI (((0 + 4) + 4) + 4)))))), (ba, .inl (cB, 900, .inl f_7))]) hD hS hA [2, 3] rfl
    refine va_callv (va_runV (As := [.int p3]) (rest := []) ⟨hx, hb, hml, hown, hts⟩ (k_X10_append l dC dI H.size tp (((fs_tp.set 1 (.int (nI (0 + 4)))).set 1 (.int (nI ((0 + 4) + 4)))).set 1 (.int (nI (((0 + 4) + 4) + 4)))) ba cB f_7 (((0 + 4) + 4) + 4) p3 (List.length_set.trans (List.length_set.trans (List.length_set.trans hn_tp))) ((List.getElem?_set_ne (by decide)).trans ((List.getElem?_set_ne (by decide)).trans ((List.getElem?_set_ne (by decide)).trans hf_tp_0))) (List.getElem?_set_self (by rw [(List.length_set.trans (List.length_set.trans hn_tp))]; decide)) (by decide)) (cwV 1 hts gX11_feed_X10_append rfl rfl rfl (by decide +kernel) ⟨Nat.le_of_ble_eq_true rfl, Nat.le_of_ble_eq_true rfl⟩) ⟨fun a U g mk q => by obtain ⟨q0, q1, qP, qK, qD⟩ := q; exact ⟨q0, q1, qP, va_K.moved (u := U) (U := U.calling g mk a) (Vm.Alike.refl U.vm) qK, qD⟩, va_recv hKc hPc (ci := 9) (q0 := 0) rfl rfl, fun U hU hW => ⟨rfl, by rw [hU], by rw [hU]; exact hPc, va_K.moved hW.alike hKc, hDc.weaken (fun _ _ _ _ => trivial)⟩⟩ rfl rfl hl.1 rfl (lv_room (Nat.le_of_ble_eq_true rfl)) dX11_feed_44 ⟨Nat.le_of_ble_eq_true rfl, Nat.le_of_ble_eq_true rfl⟩) hS (fun q _ h => hFc q h) hFc (fun u t H1 locs ht hvm hw hB hz1 hk1 hS => ?_)
    obtain ⟨f_9, rfl⟩ : ∃ z, z = u := ⟨_, rfl⟩
    obtain ⟨hP1, hK1, hD1⟩ := hB
    rw [ht] at hP1
    have hK1 := va_K.moved hvm.symm hK1
    obtain ⟨hP, hD⟩ := va_join (wr := [(h0, .inr (10, fs_h0)), (rd, .inr (6, fs_rd))]) (w1 := [(tp, .inr (9, ((((fs_tp.set 1 (.int (nI (0 + 4)))).set 1 (.int (nI ((0 + 4) + 4)))).set 1 (.int (nI (((0 + 4) + 4) + 4)))).set 1 (.int (nI ((((0 + 4) + 4) + 4) + 4)))))), (ba, .inl (cB, 900, .inl f_9))]) hP hD [2, 3] [0, 1] rfl rfl (by decide) (by decide) hk1 hFc hP1 hD1
    generalize H1 = H at hP hS ⊢
    have hP : va_P (dC, dI) vwCl [(h0, .inr (10, fs_h0)), (rd, .inr (6, fs_rd)), (tp, .inr (9, ((((fs_tp.set 1 (.int (nI (0 + 4)))).set 1 (.int (nI ((0 + 4) + 4)))).set 1 (.int (nI (((0 + 4) + 4) + 4)))).set 1 (.int (nI ((((0 + 4) + 4) + 4) + 4)))))), (ba, .inl (cB, 900, .inl f_9))] H := hP
    have hD : va_D A [(h0, .inr (10, fs_h0)), (rd, .inr (6, fs_rd)), (tp, .inr (9, ((((fs_tp.set 1 (.int (nI (0 + 4)))).set 1 (.int (nI ((0 + 4) + 4)))).set 1 (.int (nI (((0 + 4) + 4) + 4)))).set 1 (.int (nI ((((0 + 4) + 4) + 4) + 4)))))), (ba, .inl (cB, 900, .inl f_9))] := hD
    refine lv_aload hx hb dX11_feed_47 (lv_at hl 0 rfl) ?_
    refine lv_iload hx hb dX11_feed_49 (lv_at hl 6 rfl) ?_
    have hPc := hP.sub (ws' := [(tp, .inr (9, ((((fs_tp.set 1 (.int (nI (0 + 4)))).set 1 (.int (nI ((0 + 4) + 4)))).set 1 (.int (nI (((0 + 4) + 4) + 4)))).set 1 (.int (nI ((((0 + 4) + 4) + 4) + 4)))))), (ba, .inl (cB, 900, .inl f_9))]) [2, 3] rfl
    have hDc := hD.sub (ws' := [(tp, .inr (9, ((((fs_tp.set 1 (.int (nI (0 + 4)))).set 1 (.int (nI ((0 + 4) + 4)))).set 1 (.int (nI (((0 + 4) + 4) + 4)))).set 1 (.int (nI ((((0 + 4) + 4) + 4) + 4)))))), (ba, .inl (cB, 900, .inl f_9))]) [2, 3] (by decide) rfl
    have hKc := hK.sub (tys' := [(cB, .byte)]) [0] rfl
    have hFc := va_free (wc := [(tp, .inr (9, ((((fs_tp.set 1 (.int (nI (0 + 4)))).set 1 (.int (nI ((0 + 4) + 4)))).set 1 (.int (nI (((0 + 4) + 4) + 4)))).set 1 (.int (nI ((((0 + 4) + 4) + 4) + 4)))))), (ba, .inl (cB, 900, .inl f_9))]) hD hS hA [2, 3] rfl
    refine va_callv (va_runV (As := [.int p4]) (rest := []) ⟨hx, hb, hml, hown, hts⟩ (k_X10_append l dC dI H.size tp ((((fs_tp.set 1 (.int (nI (0 + 4)))).set 1 (.int (nI ((0 + 4) + 4)))).set 1 (.int (nI (((0 + 4) + 4) + 4)))).set 1 (.int (nI ((((0 + 4) + 4) + 4) + 4)))) ba cB f_9 ((((0 + 4) + 4) + 4) + 4) p4 (List.length_set.trans (List.length_set.trans (List.length_set.trans (List.length_set.trans hn_tp)))) ((List.getElem?_set_ne (by decide)).trans ((List.getElem?_set_ne (by decide)).trans ((List.getElem?_set_ne (by decide)).trans ((List.getElem?_set_ne (by decide)).trans hf_tp_0)))) (List.getElem?_set_self (by rw [(List.length_set.trans (List.length_set.trans (List.length_set.trans hn_tp)))]; decide)) (by decide)) (cwV 1 hts gX11_feed_X10_append rfl rfl rfl (by decide +kernel) ⟨Nat.le_of_ble_eq_true rfl, Nat.le_of_ble_eq_true rfl⟩) ⟨fun a U g mk q => by obtain ⟨q0, q1, qP, qK, qD⟩ := q; exact ⟨q0, q1, qP, va_K.moved (u := U) (U := U.calling g mk a) (Vm.Alike.refl U.vm) qK, qD⟩, va_recv hKc hPc (ci := 9) (q0 := 0) rfl rfl, fun U hU hW => ⟨rfl, by rw [hU], by rw [hU]; exact hPc, va_K.moved hW.alike hKc, hDc.weaken (fun _ _ _ _ => trivial)⟩⟩ rfl rfl hl.1 rfl (lv_room (Nat.le_of_ble_eq_true rfl)) dX11_feed_51 ⟨Nat.le_of_ble_eq_true rfl, Nat.le_of_ble_eq_true rfl⟩) hS (fun q _ h => hFc q h) hFc (fun u t H1 locs ht hvm hw hB hz1 hk1 hS => ?_)
    obtain ⟨f_11, rfl⟩ : ∃ z, z = u := ⟨_, rfl⟩
    obtain ⟨hP1, hK1, hD1⟩ := hB
    rw [ht] at hP1
    have hK1 := va_K.moved hvm.symm hK1
    obtain ⟨hP, hD⟩ := va_join (wr := [(h0, .inr (10, fs_h0)), (rd, .inr (6, fs_rd))]) (w1 := [(tp, .inr (9, (((((fs_tp.set 1 (.int (nI (0 + 4)))).set 1 (.int (nI ((0 + 4) + 4)))).set 1 (.int (nI (((0 + 4) + 4) + 4)))).set 1 (.int (nI ((((0 + 4) + 4) + 4) + 4)))).set 1 (.int (nI (((((0 + 4) + 4) + 4) + 4) + 4)))))), (ba, .inl (cB, 900, .inl f_11))]) hP hD [2, 3] [0, 1] rfl rfl (by decide) (by decide) hk1 hFc hP1 hD1
    generalize H1 = H at hP hS ⊢
    have hP : va_P (dC, dI) vwCl [(h0, .inr (10, fs_h0)), (rd, .inr (6, fs_rd)), (tp, .inr (9, (((((fs_tp.set 1 (.int (nI (0 + 4)))).set 1 (.int (nI ((0 + 4) + 4)))).set 1 (.int (nI (((0 + 4) + 4) + 4)))).set 1 (.int (nI ((((0 + 4) + 4) + 4) + 4)))).set 1 (.int (nI (((((0 + 4) + 4) + 4) + 4) + 4)))))), (ba, .inl (cB, 900, .inl f_11))] H := hP
    have hD : va_D A [(h0, .inr (10, fs_h0)), (rd, .inr (6, fs_rd)), (tp, .inr (9, (((((fs_tp.set 1 (.int (nI (0 + 4)))).set 1 (.int (nI ((0 + 4) + 4)))).set 1 (.int (nI (((0 + 4) + 4) + 4)))).set 1 (.int (nI ((((0 + 4) + 4) + 4) + 4)))).set 1 (.int (nI (((((0 + 4) + 4) + 4) + 4) + 4)))))), (ba, .inl (cB, 900, .inl f_11))] := hD
    refine lv_aload hx hb dX11_feed_54 (lv_at hl 0 rfl) ?_
    refine va_get (D := (dC, dI)) (ci := 9) (v := .int (nI (((((0 + 4) + 4) + 4) + 4) + 4))) (C := RX10) (T := TX10) (N := 7) hx hb hts hinX10 hown hK hP 2 rfl rfl 1 (by decide) (hts (.fieldLink RX11 88 "BondCalendars$Tape" "length" "I") (by decide +kernel)) (fun _ h9 => h9) (List.getElem?_set_self (by rw [(List.length_set.trans (List.length_set.trans (List.length_set.trans (List.length_set.trans hn_tp))))]; decide)) dX11_feed_56 ?_
    have hpost : ((nI (((((0 + 4) + 4) + 4) + 4) + 4)) : Int32) = 20 := by decide
    have hP9 := hP.sub (ws' := []) [] rfl
    have hD9 := hD.sub (ws' := []) [] (by decide) rfl
    have hK9 := hK.sub (tys' := []) [] rfl
    exact W.iret (v := (nI (((((0 + 4) + 4) + 4) + 4) + 4))) hx hb hr (fun t ht hW => ⟨⟨(nI (((((0 + 4) + 4) + 4) + 4) + 4)), (), rfl, hpost, by rw [ht]; exact hP9, va_K.moved hW.alike hK9, hD9⟩, hS.F ht⟩) hS.2.2 dX11_feed_59
  · exact absurd (by decide) c_1
set_option maxHeartbeats 4000000 in
set_option maxRecDepth 100000 in
theorem k_X12_feed (l : Launch) (dC : Nat → ClassId) (dI : Nat → Nat → Nat) (sz : Nat) (h0 : Nat) (fs_h0 : List Value) (ba : Nat) (cB : ClassId) (fb : Nat → Int32) (p0 : Int32) (p1 : Int32) (p2 : Int32) (p3 : Int32) (p4 : Int32) (hn_h0 : fs_h0.length = 69) (hf_h0_30 : fs_h0[30]? = some (.ref ba)) (hf_h0_31 : fs_h0[31]? = some (.int 0)) : Met l yX12_feed wsX12_feed ({ frames := 0, cells := 0, slots := 0, locals := 0 }) (va_Pc [.ref h0, .int p0, .int p1, .int p2, .int p3, .int p4] (fun U => U.heap.size = sz ∧ va_P (dC, dI) vwCl [(h0, .inr (11, fs_h0)), (ba, .inl (cB, 900, .inl fb))] U.heap ∧ va_K (dC, dI) vwCl [(cB, .byte)] U ∧ va_D (fun _ => True) [(h0, .inr (11, fs_h0)), (ba, .inl (cB, 900, .inl fb))])) (va_Qi (fun (r : Int32) (_ : Unit) => r = 20) (fun _ t => va_P (dC, dI) vwCl [] t.heap ∧ va_K (dC, dI) vwCl [] t ∧ va_D (va_A [(h0, .inr (11, fs_h0)), (ba, .inl (cB, 900, .inl fb))] sz) []) (va_A [(h0, .inr (11, fs_h0)), (ba, .inl (cB, 900, .inl fb))] sz)) 0 0 (va_A [(h0, .inr (11, fs_h0)), (ba, .inl (cB, 900, .inl fb))] sz) := by
  refine Met.ofW (cc := cX12_feed) (maxL := 8) (ret := (some .int)) (by decide) rfl ?_
  intro p e s m args below meth c s₁ B hml hv
  obtain ⟨rfl, hsz, hP, hK, hD0⟩ := hv
  have hx := B.exec
  have hb := B.bytes
  have hr := B.returns
  have hts := atoms_spec (ws := wsX12_feed) B.pre
  have hown : s.vm.findClass RX12 = some m.cls := findClass_of_methodNamed B.named
  have hlocks := B.notSynchronized
  have hinX12 : ∀ w ∈ u_ws RX12 TX12 69, w ∈ wsX12_feed := (fun _ h9 => List.mem_cons_of_mem _ (List.mem_append_right _ h9))
  subst hsz
  have hD := hD0.self (sz := s.heap.size)
  generalize hAe : va_A [(h0, .inr (11, fs_h0)), (ba, .inl (cB, 900, .inl fb))] s.heap.size = A at hD ⊢
  have hA : ∀ q : Nat, s.heap.size ≤ q → A q := fun q h => by rw [← hAe]; exact Or.inr h
  have hS : va_S A s.heap s.heap [] := va_S.rf
  have hP : va_P (dC, dI) vwCl [(h0, .inr (11, fs_h0)), (ba, .inl (cB, 900, .inl fb))] s.heap := hP
  have hl := lv_entry ([.ref h0, .int p0, .int p1, .int p2, .int p3, .int p4]) (n := 8) (Nat.le_of_ble_eq_true rfl)
  rw [lg_entry_eq]
  generalize (lg_sl ([.ref h0, .int p0, .int p1, .int p2, .int p3, .int p4]) ++ List.replicate (8 - (lg_sl ([.ref h0, .int p0, .int p1, .int p2, .int p3, .int p4])).length) Slot.unset).toArray = ls at hl ⊢
  have hl : lv_has ls 8 [(0, .ref h0), (1, .int p0), (2, .int p1), (3, .int p2), (4, .int p3), (5, .int p4)] := hl
  refine lv_aload_n hx hb dX12_feed_0 rfl (lv_at hl 0 rfl) ?_
  refine lv_iconst (v := 0) hx hb dX12_feed_1 (by decide) ?_
  refine va_put (D := (dC, dI)) (ci := 11) (v := .int 0) (C := RX12) (T := TX12) (N := 69) hx hb hts hinX12 tyX12 tyX12_ok nmX12 hown hK hP hD hS 0 rfl rfl 0 (by decide) (hts (.fieldLink RX12 107 "BondCalendarsModel" "thrown" "I") (by decide +kernel)) (fun _ h9 => h9) rfl (ty := .int) (by decide +kernel) rfl rfl (by rw [hn_h0]; decide) dX12_feed_2 (fun H locs hP hD hS => ?_)
  have hP : va_P (dC, dI) vwCl [(h0, .inr (11, (fs_h0.set 0 (.int 0)))), (ba, .inl (cB, 900, .inl fb))] H := hP
  have hD : va_D A [(h0, .inr (11, (fs_h0.set 0 (.int 0)))), (ba, .inl (cB, 900, .inl fb))] := hD
  refine lv_aload_n hx hb dX12_feed_5 rfl (lv_at hl 0 rfl) ?_
  refine va_get (D := (dC, dI)) (ci := 11) (v := .int 0) (C := RX12) (T := TX12) (N := 69) hx hb hts hinX12 hown hK hP 0 rfl rfl 31 (by decide) (hts (.fieldLink RX12 349 "BondCalendarsModel" "taped" "I") (by decide +kernel)) (fun _ h9 => h9) ((List.getElem?_set_ne (by decide)).trans hf_h0_31) dX12_feed_6 ?_
  refine lv_bipush (v := 20) hx hb dX12_feed_9 (by decide) ?_
  refine lv_iadd hx hb dX12_feed_11 ?_
  refine lv_topi (fun z_1 ez_1 => ?_)
  obtain rfl : z_1 = 20 := ez_1.trans (by decide)
  refine lv_sipush (v := 900) hx hb dX12_feed_12 (by decide) ?_
  refine lv_icmp_le (tgt := 20) hx hb dX12_feed_15 (by decide) (fun c_2 => ?_) (fun c_2 => ?_)
  · refine lv_iconst (v := 0) hx hb dX12_feed_20 (by decide) ?_
    refine lv_istore (lv' := [(6, .int 0), (0, .ref h0), (1, .int p0), (2, .int p1), (3, .int p2), (4, .int p3), (5, .int p4)]) hx hb dX12_feed_21 hl (by decide) rfl (fun ls hl => ?_)
    refine lv_iload hx hb dX12_feed_23 (lv_at hl 0 rfl) ?_
    refine lv_bipush (v := 20) hx hb dX12_feed_25 (by decide) ?_
    refine lv_icmp_ge (tgt := 117) hx hb dX12_feed_27 (by decide) (fun c_3 => ?_) (fun c_3 => ?_)
    · exact absurd c_3 (by decide)
    · refine lv_iload hx hb dX12_feed_30 (lv_at hl 0 rfl) ?_
      refine lv_iconst (v := 4) hx hb dX12_feed_32 (by decide) ?_
      refine lv_icmp_ge (tgt := 40) hx hb dX12_feed_33 (by decide) (fun c_4 => ?_) (fun c_4 => ?_)
      · exact absurd c_4 (by decide)
      · refine lv_iload_n hx hb dX12_feed_36 rfl (lv_at hl 2 rfl) ?_
        refine lv_goto (tgt := 76) hx hb dX12_feed_37 (by decide) ?_
        refine lv_istore (lv' := [(7, .int p0), (6, .int 0), (0, .ref h0), (1, .int p0), (2, .int p1), (3, .int p2), (4, .int p3), (5, .int p4)]) hx hb dX12_feed_76 hl (by decide) rfl (fun ls hl => ?_)
        refine lv_aload_n hx hb dX12_feed_78 rfl (lv_at hl 2 rfl) ?_
        refine va_get (D := (dC, dI)) (ci := 11) (v := .ref ba) (C := RX12) (T := TX12) (N := 69) hx hb hts hinX12 hown hK hP 0 rfl rfl 30 (by decide) (hts (.fieldLink RX12 60 "BondCalendarsModel" "tape" "[B") (by decide +kernel)) (fun _ h9 => h9) ((List.getElem?_set_ne (by decide)).trans hf_h0_30) dX12_feed_79 ?_
        refine lv_aload_n hx hb dX12_feed_82 rfl (lv_at hl 2 rfl) ?_
        refine va_get (D := (dC, dI)) (ci := 11) (v := .int 0) (C := RX12) (T := TX12) (N := 69) hx hb hts hinX12 hown hK hP 0 rfl rfl 31 (by decide) (hts (.fieldLink RX12 349 "BondCalendarsModel" "taped" "I") (by decide +kernel)) (fun _ h9 => h9) ((List.getElem?_set_ne (by decide)).trans hf_h0_31) dX12_feed_83 ?_
        refine lv_iload hx hb dX12_feed_86 (lv_at hl 0 rfl) ?_
        refine lv_bipush (v := 24) hx hb dX12_feed_88 (by decide) ?_
        refine lv_bipush (v := 8) hx hb dX12_feed_90 (by decide) ?_
        refine lv_iload hx hb dX12_feed_92 (lv_at hl 1 rfl) ?_
        refine lv_iconst (v := 4) hx hb dX12_feed_94 (by decide) ?_
        refine lv_irem hx hb dX12_feed_95 (by decide) ?_
        refine lv_topi (fun z_5 ez_5 => ?_)
        obtain rfl : z_5 = 0 := ez_5.trans (by decide)
        refine lv_imul hx hb dX12_feed_96 ?_
        refine lv_topi (fun z_6 ez_6 => ?_)
        obtain rfl : z_6 = 0 := ez_6.trans (by decide)
        refine lv_isub hx hb dX12_feed_97 ?_
        refine lv_topi (fun z_7 ez_7 => ?_)
        obtain rfl : z_7 = 24 := ez_7.trans (by decide)
        refine lv_ishr hx hb dX12_feed_98 ?_
        refine lv_topi (fun x_8 _ => ?_)
        refine lv_i2b hx hb dX12_feed_99 rfl ?_
        refine lv_topi (fun x_9 _ => ?_)
        refine va_bast hx hb hK hP hD hS 1 0 rfl rfl (vp_in_nI (n := 0) (by decide) (by decide)) dX12_feed_100 (fun H locs hP hD hS => ?_)
        have hP : va_P (dC, dI) vwCl [(h0, .inr (11, (fs_h0.set 0 (.int 0)))), (ba, .inl (cB, 900, .inl (upd fb (0 : Int32).toNatClampNeg (vp_nar .byte x_9))))] H := hP
        have hD : va_D A [(h0, .inr (11, (fs_h0.set 0 (.int 0)))), (ba, .inl (cB, 900, .inl (upd fb (0 : Int32).toNatClampNeg (vp_nar .byte x_9))))] := hD
        generalize (upd fb (0 : Int32).toNatClampNeg (vp_nar .byte x_9)) = f_10 at hP hD
        refine lv_aload_n hx hb dX12_feed_101 rfl (lv_at hl 2 rfl) ?_
        refine lv_dup hx hb dX12_feed_102 rfl ?_
        refine va_get (D := (dC, dI)) (ci := 11) (v := .int 0) (C := RX12) (T := TX12) (N := 69) hx hb hts hinX12 hown hK hP 0 rfl rfl 31 (by decide) (hts (.fieldLink RX12 349 "BondCalendarsModel" "taped" "I") (by decide +kernel)) (fun _ h9 => h9) ((List.getElem?_set_ne (by decide)).trans hf_h0_31) dX12_feed_103 ?_
        refine lv_iconst (v := 1) hx hb dX12_feed_106 (by decide) ?_
        refine lv_iadd hx hb dX12_feed_107 ?_
        refine lv_topi (fun z_11 ez_11 => ?_)
        obtain rfl : z_11 = 1 := ez_11.trans (by decide)
        refine va_put (D := (dC, dI)) (ci := 11) (v := .int 1) (C := RX12) (T := TX12) (N := 69) hx hb hts hinX12 tyX12 tyX12_ok nmX12 hown hK hP hD hS 0 rfl rfl 31 (by decide) (hts (.fieldLink RX12 349 "BondCalendarsModel" "taped" "I") (by decide +kernel)) (fun _ h9 => h9) rfl (ty := .int) (by decide +kernel) rfl rfl (by rw [(List.length_set.trans hn_h0)]; decide) dX12_feed_108 (fun H locs hP hD hS => ?_)
        have hP : va_P (dC, dI) vwCl [(h0, .inr (11, ((fs_h0.set 0 (.int 0)).set 31 (.int 1)))), (ba, .inl (cB, 900, .inl f_10))] H := hP
        have hD : va_D A [(h0, .inr (11, ((fs_h0.set 0 (.int 0)).set 31 (.int 1)))), (ba, .inl (cB, 900, .inl f_10))] := hD
        refine lv_iinc (v := 1) (lv' := [(6, .int 1), (7, .int p0), (0, .ref h0), (1, .int p0), (2, .int p1), (3, .int p2), (4, .int p3), (5, .int p4)]) hx hb dX12_feed_111 hl (k := 1) rfl (by decide) (by decide) rfl (fun ls hl => ?_)
        refine lv_goto (tgt := 23) hx hb dX12_feed_114 (by decide) ?_
        refine lv_iload hx hb dX12_feed_23 (lv_at hl 0 rfl) ?_
        refine lv_bipush (v := 20) hx hb dX12_feed_25 (by decide) ?_
        refine lv_icmp_ge (tgt := 117) hx hb dX12_feed_27 (by decide) (fun c_13 => ?_) (fun c_13 => ?_)
        · exact absurd c_13 (by decide)
        · refine lv_iload hx hb dX12_feed_30 (lv_at hl 0 rfl) ?_
          refine lv_iconst (v := 4) hx hb dX12_feed_32 (by decide) ?_
          refine lv_icmp_ge (tgt := 40) hx hb dX12_feed_33 (by decide) (fun c_14 => ?_) (fun c_14 => ?_)
          · exact absurd c_14 (by decide)
          · refine lv_iload_n hx hb dX12_feed_36 rfl (lv_at hl 3 rfl) ?_
            refine lv_goto (tgt := 76) hx hb dX12_feed_37 (by decide) ?_
            refine lv_istore (lv' := [(7, .int p0), (6, .int 1), (0, .ref h0), (1, .int p0), (2, .int p1), (3, .int p2), (4, .int p3), (5, .int p4)]) hx hb dX12_feed_76 hl (by decide) rfl (fun ls hl => ?_)
            refine lv_aload_n hx hb dX12_feed_78 rfl (lv_at hl 2 rfl) ?_
            refine va_get (D := (dC, dI)) (ci := 11) (v := .ref ba) (C := RX12) (T := TX12) (N := 69) hx hb hts hinX12 hown hK hP 0 rfl rfl 30 (by decide) (hts (.fieldLink RX12 60 "BondCalendarsModel" "tape" "[B") (by decide +kernel)) (fun _ h9 => h9) ((List.getElem?_set_ne (by decide)).trans ((List.getElem?_set_ne (by decide)).trans hf_h0_30)) dX12_feed_79 ?_
            refine lv_aload_n hx hb dX12_feed_82 rfl (lv_at hl 2 rfl) ?_
            refine va_get (D := (dC, dI)) (ci := 11) (v := .int 1) (C := RX12) (T := TX12) (N := 69) hx hb hts hinX12 hown hK hP 0 rfl rfl 31 (by decide) (hts (.fieldLink RX12 349 "BondCalendarsModel" "taped" "I") (by decide +kernel)) (fun _ h9 => h9) (List.getElem?_set_self (by rw [(List.length_set.trans hn_h0)]; decide)) dX12_feed_83 ?_
            refine lv_iload hx hb dX12_feed_86 (lv_at hl 0 rfl) ?_
            refine lv_bipush (v := 24) hx hb dX12_feed_88 (by decide) ?_
            refine lv_bipush (v := 8) hx hb dX12_feed_90 (by decide) ?_
            refine lv_iload hx hb dX12_feed_92 (lv_at hl 1 rfl) ?_
            refine lv_iconst (v := 4) hx hb dX12_feed_94 (by decide) ?_
            refine lv_irem hx hb dX12_feed_95 (by decide) ?_
            refine lv_topi (fun z_15 ez_15 => ?_)
            obtain rfl : z_15 = 1 := ez_15.trans (by decide)
            refine lv_imul hx hb dX12_feed_96 ?_
            refine lv_topi (fun z_16 ez_16 => ?_)
            obtain rfl : z_16 = 8 := ez_16.trans (by decide)
            refine lv_isub hx hb dX12_feed_97 ?_
            refine lv_topi (fun z_17 ez_17 => ?_)
            obtain rfl : z_17 = 16 := ez_17.trans (by decide)
            refine lv_ishr hx hb dX12_feed_98 ?_
            refine lv_topi (fun x_18 _ => ?_)
            refine lv_i2b hx hb dX12_feed_99 rfl ?_
            refine lv_topi (fun x_19 _ => ?_)
            refine va_bast hx hb hK hP hD hS 1 0 rfl rfl (vp_in_nI (n := 1) (by decide) (by decide)) dX12_feed_100 (fun H locs hP hD hS => ?_)
            have hP : va_P (dC, dI) vwCl [(h0, .inr (11, ((fs_h0.set 0 (.int 0)).set 31 (.int 1)))), (ba, .inl (cB, 900, .inl (upd f_10 (1 : Int32).toNatClampNeg (vp_nar .byte x_19))))] H := hP
            have hD : va_D A [(h0, .inr (11, ((fs_h0.set 0 (.int 0)).set 31 (.int 1)))), (ba, .inl (cB, 900, .inl (upd f_10 (1 : Int32).toNatClampNeg (vp_nar .byte x_19))))] := hD
            generalize (upd f_10 (1 : Int32).toNatClampNeg (vp_nar .byte x_19)) = f_20 at hP hD
            refine lv_aload_n hx hb dX12_feed_101 rfl (lv_at hl 2 rfl) ?_
            refine lv_dup hx hb dX12_feed_102 rfl ?_
            refine va_get (D := (dC, dI)) (ci := 11) (v := .int 1) (C := RX12) (T := TX12) (N := 69) hx hb hts hinX12 hown hK hP 0 rfl rfl 31 (by decide) (hts (.fieldLink RX12 349 "BondCalendarsModel" "taped" "I") (by decide +kernel)) (fun _ h9 => h9) (List.getElem?_set_self (by rw [(List.length_set.trans hn_h0)]; decide)) dX12_feed_103 ?_
            refine lv_iconst (v := 1) hx hb dX12_feed_106 (by decide) ?_
            refine lv_iadd hx hb dX12_feed_107 ?_
            refine lv_topi (fun z_21 ez_21 => ?_)
            obtain rfl : z_21 = 2 := ez_21.trans (by decide)
            refine va_put (D := (dC, dI)) (ci := 11) (v := .int 2) (C := RX12) (T := TX12) (N := 69) hx hb hts hinX12 tyX12 tyX12_ok nmX12 hown hK hP hD hS 0 rfl rfl 31 (by decide) (hts (.fieldLink RX12 349 "BondCalendarsModel" "taped" "I") (by decide +kernel)) (fun _ h9 => h9) rfl (ty := .int) (by decide +kernel) rfl rfl (by rw [(List.length_set.trans (List.length_set.trans hn_h0))]; decide) dX12_feed_108 (fun H locs hP hD hS => ?_)
            rw [List.set_set] at hP hD
            have hP : va_P (dC, dI) vwCl [(h0, .inr (11, ((fs_h0.set 0 (.int 0)).set 31 (.int 2)))), (ba, .inl (cB, 900, .inl f_20))] H := hP
            have hD : va_D A [(h0, .inr (11, ((fs_h0.set 0 (.int 0)).set 31 (.int 2)))), (ba, .inl (cB, 900, .inl f_20))] := hD
            refine lv_iinc (v := 2) (lv' := [(6, .int 2), (7, .int p0), (0, .ref h0), (1, .int p0), (2, .int p1), (3, .int p2), (4, .int p3), (5, .int p4)]) hx hb dX12_feed_111 hl (k := 1) rfl (by decide) (by decide) rfl (fun ls hl => ?_)
            refine lv_goto (tgt := 23) hx hb dX12_feed_114 (by decide) ?_
            refine lv_iload hx hb dX12_feed_23 (lv_at hl 0 rfl) ?_
            refine lv_bipush (v := 20) hx hb dX12_feed_25 (by decide) ?_
            refine lv_icmp_ge (tgt := 117) hx hb dX12_feed_27 (by decide) (fun c_23 => ?_) (fun c_23 => ?_)
            · exact absurd c_23 (by decide)
            · refine lv_iload hx hb dX12_feed_30 (lv_at hl 0 rfl) ?_
              refine lv_iconst (v := 4) hx hb dX12_feed_32 (by decide) ?_
              refine lv_icmp_ge (tgt := 40) hx hb dX12_feed_33 (by decide) (fun c_24 => ?_) (fun c_24 => ?_)
              · exact absurd c_24 (by decide)
              · refine lv_iload_n hx hb dX12_feed_36 rfl (lv_at hl 3 rfl) ?_
                refine lv_goto (tgt := 76) hx hb dX12_feed_37 (by decide) ?_
                refine lv_istore (lv' := [(7, .int p0), (6, .int 2), (0, .ref h0), (1, .int p0), (2, .int p1), (3, .int p2), (4, .int p3), (5, .int p4)]) hx hb dX12_feed_76 hl (by decide) rfl (fun ls hl => ?_)
                refine lv_aload_n hx hb dX12_feed_78 rfl (lv_at hl 2 rfl) ?_
                refine va_get (D := (dC, dI)) (ci := 11) (v := .ref ba) (C := RX12) (T := TX12) (N := 69) hx hb hts hinX12 hown hK hP 0 rfl rfl 30 (by decide) (hts (.fieldLink RX12 60 "BondCalendarsModel" "tape" "[B") (by decide +kernel)) (fun _ h9 => h9) ((List.getElem?_set_ne (by decide)).trans ((List.getElem?_set_ne (by decide)).trans hf_h0_30)) dX12_feed_79 ?_
                refine lv_aload_n hx hb dX12_feed_82 rfl (lv_at hl 2 rfl) ?_
                refine va_get (D := (dC, dI)) (ci := 11) (v := .int 2) (C := RX12) (T := TX12) (N := 69) hx hb hts hinX12 hown hK hP 0 rfl rfl 31 (by decide) (hts (.fieldLink RX12 349 "BondCalendarsModel" "taped" "I") (by decide +kernel)) (fun _ h9 => h9) (List.getElem?_set_self (by rw [(List.length_set.trans hn_h0)]; decide)) dX12_feed_83 ?_
                refine lv_iload hx hb dX12_feed_86 (lv_at hl 0 rfl) ?_
                refine lv_bipush (v := 24) hx hb dX12_feed_88 (by decide) ?_
                refine lv_bipush (v := 8) hx hb dX12_feed_90 (by decide) ?_
                refine lv_iload hx hb dX12_feed_92 (lv_at hl 1 rfl) ?_
                refine lv_iconst (v := 4) hx hb dX12_feed_94 (by decide) ?_
                refine lv_irem hx hb dX12_feed_95 (by decide) ?_
                refine lv_topi (fun z_25 ez_25 => ?_)
                obtain rfl : z_25 = 2 := ez_25.trans (by decide)
                refine lv_imul hx hb dX12_feed_96 ?_
                refine lv_topi (fun z_26 ez_26 => ?_)
                obtain rfl : z_26 = 16 := ez_26.trans (by decide)
                refine lv_isub hx hb dX12_feed_97 ?_
                refine lv_topi (fun z_27 ez_27 => ?_)
                obtain rfl : z_27 = 8 := ez_27.trans (by decide)
                refine lv_ishr hx hb dX12_feed_98 ?_
                refine lv_topi (fun x_28 _ => ?_)
                refine lv_i2b hx hb dX12_feed_99 rfl ?_
                refine lv_topi (fun x_29 _ => ?_)
                refine va_bast hx hb hK hP hD hS 1 0 rfl rfl (vp_in_nI (n := 2) (by decide) (by decide)) dX12_feed_100 (fun H locs hP hD hS => ?_)
                have hP : va_P (dC, dI) vwCl [(h0, .inr (11, ((fs_h0.set 0 (.int 0)).set 31 (.int 2)))), (ba, .inl (cB, 900, .inl (upd f_20 (2 : Int32).toNatClampNeg (vp_nar .byte x_29))))] H := hP
                have hD : va_D A [(h0, .inr (11, ((fs_h0.set 0 (.int 0)).set 31 (.int 2)))), (ba, .inl (cB, 900, .inl (upd f_20 (2 : Int32).toNatClampNeg (vp_nar .byte x_29))))] := hD
                generalize (upd f_20 (2 : Int32).toNatClampNeg (vp_nar .byte x_29)) = f_30 at hP hD
                refine lv_aload_n hx hb dX12_feed_101 rfl (lv_at hl 2 rfl) ?_
                refine lv_dup hx hb dX12_feed_102 rfl ?_
                refine va_get (D := (dC, dI)) (ci := 11) (v := .int 2) (C := RX12) (T := TX12) (N := 69) hx hb hts hinX12 hown hK hP 0 rfl rfl 31 (by decide) (hts (.fieldLink RX12 349 "BondCalendarsModel" "taped" "I") (by decide +kernel)) (fun _ h9 => h9) (List.getElem?_set_self (by rw [(List.length_set.trans hn_h0)]; decide)) dX12_feed_103 ?_
                refine lv_iconst (v := 1) hx hb dX12_feed_106 (by decide) ?_
                refine lv_iadd hx hb dX12_feed_107 ?_
                refine lv_topi (fun z_31 ez_31 => ?_)
                obtain rfl : z_31 = 3 := ez_31.trans (by decide)
                refine va_put (D := (dC, dI)) (ci := 11) (v := .int 3) (C := RX12) (T := TX12) (N := 69) hx hb hts hinX12 tyX12 tyX12_ok nmX12 hown hK hP hD hS 0 rfl rfl 31 (by decide) (hts (.fieldLink RX12 349 "BondCalendarsModel" "taped" "I") (by decide +kernel)) (fun _ h9 => h9) rfl (ty := .int) (by decide +kernel) rfl rfl (by rw [(List.length_set.trans (List.length_set.trans hn_h0))]; decide) dX12_feed_108 (fun H locs hP hD hS => ?_)
                rw [List.set_set] at hP hD
                have hP : va_P (dC, dI) vwCl [(h0, .inr (11, ((fs_h0.set 0 (.int 0)).set 31 (.int 3)))), (ba, .inl (cB, 900, .inl f_30))] H := hP
                have hD : va_D A [(h0, .inr (11, ((fs_h0.set 0 (.int 0)).set 31 (.int 3)))), (ba, .inl (cB, 900, .inl f_30))] := hD
                refine lv_iinc (v := 3) (lv' := [(6, .int 3), (7, .int p0), (0, .ref h0), (1, .int p0), (2, .int p1), (3, .int p2), (4, .int p3), (5, .int p4)]) hx hb dX12_feed_111 hl (k := 1) rfl (by decide) (by decide) rfl (fun ls hl => ?_)
                refine lv_goto (tgt := 23) hx hb dX12_feed_114 (by decide) ?_
                refine lv_iload hx hb dX12_feed_23 (lv_at hl 0 rfl) ?_
                refine lv_bipush (v := 20) hx hb dX12_feed_25 (by decide) ?_
                refine lv_icmp_ge (tgt := 117) hx hb dX12_feed_27 (by decide) (fun c_33 => ?_) (fun c_33 => ?_)
                · exact absurd c_33 (by decide)
                · refine lv_iload hx hb dX12_feed_30 (lv_at hl 0 rfl) ?_
                  refine lv_iconst (v := 4) hx hb dX12_feed_32 (by decide) ?_
                  refine lv_icmp_ge (tgt := 40) hx hb dX12_feed_33 (by decide) (fun c_34 => ?_) (fun c_34 => ?_)
                  · exact absurd c_34 (by decide)
                  · refine lv_iload_n hx hb dX12_feed_36 rfl (lv_at hl 3 rfl) ?_
                    refine lv_goto (tgt := 76) hx hb dX12_feed_37 (by decide) ?_
                    refine lv_istore (lv' := [(7, .int p0), (6, .int 3), (0, .ref h0), (1, .int p0), (2, .int p1), (3, .int p2), (4, .int p3), (5, .int p4)]) hx hb dX12_feed_76 hl (by decide) rfl (fun ls hl => ?_)
                    refine lv_aload_n hx hb dX12_feed_78 rfl (lv_at hl 2 rfl) ?_
                    refine va_get (D := (dC, dI)) (ci := 11) (v := .ref ba) (C := RX12) (T := TX12) (N := 69) hx hb hts hinX12 hown hK hP 0 rfl rfl 30 (by decide) (hts (.fieldLink RX12 60 "BondCalendarsModel" "tape" "[B") (by decide +kernel)) (fun _ h9 => h9) ((List.getElem?_set_ne (by decide)).trans ((List.getElem?_set_ne (by decide)).trans hf_h0_30)) dX12_feed_79 ?_
                    refine lv_aload_n hx hb dX12_feed_82 rfl (lv_at hl 2 rfl) ?_
                    refine va_get (D := (dC, dI)) (ci := 11) (v := .int 3) (C := RX12) (T := TX12) (N := 69) hx hb hts hinX12 hown hK hP 0 rfl rfl 31 (by decide) (hts (.fieldLink RX12 349 "BondCalendarsModel" "taped" "I") (by decide +kernel)) (fun _ h9 => h9) (List.getElem?_set_self (by rw [(List.length_set.trans hn_h0)]; decide)) dX12_feed_83 ?_
                    refine lv_iload hx hb dX12_feed_86 (lv_at hl 0 rfl) ?_
                    refine lv_bipush (v := 24) hx hb dX12_feed_88 (by decide) ?_
                    refine lv_bipush (v := 8) hx hb dX12_feed_90 (by decide) ?_
                    refine lv_iload hx hb dX12_feed_92 (lv_at hl 1 rfl) ?_
                    refine lv_iconst (v := 4) hx hb dX12_feed_94 (by decide) ?_
                    refine lv_irem hx hb dX12_feed_95 (by decide) ?_
                    refine lv_topi (fun z_35 ez_35 => ?_)
                    obtain rfl : z_35 = 3 := ez_35.trans (by decide)
                    refine lv_imul hx hb dX12_feed_96 ?_
                    refine lv_topi (fun z_36 ez_36 => ?_)
                    obtain rfl : z_36 = 24 := ez_36.trans (by decide)
                    refine lv_isub hx hb dX12_feed_97 ?_
                    refine lv_topi (fun z_37 ez_37 => ?_)
                    obtain rfl : z_37 = 0 := ez_37.trans (by decide)
                    refine lv_ishr hx hb dX12_feed_98 ?_
                    refine lv_topi (fun x_38 _ => ?_)
                    refine lv_i2b hx hb dX12_feed_99 rfl ?_
                    refine lv_topi (fun x_39 _ => ?_)
                    refine va_bast hx hb hK hP hD hS 1 0 rfl rfl (vp_in_nI (n := 3) (by decide) (by decide)) dX12_feed_100 (fun H locs hP hD hS => ?_)
                    have hP : va_P (dC, dI) vwCl [(h0, .inr (11, ((fs_h0.set 0 (.int 0)).set 31 (.int 3)))), (ba, .inl (cB, 900, .inl (upd f_30 (3 : Int32).toNatClampNeg (vp_nar .byte x_39))))] H := hP
                    have hD : va_D A [(h0, .inr (11, ((fs_h0.set 0 (.int 0)).set 31 (.int 3)))), (ba, .inl (cB, 900, .inl (upd f_30 (3 : Int32).toNatClampNeg (vp_nar .byte x_39))))] := hD
                    generalize (upd f_30 (3 : Int32).toNatClampNeg (vp_nar .byte x_39)) = f_40 at hP hD
                    refine lv_aload_n hx hb dX12_feed_101 rfl (lv_at hl 2 rfl) ?_
                    refine lv_dup hx hb dX12_feed_102 rfl ?_
                    refine va_get (D := (dC, dI)) (ci := 11) (v := .int 3) (C := RX12) (T := TX12) (N := 69) hx hb hts hinX12 hown hK hP 0 rfl rfl 31 (by decide) (hts (.fieldLink RX12 349 "BondCalendarsModel" "taped" "I") (by decide +kernel)) (fun _ h9 => h9) (List.getElem?_set_self (by rw [(List.length_set.trans hn_h0)]; decide)) dX12_feed_103 ?_
                    refine lv_iconst (v := 1) hx hb dX12_feed_106 (by decide) ?_
                    refine lv_iadd hx hb dX12_feed_107 ?_
                    refine lv_topi (fun z_41 ez_41 => ?_)
                    obtain rfl : z_41 = 4 := ez_41.trans (by decide)
                    refine va_put (D := (dC, dI)) (ci := 11) (v := .int 4) (C := RX12) (T := TX12) (N := 69) hx hb hts hinX12 tyX12 tyX12_ok nmX12 hown hK hP hD hS 0 rfl rfl 31 (by decide) (hts (.fieldLink RX12 349 "BondCalendarsModel" "taped" "I") (by decide +kernel)) (fun _ h9 => h9) rfl (ty := .int) (by decide +kernel) rfl rfl (by rw [(List.length_set.trans (List.length_set.trans hn_h0))]; decide) dX12_feed_108 (fun H locs hP hD hS => ?_)
                    rw [List.set_set] at hP hD
                    have hP : va_P (dC, dI) vwCl [(h0, .inr (11, ((fs_h0.set 0 (.int 0)).set 31 (.int 4)))), (ba, .inl (cB, 900, .inl f_40))] H := hP
                    have hD : va_D A [(h0, .inr (11, ((fs_h0.set 0 (.int 0)).set 31 (.int 4)))), (ba, .inl (cB, 900, .inl f_40))] := hD
                    refine lv_iinc (v := 4) (lv' := [(6, .int 4), (7, .int p0), (0, .ref h0), (1, .int p0), (2, .int p1), (3, .int p2), (4, .int p3), (5, .int p4)]) hx hb dX12_feed_111 hl (k := 1) rfl (by decide) (by decide) rfl (fun ls hl => ?_)
                    refine lv_goto (tgt := 23) hx hb dX12_feed_114 (by decide) ?_
                    refine lv_iload hx hb dX12_feed_23 (lv_at hl 0 rfl) ?_
                    refine lv_bipush (v := 20) hx hb dX12_feed_25 (by decide) ?_
                    refine lv_icmp_ge (tgt := 117) hx hb dX12_feed_27 (by decide) (fun c_43 => ?_) (fun c_43 => ?_)
                    · exact absurd c_43 (by decide)
                    · refine lv_iload hx hb dX12_feed_30 (lv_at hl 0 rfl) ?_
                      refine lv_iconst (v := 4) hx hb dX12_feed_32 (by decide) ?_
                      refine lv_icmp_ge (tgt := 40) hx hb dX12_feed_33 (by decide) (fun c_44 => ?_) (fun c_44 => ?_)
                      · refine lv_iload hx hb dX12_feed_40 (lv_at hl 0 rfl) ?_
                        refine lv_bipush (v := 8) hx hb dX12_feed_42 (by decide) ?_
                        refine lv_icmp_ge (tgt := 51) hx hb dX12_feed_44 (by decide) (fun c_45 => ?_) (fun c_45 => ?_)
                        · exact absurd c_45 (by decide)
                        · refine lv_iload_n hx hb dX12_feed_47 rfl (lv_at hl 4 rfl) ?_
                          refine lv_goto (tgt := 76) hx hb dX12_feed_48 (by decide) ?_
                          refine lv_istore (lv' := [(7, .int p1), (6, .int 4), (0, .ref h0), (1, .int p0), (2, .int p1), (3, .int p2), (4, .int p3), (5, .int p4)]) hx hb dX12_feed_76 hl (by decide) rfl (fun ls hl => ?_)
                          refine lv_aload_n hx hb dX12_feed_78 rfl (lv_at hl 2 rfl) ?_
                          refine va_get (D := (dC, dI)) (ci := 11) (v := .ref ba) (C := RX12) (T := TX12) (N := 69) hx hb hts hinX12 hown hK hP 0 rfl rfl 30 (by decide) (hts (.fieldLink RX12 60 "BondCalendarsModel" "tape" "[B") (by decide +kernel)) (fun _ h9 => h9) ((List.getElem?_set_ne (by decide)).trans ((List.getElem?_set_ne (by decide)).trans hf_h0_30)) dX12_feed_79 ?_
                          refine lv_aload_n hx hb dX12_feed_82 rfl (lv_at hl 2 rfl) ?_
                          refine va_get (D := (dC, dI)) (ci := 11) (v := .int 4) (C := RX12) (T := TX12) (N := 69) hx hb hts hinX12 hown hK hP 0 rfl rfl 31 (by decide) (hts (.fieldLink RX12 349 "BondCalendarsModel" "taped" "I") (by decide +kernel)) (fun _ h9 => h9) (List.getElem?_set_self (by rw [(List.length_set.trans hn_h0)]; decide)) dX12_feed_83 ?_
                          refine lv_iload hx hb dX12_feed_86 (lv_at hl 0 rfl) ?_
                          refine lv_bipush (v := 24) hx hb dX12_feed_88 (by decide) ?_
                          refine lv_bipush (v := 8) hx hb dX12_feed_90 (by decide) ?_
                          refine lv_iload hx hb dX12_feed_92 (lv_at hl 1 rfl) ?_
                          refine lv_iconst (v := 4) hx hb dX12_feed_94 (by decide) ?_
                          refine lv_irem hx hb dX12_feed_95 (by decide) ?_
                          refine lv_topi (fun z_46 ez_46 => ?_)
                          obtain rfl : z_46 = 0 := ez_46.trans (by decide)
                          refine lv_imul hx hb dX12_feed_96 ?_
                          refine lv_topi (fun z_47 ez_47 => ?_)
                          obtain rfl : z_47 = 0 := ez_47.trans (by decide)
                          refine lv_isub hx hb dX12_feed_97 ?_
                          refine lv_topi (fun z_48 ez_48 => ?_)
                          obtain rfl : z_48 = 24 := ez_48.trans (by decide)
                          refine lv_ishr hx hb dX12_feed_98 ?_
                          refine lv_topi (fun x_49 _ => ?_)
                          refine lv_i2b hx hb dX12_feed_99 rfl ?_
                          refine lv_topi (fun x_50 _ => ?_)
                          refine va_bast hx hb hK hP hD hS 1 0 rfl rfl (vp_in_nI (n := 4) (by decide) (by decide)) dX12_feed_100 (fun H locs hP hD hS => ?_)
                          have hP : va_P (dC, dI) vwCl [(h0, .inr (11, ((fs_h0.set 0 (.int 0)).set 31 (.int 4)))), (ba, .inl (cB, 900, .inl (upd f_40 (4 : Int32).toNatClampNeg (vp_nar .byte x_50))))] H := hP
                          have hD : va_D A [(h0, .inr (11, ((fs_h0.set 0 (.int 0)).set 31 (.int 4)))), (ba, .inl (cB, 900, .inl (upd f_40 (4 : Int32).toNatClampNeg (vp_nar .byte x_50))))] := hD
                          generalize (upd f_40 (4 : Int32).toNatClampNeg (vp_nar .byte x_50)) = f_51 at hP hD
                          refine lv_aload_n hx hb dX12_feed_101 rfl (lv_at hl 2 rfl) ?_
                          refine lv_dup hx hb dX12_feed_102 rfl ?_
                          refine va_get (D := (dC, dI)) (ci := 11) (v := .int 4) (C := RX12) (T := TX12) (N := 69) hx hb hts hinX12 hown hK hP 0 rfl rfl 31 (by decide) (hts (.fieldLink RX12 349 "BondCalendarsModel" "taped" "I") (by decide +kernel)) (fun _ h9 => h9) (List.getElem?_set_self (by rw [(List.length_set.trans hn_h0)]; decide)) dX12_feed_103 ?_
                          refine lv_iconst (v := 1) hx hb dX12_feed_106 (by decide) ?_
                          refine lv_iadd hx hb dX12_feed_107 ?_
                          refine lv_topi (fun z_52 ez_52 => ?_)
                          obtain rfl : z_52 = 5 := ez_52.trans (by decide)
                          refine va_put (D := (dC, dI)) (ci := 11) (v := .int 5) (C := RX12) (T := TX12) (N := 69) hx hb hts hinX12 tyX12 tyX12_ok nmX12 hown hK hP hD hS 0 rfl rfl 31 (by decide) (hts (.fieldLink RX12 349 "BondCalendarsModel" "taped" "I") (by decide +kernel)) (fun _ h9 => h9) rfl (ty := .int) (by decide +kernel) rfl rfl (by rw [(List.length_set.trans (List.length_set.trans hn_h0))]; decide) dX12_feed_108 (fun H locs hP hD hS => ?_)
                          rw [List.set_set] at hP hD
                          have hP : va_P (dC, dI) vwCl [(h0, .inr (11, ((fs_h0.set 0 (.int 0)).set 31 (.int 5)))), (ba, .inl (cB, 900, .inl f_51))] H := hP
                          have hD : va_D A [(h0, .inr (11, ((fs_h0.set 0 (.int 0)).set 31 (.int 5)))), (ba, .inl (cB, 900, .inl f_51))] := hD
                          refine lv_iinc (v := 5) (lv' := [(6, .int 5), (7, .int p1), (0, .ref h0), (1, .int p0), (2, .int p1), (3, .int p2), (4, .int p3), (5, .int p4)]) hx hb dX12_feed_111 hl (k := 1) rfl (by decide) (by decide) rfl (fun ls hl => ?_)
                          refine lv_goto (tgt := 23) hx hb dX12_feed_114 (by decide) ?_
                          refine lv_iload hx hb dX12_feed_23 (lv_at hl 0 rfl) ?_
                          refine lv_bipush (v := 20) hx hb dX12_feed_25 (by decide) ?_
                          refine lv_icmp_ge (tgt := 117) hx hb dX12_feed_27 (by decide) (fun c_54 => ?_) (fun c_54 => ?_)
                          · exact absurd c_54 (by decide)
                          · refine lv_iload hx hb dX12_feed_30 (lv_at hl 0 rfl) ?_
                            refine lv_iconst (v := 4) hx hb dX12_feed_32 (by decide) ?_
                            refine lv_icmp_ge (tgt := 40) hx hb dX12_feed_33 (by decide) (fun c_55 => ?_) (fun c_55 => ?_)
                            · refine lv_iload hx hb dX12_feed_40 (lv_at hl 0 rfl) ?_
                              refine lv_bipush (v := 8) hx hb dX12_feed_42 (by decide) ?_
                              refine lv_icmp_ge (tgt := 51) hx hb dX12_feed_44 (by decide) (fun c_56 => ?_) (fun c_56 => ?_)
                              · exact absurd c_56 (by decide)
                              · refine lv_iload_n hx hb dX12_feed_47 rfl (lv_at hl 4 rfl) ?_
                                refine lv_goto (tgt := 76) hx hb dX12_feed_48 (by decide) ?_
                                refine lv_istore (lv' := [(7, .int p1), (6, .int 5), (0, .ref h0), (1, .int p0), (2, .int p1), (3, .int p2), (4, .int p3), (5, .int p4)]) hx hb dX12_feed_76 hl (by decide) rfl (fun ls hl => ?_)
                                refine lv_aload_n hx hb dX12_feed_78 rfl (lv_at hl 2 rfl) ?_
                                refine va_get (D := (dC, dI)) (ci := 11) (v := .ref ba) (C := RX12) (T := TX12) (N := 69) hx hb hts hinX12 hown hK hP 0 rfl rfl 30 (by decide) (hts (.fieldLink RX12 60 "BondCalendarsModel" "tape" "[B") (by decide +kernel)) (fun _ h9 => h9) ((List.getElem?_set_ne (by decide)).trans ((List.getElem?_set_ne (by decide)).trans hf_h0_30)) dX12_feed_79 ?_
                                refine lv_aload_n hx hb dX12_feed_82 rfl (lv_at hl 2 rfl) ?_
                                refine va_get (D := (dC, dI)) (ci := 11) (v := .int 5) (C := RX12) (T := TX12) (N := 69) hx hb hts hinX12 hown hK hP 0 rfl rfl 31 (by decide) (hts (.fieldLink RX12 349 "BondCalendarsModel" "taped" "I") (by decide +kernel)) (fun _ h9 => h9) (List.getElem?_set_self (by rw [(List.length_set.trans hn_h0)]; decide)) dX12_feed_83 ?_
                                refine lv_iload hx hb dX12_feed_86 (lv_at hl 0 rfl) ?_
                                refine lv_bipush (v := 24) hx hb dX12_feed_88 (by decide) ?_
                                refine lv_bipush (v := 8) hx hb dX12_feed_90 (by decide) ?_
                                refine lv_iload hx hb dX12_feed_92 (lv_at hl 1 rfl) ?_
                                refine lv_iconst (v := 4) hx hb dX12_feed_94 (by decide) ?_
                                refine lv_irem hx hb dX12_feed_95 (by decide) ?_
                                refine lv_topi (fun z_57 ez_57 => ?_)
                                obtain rfl : z_57 = 1 := ez_57.trans (by decide)
                                refine lv_imul hx hb dX12_feed_96 ?_
                                refine lv_topi (fun z_58 ez_58 => ?_)
                                obtain rfl : z_58 = 8 := ez_58.trans (by decide)
                                refine lv_isub hx hb dX12_feed_97 ?_
                                refine lv_topi (fun z_59 ez_59 => ?_)
                                obtain rfl : z_59 = 16 := ez_59.trans (by decide)
                                refine lv_ishr hx hb dX12_feed_98 ?_
                                refine lv_topi (fun x_60 _ => ?_)
                                refine lv_i2b hx hb dX12_feed_99 rfl ?_
                                refine lv_topi (fun x_61 _ => ?_)
                                refine va_bast hx hb hK hP hD hS 1 0 rfl rfl (vp_in_nI (n := 5) (by decide) (by decide)) dX12_feed_100 (fun H locs hP hD hS => ?_)
                                have hP : va_P (dC, dI) vwCl [(h0, .inr (11, ((fs_h0.set 0 (.int 0)).set 31 (.int 5)))), (ba, .inl (cB, 900, .inl (upd f_51 (5 : Int32).toNatClampNeg (vp_nar .byte x_61))))] H := hP
                                have hD : va_D A [(h0, .inr (11, ((fs_h0.set 0 (.int 0)).set 31 (.int 5)))), (ba, .inl (cB, 900, .inl (upd f_51 (5 : Int32).toNatClampNeg (vp_nar .byte x_61))))] := hD
                                generalize (upd f_51 (5 : Int32).toNatClampNeg (vp_nar .byte x_61)) = f_62 at hP hD
                                refine lv_aload_n hx hb dX12_feed_101 rfl (lv_at hl 2 rfl) ?_
                                refine lv_dup hx hb dX12_feed_102 rfl ?_
                                refine va_get (D := (dC, dI)) (ci := 11) (v := .int 5) (C := RX12) (T := TX12) (N := 69) hx hb hts hinX12 hown hK hP 0 rfl rfl 31 (by decide) (hts (.fieldLink RX12 349 "BondCalendarsModel" "taped" "I") (by decide +kernel)) (fun _ h9 => h9) (List.getElem?_set_self (by rw [(List.length_set.trans hn_h0)]; decide)) dX12_feed_103 ?_
                                refine lv_iconst (v := 1) hx hb dX12_feed_106 (by decide) ?_
                                refine lv_iadd hx hb dX12_feed_107 ?_
                                refine lv_topi (fun z_63 ez_63 => ?_)
                                obtain rfl : z_63 = 6 := ez_63.trans (by decide)
                                refine va_put (D := (dC, dI)) (ci := 11) (v := .int 6) (C := RX12) (T := TX12) (N := 69) hx hb hts hinX12 tyX12 tyX12_ok nmX12 hown hK hP hD hS 0 rfl rfl 31 (by decide) (hts (.fieldLink RX12 349 "BondCalendarsModel" "taped" "I") (by decide +kernel)) (fun _ h9 => h9) rfl (ty := .int) (by decide +kernel) rfl rfl (by rw [(List.length_set.trans (List.length_set.trans hn_h0))]; decide) dX12_feed_108 (fun H locs hP hD hS => ?_)
                                rw [List.set_set] at hP hD
                                have hP : va_P (dC, dI) vwCl [(h0, .inr (11, ((fs_h0.set 0 (.int 0)).set 31 (.int 6)))), (ba, .inl (cB, 900, .inl f_62))] H := hP
                                have hD : va_D A [(h0, .inr (11, ((fs_h0.set 0 (.int 0)).set 31 (.int 6)))), (ba, .inl (cB, 900, .inl f_62))] := hD
                                refine lv_iinc (v := 6) (lv' := [(6, .int 6), (7, .int p1), (0, .ref h0), (1, .int p0), (2, .int p1), (3, .int p2), (4, .int p3), (5, .int p4)]) hx hb dX12_feed_111 hl (k := 1) rfl (by decide) (by decide) rfl (fun ls hl => ?_)
                                refine lv_goto (tgt := 23) hx hb dX12_feed_114 (by decide) ?_
                                refine lv_iload hx hb dX12_feed_23 (lv_at hl 0 rfl) ?_
                                refine lv_bipush (v := 20) hx hb dX12_feed_25 (by decide) ?_
                                refine lv_icmp_ge (tgt := 117) hx hb dX12_feed_27 (by decide) (fun c_65 => ?_) (fun c_65 => ?_)
                                · exact absurd c_65 (by decide)
                                · refine lv_iload hx hb dX12_feed_30 (lv_at hl 0 rfl) ?_
                                  refine lv_iconst (v := 4) hx hb dX12_feed_32 (by decide) ?_
                                  refine lv_icmp_ge (tgt := 40) hx hb dX12_feed_33 (by decide) (fun c_66 => ?_) (fun c_66 => ?_)
                                  · refine lv_iload hx hb dX12_feed_40 (lv_at hl 0 rfl) ?_
                                    refine lv_bipush (v := 8) hx hb dX12_feed_42 (by decide) ?_
                                    refine lv_icmp_ge (tgt := 51) hx hb dX12_feed_44 (by decide) (fun c_67 => ?_) (fun c_67 => ?_)
                                    · exact absurd c_67 (by decide)
                                    · refine lv_iload_n hx hb dX12_feed_47 rfl (lv_at hl 4 rfl) ?_
                                      refine lv_goto (tgt := 76) hx hb dX12_feed_48 (by decide) ?_
                                      refine lv_istore (lv' := [(7, .int p1), (6, .int 6), (0, .ref h0), (1, .int p0), (2, .int p1), (3, .int p2), (4, .int p3), (5, .int p4)]) hx hb dX12_feed_76 hl (by decide) rfl (fun ls hl => ?_)
                                      refine lv_aload_n hx hb dX12_feed_78 rfl (lv_at hl 2 rfl) ?_
                                      refine va_get (D := (dC, dI)) (ci := 11) (v := .ref ba) (C := RX12) (T := TX12) (N := 69) hx hb hts hinX12 hown hK hP 0 rfl rfl 30 (by decide) (hts (.fieldLink RX12 60 "BondCalendarsModel" "tape" "[B") (by decide +kernel)) (fun _ h9 => h9) ((List.getElem?_set_ne (by decide)).trans ((List.getElem?_set_ne (by decide)).trans hf_h0_30)) dX12_feed_79 ?_
                                      refine lv_aload_n hx hb dX12_feed_82 rfl (lv_at hl 2 rfl) ?_
                                      refine va_get (D := (dC, dI)) (ci := 11) (v := .int 6) (C := RX12) (T := TX12) (N := 69) hx hb hts hinX12 hown hK hP 0 rfl rfl 31 (by decide) (hts (.fieldLink RX12 349 "BondCalendarsModel" "taped" "I") (by decide +kernel)) (fun _ h9 => h9) (List.getElem?_set_self (by rw [(List.length_set.trans hn_h0)]; decide)) dX12_feed_83 ?_
                                      refine lv_iload hx hb dX12_feed_86 (lv_at hl 0 rfl) ?_
                                      refine lv_bipush (v := 24) hx hb dX12_feed_88 (by decide) ?_
                                      refine lv_bipush (v := 8) hx hb dX12_feed_90 (by decide) ?_
                                      refine lv_iload hx hb dX12_feed_92 (lv_at hl 1 rfl) ?_
                                      refine lv_iconst (v := 4) hx hb dX12_feed_94 (by decide) ?_
                                      refine lv_irem hx hb dX12_feed_95 (by decide) ?_
                                      refine lv_topi (fun z_68 ez_68 => ?_)
                                      obtain rfl : z_68 = 2 := ez_68.trans (by decide)
                                      refine lv_imul hx hb dX12_feed_96 ?_
                                      refine lv_topi (fun z_69 ez_69 => ?_)
                                      obtain rfl : z_69 = 16 := ez_69.trans (by decide)
                                      refine lv_isub hx hb dX12_feed_97 ?_
                                      refine lv_topi (fun z_70 ez_70 => ?_)
                                      obtain rfl : z_70 = 8 := ez_70.trans (by decide)
                                      refine lv_ishr hx hb dX12_feed_98 ?_
                                      refine lv_topi (fun x_71 _ => ?_)
                                      refine lv_i2b hx hb dX12_feed_99 rfl ?_
                                      refine lv_topi (fun x_72 _ => ?_)
                                      refine va_bast hx hb hK hP hD hS 1 0 rfl rfl (vp_in_nI (n := 6) (by decide) (by decide)) dX12_feed_100 (fun H locs hP hD hS => ?_)
                                      have hP : va_P (dC, dI) vwCl [(h0, .inr (11, ((fs_h0.set 0 (.int 0)).set 31 (.int 6)))), (ba, .inl (cB, 900, .inl (upd f_62 (6 : Int32).toNatClampNeg (vp_nar .byte x_72))))] H := hP
                                      have hD : va_D A [(h0, .inr (11, ((fs_h0.set 0 (.int 0)).set 31 (.int 6)))), (ba, .inl (cB, 900, .inl (upd f_62 (6 : Int32).toNatClampNeg (vp_nar .byte x_72))))] := hD
                                      generalize (upd f_62 (6 : Int32).toNatClampNeg (vp_nar .byte x_72)) = f_73 at hP hD
                                      refine lv_aload_n hx hb dX12_feed_101 rfl (lv_at hl 2 rfl) ?_
                                      refine lv_dup hx hb dX12_feed_102 rfl ?_
                                      refine va_get (D := (dC, dI)) (ci := 11) (v := .int 6) (C := RX12) (T := TX12) (N := 69) hx hb hts hinX12 hown hK hP 0 rfl rfl 31 (by decide) (hts (.fieldLink RX12 349 "BondCalendarsModel" "taped" "I") (by decide +kernel)) (fun _ h9 => h9) (List.getElem?_set_self (by rw [(List.length_set.trans hn_h0)]; decide)) dX12_feed_103 ?_
                                      refine lv_iconst (v := 1) hx hb dX12_feed_106 (by decide) ?_
                                      refine lv_iadd hx hb dX12_feed_107 ?_
                                      refine lv_topi (fun z_74 ez_74 => ?_)
                                      obtain rfl : z_74 = 7 := ez_74.trans (by decide)
                                      refine va_put (D := (dC, dI)) (ci := 11) (v := .int 7) (C := RX12) (T := TX12) (N := 69) hx hb hts hinX12 tyX12 tyX12_ok nmX12 hown hK hP hD hS 0 rfl rfl 31 (by decide) (hts (.fieldLink RX12 349 "BondCalendarsModel" "taped" "I") (by decide +kernel)) (fun _ h9 => h9) rfl (ty := .int) (by decide +kernel) rfl rfl (by rw [(List.length_set.trans (List.length_set.trans hn_h0))]; decide) dX12_feed_108 (fun H locs hP hD hS => ?_)
                                      rw [List.set_set] at hP hD
                                      have hP : va_P (dC, dI) vwCl [(h0, .inr (11, ((fs_h0.set 0 (.int 0)).set 31 (.int 7)))), (ba, .inl (cB, 900, .inl f_73))] H := hP
                                      have hD : va_D A [(h0, .inr (11, ((fs_h0.set 0 (.int 0)).set 31 (.int 7)))), (ba, .inl (cB, 900, .inl f_73))] := hD
                                      refine lv_iinc (v := 7) (lv' := [(6, .int 7), (7, .int p1), (0, .ref h0), (1, .int p0), (2, .int p1), (3, .int p2), (4, .int p3), (5, .int p4)]) hx hb dX12_feed_111 hl (k := 1) rfl (by decide) (by decide) rfl (fun ls hl => ?_)
                                      refine lv_goto (tgt := 23) hx hb dX12_feed_114 (by decide) ?_
                                      refine lv_iload hx hb dX12_feed_23 (lv_at hl 0 rfl) ?_
                                      refine lv_bipush (v := 20) hx hb dX12_feed_25 (by decide) ?_
                                      refine lv_icmp_ge (tgt := 117) hx hb dX12_feed_27 (by decide) (fun c_76 => ?_) (fun c_76 => ?_)
                                      · exact absurd c_76 (by decide)
                                      · refine lv_iload hx hb dX12_feed_30 (lv_at hl 0 rfl) ?_
                                        refine lv_iconst (v := 4) hx hb dX12_feed_32 (by decide) ?_
                                        refine lv_icmp_ge (tgt := 40) hx hb dX12_feed_33 (by decide) (fun c_77 => ?_) (fun c_77 => ?_)
                                        · refine lv_iload hx hb dX12_feed_40 (lv_at hl 0 rfl) ?_
                                          refine lv_bipush (v := 8) hx hb dX12_feed_42 (by decide) ?_
                                          refine lv_icmp_ge (tgt := 51) hx hb dX12_feed_44 (by decide) (fun c_78 => ?_) (fun c_78 => ?_)
                                          · exact absurd c_78 (by decide)
                                          · refine lv_iload_n hx hb dX12_feed_47 rfl (lv_at hl 4 rfl) ?_
                                            refine lv_goto (tgt := 76) hx hb dX12_feed_48 (by decide) ?_
                                            refine lv_istore (lv' := [(7, .int p1), (6, .int 7), (0, .ref h0), (1, .int p0), (2, .int p1), (3, .int p2), (4, .int p3), (5, .int p4)]) hx hb dX12_feed_76 hl (by decide) rfl (fun ls hl => ?_)
                                            refine lv_aload_n hx hb dX12_feed_78 rfl (lv_at hl 2 rfl) ?_
                                            refine va_get (D := (dC, dI)) (ci := 11) (v := .ref ba) (C := RX12) (T := TX12) (N := 69) hx hb hts hinX12 hown hK hP 0 rfl rfl 30 (by decide) (hts (.fieldLink RX12 60 "BondCalendarsModel" "tape" "[B") (by decide +kernel)) (fun _ h9 => h9) ((List.getElem?_set_ne (by decide)).trans ((List.getElem?_set_ne (by decide)).trans hf_h0_30)) dX12_feed_79 ?_
                                            refine lv_aload_n hx hb dX12_feed_82 rfl (lv_at hl 2 rfl) ?_
                                            refine va_get (D := (dC, dI)) (ci := 11) (v := .int 7) (C := RX12) (T := TX12) (N := 69) hx hb hts hinX12 hown hK hP 0 rfl rfl 31 (by decide) (hts (.fieldLink RX12 349 "BondCalendarsModel" "taped" "I") (by decide +kernel)) (fun _ h9 => h9) (List.getElem?_set_self (by rw [(List.length_set.trans hn_h0)]; decide)) dX12_feed_83 ?_
                                            refine lv_iload hx hb dX12_feed_86 (lv_at hl 0 rfl) ?_
                                            refine lv_bipush (v := 24) hx hb dX12_feed_88 (by decide) ?_
                                            refine lv_bipush (v := 8) hx hb dX12_feed_90 (by decide) ?_
                                            refine lv_iload hx hb dX12_feed_92 (lv_at hl 1 rfl) ?_
                                            refine lv_iconst (v := 4) hx hb dX12_feed_94 (by decide) ?_
                                            refine lv_irem hx hb dX12_feed_95 (by decide) ?_
                                            refine lv_topi (fun z_79 ez_79 => ?_)
                                            obtain rfl : z_79 = 3 := ez_79.trans (by decide)
                                            refine lv_imul hx hb dX12_feed_96 ?_
                                            refine lv_topi (fun z_80 ez_80 => ?_)
                                            obtain rfl : z_80 = 24 := ez_80.trans (by decide)
                                            refine lv_isub hx hb dX12_feed_97 ?_
                                            refine lv_topi (fun z_81 ez_81 => ?_)
                                            obtain rfl : z_81 = 0 := ez_81.trans (by decide)
                                            refine lv_ishr hx hb dX12_feed_98 ?_
                                            refine lv_topi (fun x_82 _ => ?_)
                                            refine lv_i2b hx hb dX12_feed_99 rfl ?_
                                            refine lv_topi (fun x_83 _ => ?_)
                                            refine va_bast hx hb hK hP hD hS 1 0 rfl rfl (vp_in_nI (n := 7) (by decide) (by decide)) dX12_feed_100 (fun H locs hP hD hS => ?_)
                                            have hP : va_P (dC, dI) vwCl [(h0, .inr (11, ((fs_h0.set 0 (.int 0)).set 31 (.int 7)))), (ba, .inl (cB, 900, .inl (upd f_73 (7 : Int32).toNatClampNeg (vp_nar .byte x_83))))] H := hP
                                            have hD : va_D A [(h0, .inr (11, ((fs_h0.set 0 (.int 0)).set 31 (.int 7)))), (ba, .inl (cB, 900, .inl (upd f_73 (7 : Int32).toNatClampNeg (vp_nar .byte x_83))))] := hD
                                            generalize (upd f_73 (7 : Int32).toNatClampNeg (vp_nar .byte x_83)) = f_84 at hP hD
                                            refine lv_aload_n hx hb dX12_feed_101 rfl (lv_at hl 2 rfl) ?_
                                            refine lv_dup hx hb dX12_feed_102 rfl ?_
                                            refine va_get (D := (dC, dI)) (ci := 11) (v := .int 7) (C := RX12) (T := TX12) (N := 69) hx hb hts hinX12 hown hK hP 0 rfl rfl 31 (by decide) (hts (.fieldLink RX12 349 "BondCalendarsModel" "taped" "I") (by decide +kernel)) (fun _ h9 => h9) (List.getElem?_set_self (by rw [(List.length_set.trans hn_h0)]; decide)) dX12_feed_103 ?_
                                            refine lv_iconst (v := 1) hx hb dX12_feed_106 (by decide) ?_
                                            refine lv_iadd hx hb dX12_feed_107 ?_
                                            refine lv_topi (fun z_85 ez_85 => ?_)
                                            obtain rfl : z_85 = 8 := ez_85.trans (by decide)
                                            refine va_put (D := (dC, dI)) (ci := 11) (v := .int 8) (C := RX12) (T := TX12) (N := 69) hx hb hts hinX12 tyX12 tyX12_ok nmX12 hown hK hP hD hS 0 rfl rfl 31 (by decide) (hts (.fieldLink RX12 349 "BondCalendarsModel" "taped" "I") (by decide +kernel)) (fun _ h9 => h9) rfl (ty := .int) (by decide +kernel) rfl rfl (by rw [(List.length_set.trans (List.length_set.trans hn_h0))]; decide) dX12_feed_108 (fun H locs hP hD hS => ?_)
                                            rw [List.set_set] at hP hD
                                            have hP : va_P (dC, dI) vwCl [(h0, .inr (11, ((fs_h0.set 0 (.int 0)).set 31 (.int 8)))), (ba, .inl (cB, 900, .inl f_84))] H := hP
                                            have hD : va_D A [(h0, .inr (11, ((fs_h0.set 0 (.int 0)).set 31 (.int 8)))), (ba, .inl (cB, 900, .inl f_84))] := hD
                                            refine lv_iinc (v := 8) (lv' := [(6, .int 8), (7, .int p1), (0, .ref h0), (1, .int p0), (2, .int p1), (3, .int p2), (4, .int p3), (5, .int p4)]) hx hb dX12_feed_111 hl (k := 1) rfl (by decide) (by decide) rfl (fun ls hl => ?_)
                                            refine lv_goto (tgt := 23) hx hb dX12_feed_114 (by decide) ?_
                                            refine lv_iload hx hb dX12_feed_23 (lv_at hl 0 rfl) ?_
                                            refine lv_bipush (v := 20) hx hb dX12_feed_25 (by decide) ?_
                                            refine lv_icmp_ge (tgt := 117) hx hb dX12_feed_27 (by decide) (fun c_87 => ?_) (fun c_87 => ?_)
                                            · exact absurd c_87 (by decide)
                                            · refine lv_iload hx hb dX12_feed_30 (lv_at hl 0 rfl) ?_
                                              refine lv_iconst (v := 4) hx hb dX12_feed_32 (by decide) ?_
                                              refine lv_icmp_ge (tgt := 40) hx hb dX12_feed_33 (by decide) (fun c_88 => ?_) (fun c_88 => ?_)
                                              · refine lv_iload hx hb dX12_feed_40 (lv_at hl 0 rfl) ?_
                                                refine lv_bipush (v := 8) hx hb dX12_feed_42 (by decide) ?_
                                                refine lv_icmp_ge (tgt := 51) hx hb dX12_feed_44 (by decide) (fun c_89 => ?_) (fun c_89 => ?_)
                                                · refine lv_iload hx hb dX12_feed_51 (lv_at hl 0 rfl) ?_
                                                  refine lv_bipush (v := 12) hx hb dX12_feed_53 (by decide) ?_
                                                  refine lv_icmp_ge (tgt := 62) hx hb dX12_feed_55 (by decide) (fun c_90 => ?_) (fun c_90 => ?_)
                                                  · exact absurd c_90 (by decide)
                                                  · refine lv_iload_n hx hb dX12_feed_58 rfl (lv_at hl 5 rfl) ?_
                                                    refine lv_goto (tgt := 76) hx hb dX12_feed_59 (by decide) ?_
                                                    refine lv_istore (lv' := [(7, .int p2), (6, .int 8), (0, .ref h0), (1, .int p0), (2, .int p1), (3, .int p2), (4, .int p3), (5, .int p4)]) hx hb dX12_feed_76 hl (by decide) rfl (fun ls hl => ?_)
                                                    refine lv_aload_n hx hb dX12_feed_78 rfl (lv_at hl 2 rfl) ?_
                                                    refine va_get (D := (dC, dI)) (ci := 11) (v := .ref ba) (C := RX12) (T := TX12) (N := 69) hx hb hts hinX12 hown hK hP 0 rfl rfl 30 (by decide) (hts (.fieldLink RX12 60 "BondCalendarsModel" "tape" "[B") (by decide +kernel)) (fun _ h9 => h9) ((List.getElem?_set_ne (by decide)).trans ((List.getElem?_set_ne (by decide)).trans hf_h0_30)) dX12_feed_79 ?_
                                                    refine lv_aload_n hx hb dX12_feed_82 rfl (lv_at hl 2 rfl) ?_
                                                    refine va_get (D := (dC, dI)) (ci := 11) (v := .int 8) (C := RX12) (T := TX12) (N := 69) hx hb hts hinX12 hown hK hP 0 rfl rfl 31 (by decide) (hts (.fieldLink RX12 349 "BondCalendarsModel" "taped" "I") (by decide +kernel)) (fun _ h9 => h9) (List.getElem?_set_self (by rw [(List.length_set.trans hn_h0)]; decide)) dX12_feed_83 ?_
                                                    refine lv_iload hx hb dX12_feed_86 (lv_at hl 0 rfl) ?_
                                                    refine lv_bipush (v := 24) hx hb dX12_feed_88 (by decide) ?_
                                                    refine lv_bipush (v := 8) hx hb dX12_feed_90 (by decide) ?_
                                                    refine lv_iload hx hb dX12_feed_92 (lv_at hl 1 rfl) ?_
                                                    refine lv_iconst (v := 4) hx hb dX12_feed_94 (by decide) ?_
                                                    refine lv_irem hx hb dX12_feed_95 (by decide) ?_
                                                    refine lv_topi (fun z_91 ez_91 => ?_)
                                                    obtain rfl : z_91 = 0 := ez_91.trans (by decide)
                                                    refine lv_imul hx hb dX12_feed_96 ?_
                                                    refine lv_topi (fun z_92 ez_92 => ?_)
                                                    obtain rfl : z_92 = 0 := ez_92.trans (by decide)
                                                    refine lv_isub hx hb dX12_feed_97 ?_
                                                    refine lv_topi (fun z_93 ez_93 => ?_)
                                                    obtain rfl : z_93 = 24 := ez_93.trans (by decide)
                                                    refine lv_ishr hx hb dX12_feed_98 ?_
                                                    refine lv_topi (fun x_94 _ => ?_)
                                                    refine lv_i2b hx hb dX12_feed_99 rfl ?_
                                                    refine lv_topi (fun x_95 _ => ?_)
                                                    refine va_bast hx hb hK hP hD hS 1 0 rfl rfl (vp_in_nI (n := 8) (by decide) (by decide)) dX12_feed_100 (fun H locs hP hD hS => ?_)
                                                    have hP : va_P (dC, dI) vwCl [(h0, .inr (11, ((fs_h0.set 0 (.int 0)).set 31 (.int 8)))), (ba, .inl (cB, 900, .inl (upd f_84 (8 : Int32).toNatClampNeg (vp_nar .byte x_95))))] H := hP
                                                    have hD : va_D A [(h0, .inr (11, ((fs_h0.set 0 (.int 0)).set 31 (.int 8)))), (ba, .inl (cB, 900, .inl (upd f_84 (8 : Int32).toNatClampNeg (vp_nar .byte x_95))))] := hD
                                                    generalize (upd f_84 (8 : Int32).toNatClampNeg (vp_nar .byte x_95)) = f_96 at hP hD
                                                    refine lv_aload_n hx hb dX12_feed_101 rfl (lv_at hl 2 rfl) ?_
                                                    refine lv_dup hx hb dX12_feed_102 rfl ?_
                                                    refine va_get (D := (dC, dI)) (ci := 11) (v := .int 8) (C := RX12) (T := TX12) (N := 69) hx hb hts hinX12 hown hK hP 0 rfl rfl 31 (by decide) (hts (.fieldLink RX12 349 "BondCalendarsModel" "taped" "I") (by decide +kernel)) (fun _ h9 => h9) (List.getElem?_set_self (by rw [(List.length_set.trans hn_h0)]; decide)) dX12_feed_103 ?_
                                                    refine lv_iconst (v := 1) hx hb dX12_feed_106 (by decide) ?_
                                                    refine lv_iadd hx hb dX12_feed_107 ?_
                                                    refine lv_topi (fun z_97 ez_97 => ?_)
                                                    obtain rfl : z_97 = 9 := ez_97.trans (by decide)
                                                    refine va_put (D := (dC, dI)) (ci := 11) (v := .int 9) (C := RX12) (T := TX12) (N := 69) hx hb hts hinX12 tyX12 tyX12_ok nmX12 hown hK hP hD hS 0 rfl rfl 31 (by decide) (hts (.fieldLink RX12 349 "BondCalendarsModel" "taped" "I") (by decide +kernel)) (fun _ h9 => h9) rfl (ty := .int) (by decide +kernel) rfl rfl (by rw [(List.length_set.trans (List.length_set.trans hn_h0))]; decide) dX12_feed_108 (fun H locs hP hD hS => ?_)
                                                    rw [List.set_set] at hP hD
                                                    have hP : va_P (dC, dI) vwCl [(h0, .inr (11, ((fs_h0.set 0 (.int 0)).set 31 (.int 9)))), (ba, .inl (cB, 900, .inl f_96))] H := hP
                                                    have hD : va_D A [(h0, .inr (11, ((fs_h0.set 0 (.int 0)).set 31 (.int 9)))), (ba, .inl (cB, 900, .inl f_96))] := hD
                                                    refine lv_iinc (v := 9) (lv' := [(6, .int 9), (7, .int p2), (0, .ref h0), (1, .int p0), (2, .int p1), (3, .int p2), (4, .int p3), (5, .int p4)]) hx hb dX12_feed_111 hl (k := 1) rfl (by decide) (by decide) rfl (fun ls hl => ?_)
                                                    refine lv_goto (tgt := 23) hx hb dX12_feed_114 (by decide) ?_
                                                    refine lv_iload hx hb dX12_feed_23 (lv_at hl 0 rfl) ?_
                                                    refine lv_bipush (v := 20) hx hb dX12_feed_25 (by decide) ?_
                                                    refine lv_icmp_ge (tgt := 117) hx hb dX12_feed_27 (by decide) (fun c_99 => ?_) (fun c_99 => ?_)
                                                    · exact absurd c_99 (by decide)
                                                    · refine lv_iload hx hb dX12_feed_30 (lv_at hl 0 rfl) ?_
                                                      refine lv_iconst (v := 4) hx hb dX12_feed_32 (by decide) ?_
                                                      refine lv_icmp_ge (tgt := 40) hx hb dX12_feed_33 (by decide) (fun c_100 => ?_) (fun c_100 => ?_)
                                                      · refine lv_iload hx hb dX12_feed_40 (lv_at hl 0 rfl) ?_
                                                        refine lv_bipush (v := 8) hx hb dX12_feed_42 (by decide) ?_
                                                        refine lv_icmp_ge (tgt := 51) hx hb dX12_feed_44 (by decide) (fun c_101 => ?_) (fun c_101 => ?_)
                                                        · refine lv_iload hx hb dX12_feed_51 (lv_at hl 0 rfl) ?_
                                                          refine lv_bipush (v := 12) hx hb dX12_feed_53 (by decide) ?_
                                                          refine lv_icmp_ge (tgt := 62) hx hb dX12_feed_55 (by decide) (fun c_102 => ?_) (fun c_102 => ?_)
                                                          · exact absurd c_102 (by decide)
                                                          · refine lv_iload_n hx hb dX12_feed_58 rfl (lv_at hl 5 rfl) ?_
                                                            refine lv_goto (tgt := 76) hx hb dX12_feed_59 (by decide) ?_
                                                            refine lv_istore (lv' := [(7, .int p2), (6, .int 9), (0, .ref h0), (1, .int p0), (2, .int p1), (3, .int p2), (4, .int p3), (5, .int p4)]) hx hb dX12_feed_76 hl (by decide) rfl (fun ls hl => ?_)
                                                            refine lv_aload_n hx hb dX12_feed_78 rfl (lv_at hl 2 rfl) ?_
                                                            refine va_get (D := (dC, dI)) (ci := 11) (v := .ref ba) (C := RX12) (T := TX12) (N := 69) hx hb hts hinX12 hown hK hP 0 rfl rfl 30 (by decide) (hts (.fieldLink RX12 60 "BondCalendarsModel" "tape" "[B") (by decide +kernel)) (fun _ h9 => h9) ((List.getElem?_set_ne (by decide)).trans ((List.getElem?_set_ne (by decide)).trans hf_h0_30)) dX12_feed_79 ?_
                                                            refine lv_aload_n hx hb dX12_feed_82 rfl (lv_at hl 2 rfl) ?_
                                                            refine va_get (D := (dC, dI)) (ci := 11) (v := .int 9) (C := RX12) (T := TX12) (N := 69) hx hb hts hinX12 hown hK hP 0 rfl rfl 31 (by decide) (hts (.fieldLink RX12 349 "BondCalendarsModel" "taped" "I") (by decide +kernel)) (fun _ h9 => h9) (List.getElem?_set_self (by rw [(List.length_set.trans hn_h0)]; decide)) dX12_feed_83 ?_
                                                            refine lv_iload hx hb dX12_feed_86 (lv_at hl 0 rfl) ?_
                                                            refine lv_bipush (v := 24) hx hb dX12_feed_88 (by decide) ?_
                                                            refine lv_bipush (v := 8) hx hb dX12_feed_90 (by decide) ?_
                                                            refine lv_iload hx hb dX12_feed_92 (lv_at hl 1 rfl) ?_
                                                            refine lv_iconst (v := 4) hx hb dX12_feed_94 (by decide) ?_
                                                            refine lv_irem hx hb dX12_feed_95 (by decide) ?_
                                                            refine lv_topi (fun z_103 ez_103 => ?_)
                                                            obtain rfl : z_103 = 1 := ez_103.trans (by decide)
                                                            refine lv_imul hx hb dX12_feed_96 ?_
                                                            refine lv_topi (fun z_104 ez_104 => ?_)
                                                            obtain rfl : z_104 = 8 := ez_104.trans (by decide)
                                                            refine lv_isub hx hb dX12_feed_97 ?_
                                                            refine lv_topi (fun z_105 ez_105 => ?_)
                                                            obtain rfl : z_105 = 16 := ez_105.trans (by decide)
                                                            refine lv_ishr hx hb dX12_feed_98 ?_
                                                            refine lv_topi (fun x_106 _ => ?_)
                                                            refine lv_i2b hx hb dX12_feed_99 rfl ?_
                                                            refine lv_topi (fun x_107 _ => ?_)
                                                            refine va_bast hx hb hK hP hD hS 1 0 rfl rfl (vp_in_nI (n := 9) (by decide) (by decide)) dX12_feed_100 (fun H locs hP hD hS => ?_)
                                                            have hP : va_P (dC, dI) vwCl [(h0, .inr (11, ((fs_h0.set 0 (.int 0)).set 31 (.int 9)))), (ba, .inl (cB, 900, .inl (upd f_96 (9 : Int32).toNatClampNeg (vp_nar .byte x_107))))] H := hP
                                                            have hD : va_D A [(h0, .inr (11, ((fs_h0.set 0 (.int 0)).set 31 (.int 9)))), (ba, .inl (cB, 900, .inl (upd f_96 (9 : Int32).toNatClampNeg (vp_nar .byte x_107))))] := hD
                                                            generalize (upd f_96 (9 : Int32).toNatClampNeg (vp_nar .byte x_107)) = f_108 at hP hD
                                                            refine lv_aload_n hx hb dX12_feed_101 rfl (lv_at hl 2 rfl) ?_
                                                            refine lv_dup hx hb dX12_feed_102 rfl ?_
                                                            refine va_get (D := (dC, dI)) (ci := 11) (v := .int 9) (C := RX12) (T := TX12) (N := 69) hx hb hts hinX12 hown hK hP 0 rfl rfl 31 (by decide) (hts (.fieldLink RX12 349 "BondCalendarsModel" "taped" "I") (by decide +kernel)) (fun _ h9 => h9) (List.getElem?_set_self (by rw [(List.length_set.trans hn_h0)]; decide)) dX12_feed_103 ?_
                                                            refine lv_iconst (v := 1) hx hb dX12_feed_106 (by decide) ?_
                                                            refine lv_iadd hx hb dX12_feed_107 ?_
                                                            refine lv_topi (fun z_109 ez_109 => ?_)
                                                            obtain rfl : z_109 = 10 := ez_109.trans (by decide)
                                                            refine va_put (D := (dC, dI)) (ci := 11) (v := .int 10) (C := RX12) (T := TX12) (N := 69) hx hb hts hinX12 tyX12 tyX12_ok nmX12 hown hK hP hD hS 0 rfl rfl 31 (by decide) (hts (.fieldLink RX12 349 "BondCalendarsModel" "taped" "I") (by decide +kernel)) (fun _ h9 => h9) rfl (ty := .int) (by decide +kernel) rfl rfl (by rw [(List.length_set.trans (List.length_set.trans hn_h0))]; decide) dX12_feed_108 (fun H locs hP hD hS => ?_)
                                                            rw [List.set_set] at hP hD
                                                            have hP : va_P (dC, dI) vwCl [(h0, .inr (11, ((fs_h0.set 0 (.int 0)).set 31 (.int 10)))), (ba, .inl (cB, 900, .inl f_108))] H := hP
                                                            have hD : va_D A [(h0, .inr (11, ((fs_h0.set 0 (.int 0)).set 31 (.int 10)))), (ba, .inl (cB, 900, .inl f_108))] := hD
                                                            refine lv_iinc (v := 10) (lv' := [(6, .int 10), (7, .int p2), (0, .ref h0), (1, .int p0), (2, .int p1), (3, .int p2), (4, .int p3), (5, .int p4)]) hx hb dX12_feed_111 hl (k := 1) rfl (by decide) (by decide) rfl (fun ls hl => ?_)
                                                            refine lv_goto (tgt := 23) hx hb dX12_feed_114 (by decide) ?_
                                                            refine lv_iload hx hb dX12_feed_23 (lv_at hl 0 rfl) ?_
                                                            refine lv_bipush (v := 20) hx hb dX12_feed_25 (by decide) ?_
                                                            refine lv_icmp_ge (tgt := 117) hx hb dX12_feed_27 (by decide) (fun c_111 => ?_) (fun c_111 => ?_)
                                                            · exact absurd c_111 (by decide)
                                                            · refine lv_iload hx hb dX12_feed_30 (lv_at hl 0 rfl) ?_
                                                              refine lv_iconst (v := 4) hx hb dX12_feed_32 (by decide) ?_
                                                              refine lv_icmp_ge (tgt := 40) hx hb dX12_feed_33 (by decide) (fun c_112 => ?_) (fun c_112 => ?_)
                                                              · refine lv_iload hx hb dX12_feed_40 (lv_at hl 0 rfl) ?_
                                                                refine lv_bipush (v := 8) hx hb dX12_feed_42 (by decide) ?_
                                                                refine lv_icmp_ge (tgt := 51) hx hb dX12_feed_44 (by decide) (fun c_113 => ?_) (fun c_113 => ?_)
                                                                · refine lv_iload hx hb dX12_feed_51 (lv_at hl 0 rfl) ?_
                                                                  refine lv_bipush (v := 12) hx hb dX12_feed_53 (by decide) ?_
                                                                  refine lv_icmp_ge (tgt := 62) hx hb dX12_feed_55 (by decide) (fun c_114 => ?_) (fun c_114 => ?_)
                                                                  · exact absurd c_114 (by decide)
                                                                  · refine lv_iload_n hx hb dX12_feed_58 rfl (lv_at hl 5 rfl) ?_
                                                                    refine lv_goto (tgt := 76) hx hb dX12_feed_59 (by decide) ?_
                                                                    refine lv_istore (lv' := [(7, .int p2), (6, .int 10), (0, .ref h0), (1, .int p0), (2, .int p1), (3, .int p2), (4, .int p3), (5, .int p4)]) hx hb dX12_feed_76 hl (by decide) rfl (fun ls hl => ?_)
                                                                    refine lv_aload_n hx hb dX12_feed_78 rfl (lv_at hl 2 rfl) ?_
                                                                    refine va_get (D := (dC, dI)) (ci := 11) (v := .ref ba) (C := RX12) (T := TX12) (N := 69) hx hb hts hinX12 hown hK hP 0 rfl rfl 30 (by decide) (hts (.fieldLink RX12 60 "BondCalendarsModel" "tape" "[B") (by decide +kernel)) (fun _ h9 => h9) ((List.getElem?_set_ne (by decide)).trans ((List.getElem?_set_ne (by decide)).trans hf_h0_30)) dX12_feed_79 ?_
                                                                    refine lv_aload_n hx hb dX12_feed_82 rfl (lv_at hl 2 rfl) ?_
                                                                    refine va_get (D := (dC, dI)) (ci := 11) (v := .int 10) (C := RX12) (T := TX12) (N := 69) hx hb hts hinX12 hown hK hP 0 rfl rfl 31 (by decide) (hts (.fieldLink RX12 349 "BondCalendarsModel" "taped" "I") (by decide +kernel)) (fun _ h9 => h9) (List.getElem?_set_self (by rw [(List.length_set.trans hn_h0)]; decide)) dX12_feed_83 ?_
                                                                    refine lv_iload hx hb dX12_feed_86 (lv_at hl 0 rfl) ?_
                                                                    refine lv_bipush (v := 24) hx hb dX12_feed_88 (by decide) ?_
                                                                    refine lv_bipush (v := 8) hx hb dX12_feed_90 (by decide) ?_
                                                                    refine lv_iload hx hb dX12_feed_92 (lv_at hl 1 rfl) ?_
                                                                    refine lv_iconst (v := 4) hx hb dX12_feed_94 (by decide) ?_
                                                                    refine lv_irem hx hb dX12_feed_95 (by decide) ?_
                                                                    refine lv_topi (fun z_115 ez_115 => ?_)
                                                                    obtain rfl : z_115 = 2 := ez_115.trans (by decide)
                                                                    refine lv_imul hx hb dX12_feed_96 ?_
                                                                    refine lv_topi (fun z_116 ez_116 => ?_)
                                                                    obtain rfl : z_116 = 16 := ez_116.trans (by decide)
                                                                    refine lv_isub hx hb dX12_feed_97 ?_
                                                                    refine lv_topi (fun z_117 ez_117 => ?_)
                                                                    obtain rfl : z_117 = 8 := ez_117.trans (by decide)
                                                                    refine lv_ishr hx hb dX12_feed_98 ?_
                                                                    refine lv_topi (fun x_118 _ => ?_)
                                                                    refine lv_i2b hx hb dX12_feed_99 rfl ?_
                                                                    refine lv_topi (fun x_119 _ => ?_)
                                                                    refine va_bast hx hb hK hP hD hS 1 0 rfl rfl (vp_in_nI (n := 10) (by decide) (by decide)) dX12_feed_100 (fun H locs hP hD hS => ?_)
                                                                    have hP : va_P (dC, dI) vwCl [(h0, .inr (11, ((fs_h0.set 0 (.int 0)).set 31 (.int 10)))), (ba, .inl (cB, 900, .inl (upd f_108 (10 : Int32).toNatClampNeg (vp_nar .byte x_119))))] H := hP
                                                                    have hD : va_D A [(h0, .inr (11, ((fs_h0.set 0 (.int 0)).set 31 (.int 10)))), (ba, .inl (cB, 900, .inl (upd f_108 (10 : Int32).toNatClampNeg (vp_nar .byte x_119))))] := hD
                                                                    generalize (upd f_108 (10 : Int32).toNatClampNeg (vp_nar .byte x_119)) = f_120 at hP hD
                                                                    refine lv_aload_n hx hb dX12_feed_101 rfl (lv_at hl 2 rfl) ?_
                                                                    refine lv_dup hx hb dX12_feed_102 rfl ?_
                                                                    refine va_get (D := (dC, dI)) (ci := 11) (v := .int 10) (C := RX12) (T := TX12) (N := 69) hx hb hts hinX12 hown hK hP 0 rfl rfl 31 (by decide) (hts (.fieldLink RX12 349 "BondCalendarsModel" "taped" "I") (by decide +kernel)) (fun _ h9 => h9) (List.getElem?_set_self (by rw [(List.length_set.trans hn_h0)]; decide)) dX12_feed_103 ?_
                                                                    refine lv_iconst (v := 1) hx hb dX12_feed_106 (by decide) ?_
                                                                    refine lv_iadd hx hb dX12_feed_107 ?_
                                                                    refine lv_topi (fun z_121 ez_121 => ?_)
                                                                    obtain rfl : z_121 = 11 := ez_121.trans (by decide)
                                                                    refine va_put (D := (dC, dI)) (ci := 11) (v := .int 11) (C := RX12) (T := TX12) (N := 69) hx hb hts hinX12 tyX12 tyX12_ok nmX12 hown hK hP hD hS 0 rfl rfl 31 (by decide) (hts (.fieldLink RX12 349 "BondCalendarsModel" "taped" "I") (by decide +kernel)) (fun _ h9 => h9) rfl (ty := .int) (by decide +kernel) rfl rfl (by rw [(List.length_set.trans (List.length_set.trans hn_h0))]; decide) dX12_feed_108 (fun H locs hP hD hS => ?_)
                                                                    rw [List.set_set] at hP hD
                                                                    have hP : va_P (dC, dI) vwCl [(h0, .inr (11, ((fs_h0.set 0 (.int 0)).set 31 (.int 11)))), (ba, .inl (cB, 900, .inl f_120))] H := hP
                                                                    have hD : va_D A [(h0, .inr (11, ((fs_h0.set 0 (.int 0)).set 31 (.int 11)))), (ba, .inl (cB, 900, .inl f_120))] := hD
                                                                    refine lv_iinc (v := 11) (lv' := [(6, .int 11), (7, .int p2), (0, .ref h0), (1, .int p0), (2, .int p1), (3, .int p2), (4, .int p3), (5, .int p4)]) hx hb dX12_feed_111 hl (k := 1) rfl (by decide) (by decide) rfl (fun ls hl => ?_)
                                                                    refine lv_goto (tgt := 23) hx hb dX12_feed_114 (by decide) ?_
                                                                    refine lv_iload hx hb dX12_feed_23 (lv_at hl 0 rfl) ?_
                                                                    refine lv_bipush (v := 20) hx hb dX12_feed_25 (by decide) ?_
                                                                    refine lv_icmp_ge (tgt := 117) hx hb dX12_feed_27 (by decide) (fun c_123 => ?_) (fun c_123 => ?_)
                                                                    · exact absurd c_123 (by decide)
                                                                    · refine lv_iload hx hb dX12_feed_30 (lv_at hl 0 rfl) ?_
                                                                      refine lv_iconst (v := 4) hx hb dX12_feed_32 (by decide) ?_
                                                                      refine lv_icmp_ge (tgt := 40) hx hb dX12_feed_33 (by decide) (fun c_124 => ?_) (fun c_124 => ?_)
                                                                      · refine lv_iload hx hb dX12_feed_40 (lv_at hl 0 rfl) ?_
                                                                        refine lv_bipush (v := 8) hx hb dX12_feed_42 (by decide) ?_
                                                                        refine lv_icmp_ge (tgt := 51) hx hb dX12_feed_44 (by decide) (fun c_125 => ?_) (fun c_125 => ?_)
                                                                        · refine lv_iload hx hb dX12_feed_51 (lv_at hl 0 rfl) ?_
                                                                          refine lv_bipush (v := 12) hx hb dX12_feed_53 (by decide) ?_
                                                                          refine lv_icmp_ge (tgt := 62) hx hb dX12_feed_55 (by decide) (fun c_126 => ?_) (fun c_126 => ?_)
                                                                          · exact absurd c_126 (by decide)
                                                                          · refine lv_iload_n hx hb dX12_feed_58 rfl (lv_at hl 5 rfl) ?_
                                                                            refine lv_goto (tgt := 76) hx hb dX12_feed_59 (by decide) ?_
                                                                            refine lv_istore (lv' := [(7, .int p2), (6, .int 11), (0, .ref h0), (1, .int p0), (2, .int p1), (3, .int p2), (4, .int p3), (5, .int p4)]) hx hb dX12_feed_76 hl (by decide) rfl (fun ls hl => ?_)
                                                                            refine lv_aload_n hx hb dX12_feed_78 rfl (lv_at hl 2 rfl) ?_
                                                                            refine va_get (D := (dC, dI)) (ci := 11) (v := .ref ba) (C := RX12) (T := TX12) (N := 69) hx hb hts hinX12 hown hK hP 0 rfl rfl 30 (by decide) (hts (.fieldLink RX12 60 "BondCalendarsModel" "tape" "[B") (by decide +kernel)) (fun _ h9 => h9) ((List.getElem?_set_ne (by decide)).trans ((List.getElem?_set_ne (by decide)).trans hf_h0_30)) dX12_feed_79 ?_
                                                                            refine lv_aload_n hx hb dX12_feed_82 rfl (lv_at hl 2 rfl) ?_
                                                                            refine va_get (D := (dC, dI)) (ci := 11) (v := .int 11) (C := RX12) (T := TX12) (N := 69) hx hb hts hinX12 hown hK hP 0 rfl rfl 31 (by decide) (hts (.fieldLink RX12 349 "BondCalendarsModel" "taped" "I") (by decide +kernel)) (fun _ h9 => h9) (List.getElem?_set_self (by rw [(List.length_set.trans hn_h0)]; decide)) dX12_feed_83 ?_
                                                                            refine lv_iload hx hb dX12_feed_86 (lv_at hl 0 rfl) ?_
                                                                            refine lv_bipush (v := 24) hx hb dX12_feed_88 (by decide) ?_
                                                                            refine lv_bipush (v := 8) hx hb dX12_feed_90 (by decide) ?_
                                                                            refine lv_iload hx hb dX12_feed_92 (lv_at hl 1 rfl) ?_
                                                                            refine lv_iconst (v := 4) hx hb dX12_feed_94 (by decide) ?_
                                                                            refine lv_irem hx hb dX12_feed_95 (by decide) ?_
                                                                            refine lv_topi (fun z_127 ez_127 => ?_)
                                                                            obtain rfl : z_127 = 3 := ez_127.trans (by decide)
                                                                            refine lv_imul hx hb dX12_feed_96 ?_
                                                                            refine lv_topi (fun z_128 ez_128 => ?_)
                                                                            obtain rfl : z_128 = 24 := ez_128.trans (by decide)
                                                                            refine lv_isub hx hb dX12_feed_97 ?_
                                                                            refine lv_topi (fun z_129 ez_129 => ?_)
                                                                            obtain rfl : z_129 = 0 := ez_129.trans (by decide)
                                                                            refine lv_ishr hx hb dX12_feed_98 ?_
                                                                            refine lv_topi (fun x_130 _ => ?_)
                                                                            refine lv_i2b hx hb dX12_feed_99 rfl ?_
                                                                            refine lv_topi (fun x_131 _ => ?_)
                                                                            refine va_bast hx hb hK hP hD hS 1 0 rfl rfl (vp_in_nI (n := 11) (by decide) (by decide)) dX12_feed_100 (fun H locs hP hD hS => ?_)
                                                                            have hP : va_P (dC, dI) vwCl [(h0, .inr (11, ((fs_h0.set 0 (.int 0)).set 31 (.int 11)))), (ba, .inl (cB, 900, .inl (upd f_120 (11 : Int32).toNatClampNeg (vp_nar .byte x_131))))] H := hP
                                                                            have hD : va_D A [(h0, .inr (11, ((fs_h0.set 0 (.int 0)).set 31 (.int 11)))), (ba, .inl (cB, 900, .inl (upd f_120 (11 : Int32).toNatClampNeg (vp_nar .byte x_131))))] := hD
                                                                            generalize (upd f_120 (11 : Int32).toNatClampNeg (vp_nar .byte x_131)) = f_132 at hP hD
                                                                            refine lv_aload_n hx hb dX12_feed_101 rfl (lv_at hl 2 rfl) ?_
                                                                            refine lv_dup hx hb dX12_feed_102 rfl ?_
                                                                            refine va_get (D := (dC, dI)) (ci := 11) (v := .int 11) (C := RX12) (T := TX12) (N := 69) hx hb hts hinX12 hown hK hP 0 rfl rfl 31 (by decide) (hts (.fieldLink RX12 349 "BondCalendarsModel" "taped" "I") (by decide +kernel)) (fun _ h9 => h9) (List.getElem?_set_self (by rw [(List.length_set.trans hn_h0)]; decide)) dX12_feed_103 ?_
                                                                            refine lv_iconst (v := 1) hx hb dX12_feed_106 (by decide) ?_
                                                                            refine lv_iadd hx hb dX12_feed_107 ?_
                                                                            refine lv_topi (fun z_133 ez_133 => ?_)
                                                                            obtain rfl : z_133 = 12 := ez_133.trans (by decide)
                                                                            refine va_put (D := (dC, dI)) (ci := 11) (v := .int 12) (C := RX12) (T := TX12) (N := 69) hx hb hts hinX12 tyX12 tyX12_ok nmX12 hown hK hP hD hS 0 rfl rfl 31 (by decide) (hts (.fieldLink RX12 349 "BondCalendarsModel" "taped" "I") (by decide +kernel)) (fun _ h9 => h9) rfl (ty := .int) (by decide +kernel) rfl rfl (by rw [(List.length_set.trans (List.length_set.trans hn_h0))]; decide) dX12_feed_108 (fun H locs hP hD hS => ?_)
                                                                            rw [List.set_set] at hP hD
                                                                            have hP : va_P (dC, dI) vwCl [(h0, .inr (11, ((fs_h0.set 0 (.int 0)).set 31 (.int 12)))), (ba, .inl (cB, 900, .inl f_132))] H := hP
                                                                            have hD : va_D A [(h0, .inr (11, ((fs_h0.set 0 (.int 0)).set 31 (.int 12)))), (ba, .inl (cB, 900, .inl f_132))] := hD
                                                                            refine lv_iinc (v := 12) (lv' := [(6, .int 12), (7, .int p2), (0, .ref h0), (1, .int p0), (2, .int p1), (3, .int p2), (4, .int p3), (5, .int p4)]) hx hb dX12_feed_111 hl (k := 1) rfl (by decide) (by decide) rfl (fun ls hl => ?_)
                                                                            refine lv_goto (tgt := 23) hx hb dX12_feed_114 (by decide) ?_
                                                                            refine lv_iload hx hb dX12_feed_23 (lv_at hl 0 rfl) ?_
                                                                            refine lv_bipush (v := 20) hx hb dX12_feed_25 (by decide) ?_
                                                                            refine lv_icmp_ge (tgt := 117) hx hb dX12_feed_27 (by decide) (fun c_135 => ?_) (fun c_135 => ?_)
                                                                            · exact absurd c_135 (by decide)
                                                                            · refine lv_iload hx hb dX12_feed_30 (lv_at hl 0 rfl) ?_
                                                                              refine lv_iconst (v := 4) hx hb dX12_feed_32 (by decide) ?_
                                                                              refine lv_icmp_ge (tgt := 40) hx hb dX12_feed_33 (by decide) (fun c_136 => ?_) (fun c_136 => ?_)
                                                                              · refine lv_iload hx hb dX12_feed_40 (lv_at hl 0 rfl) ?_
                                                                                refine lv_bipush (v := 8) hx hb dX12_feed_42 (by decide) ?_
                                                                                refine lv_icmp_ge (tgt := 51) hx hb dX12_feed_44 (by decide) (fun c_137 => ?_) (fun c_137 => ?_)
                                                                                · refine lv_iload hx hb dX12_feed_51 (lv_at hl 0 rfl) ?_
                                                                                  refine lv_bipush (v := 12) hx hb dX12_feed_53 (by decide) ?_
                                                                                  refine lv_icmp_ge (tgt := 62) hx hb dX12_feed_55 (by decide) (fun c_138 => ?_) (fun c_138 => ?_)
                                                                                  · refine lv_iload hx hb dX12_feed_62 (lv_at hl 0 rfl) ?_
                                                                                    refine lv_bipush (v := 16) hx hb dX12_feed_64 (by decide) ?_
                                                                                    refine lv_icmp_ge (tgt := 74) hx hb dX12_feed_66 (by decide) (fun c_139 => ?_) (fun c_139 => ?_)
                                                                                    · exact absurd c_139 (by decide)
                                                                                    · refine lv_iload hx hb dX12_feed_69 (lv_at hl 6 rfl) ?_
                                                                                      refine lv_goto (tgt := 76) hx hb dX12_feed_71 (by decide) ?_
                                                                                      refine lv_istore (lv' := [(7, .int p3), (6, .int 12), (0, .ref h0), (1, .int p0), (2, .int p1), (3, .int p2), (4, .int p3), (5, .int p4)]) hx hb dX12_feed_76 hl (by decide) rfl (fun ls hl => ?_)
                                                                                      refine lv_aload_n hx hb dX12_feed_78 rfl (lv_at hl 2 rfl) ?_
                                                                                      refine va_get (D := (dC, dI)) (ci := 11) (v := .ref ba) (C := RX12) (T := TX12) (N := 69) hx hb hts hinX12 hown hK hP 0 rfl rfl 30 (by decide) (hts (.fieldLink RX12 60 "BondCalendarsModel" "tape" "[B") (by decide +kernel)) (fun _ h9 => h9) ((List.getElem?_set_ne (by decide)).trans ((List.getElem?_set_ne (by decide)).trans hf_h0_30)) dX12_feed_79 ?_
                                                                                      refine lv_aload_n hx hb dX12_feed_82 rfl (lv_at hl 2 rfl) ?_
                                                                                      refine va_get (D := (dC, dI)) (ci := 11) (v := .int 12) (C := RX12) (T := TX12) (N := 69) hx hb hts hinX12 hown hK hP 0 rfl rfl 31 (by decide) (hts (.fieldLink RX12 349 "BondCalendarsModel" "taped" "I") (by decide +kernel)) (fun _ h9 => h9) (List.getElem?_set_self (by rw [(List.length_set.trans hn_h0)]; decide)) dX12_feed_83 ?_
                                                                                      refine lv_iload hx hb dX12_feed_86 (lv_at hl 0 rfl) ?_
                                                                                      refine lv_bipush (v := 24) hx hb dX12_feed_88 (by decide) ?_
                                                                                      refine lv_bipush (v := 8) hx hb dX12_feed_90 (by decide) ?_
                                                                                      refine lv_iload hx hb dX12_feed_92 (lv_at hl 1 rfl) ?_
                                                                                      refine lv_iconst (v := 4) hx hb dX12_feed_94 (by decide) ?_
                                                                                      refine lv_irem hx hb dX12_feed_95 (by decide) ?_
                                                                                      refine lv_topi (fun z_140 ez_140 => ?_)
                                                                                      obtain rfl : z_140 = 0 := ez_140.trans (by decide)
                                                                                      refine lv_imul hx hb dX12_feed_96 ?_
                                                                                      refine lv_topi (fun z_141 ez_141 => ?_)
                                                                                      obtain rfl : z_141 = 0 := ez_141.trans (by decide)
                                                                                      refine lv_isub hx hb dX12_feed_97 ?_
                                                                                      refine lv_topi (fun z_142 ez_142 => ?_)
                                                                                      obtain rfl : z_142 = 24 := ez_142.trans (by decide)
                                                                                      refine lv_ishr hx hb dX12_feed_98 ?_
                                                                                      refine lv_topi (fun x_143 _ => ?_)
                                                                                      refine lv_i2b hx hb dX12_feed_99 rfl ?_
                                                                                      refine lv_topi (fun x_144 _ => ?_)
                                                                                      refine va_bast hx hb hK hP hD hS 1 0 rfl rfl (vp_in_nI (n := 12) (by decide) (by decide)) dX12_feed_100 (fun H locs hP hD hS => ?_)
                                                                                      have hP : va_P (dC, dI) vwCl [(h0, .inr (11, ((fs_h0.set 0 (.int 0)).set 31 (.int 12)))), (ba, .inl (cB, 900, .inl (upd f_132 (12 : Int32).toNatClampNeg (vp_nar .byte x_144))))] H := hP
                                                                                      have hD : va_D A [(h0, .inr (11, ((fs_h0.set 0 (.int 0)).set 31 (.int 12)))), (ba, .inl (cB, 900, .inl (upd f_132 (12 : Int32).toNatClampNeg (vp_nar .byte x_144))))] := hD
                                                                                      generalize (upd f_132 (12 : Int32).toNatClampNeg (vp_nar .byte x_144)) = f_145 at hP hD
                                                                                      refine lv_aload_n hx hb dX12_feed_101 rfl (lv_at hl 2 rfl) ?_
                                                                                      refine lv_dup hx hb dX12_feed_102 rfl ?_
                                                                                      refine va_get (D := (dC, dI)) (ci := 11) (v := .int 12) (C := RX12) (T := TX12) (N := 69) hx hb hts hinX12 hown hK hP 0 rfl rfl 31 (by decide) (hts (.fieldLink RX12 349 "BondCalendarsModel" "taped" "I") (by decide +kernel)) (fun _ h9 => h9) (List.getElem?_set_self (by rw [(List.length_set.trans hn_h0)]; decide)) dX12_feed_103 ?_
                                                                                      refine lv_iconst (v := 1) hx hb dX12_feed_106 (by decide) ?_
                                                                                      refine lv_iadd hx hb dX12_feed_107 ?_
                                                                                      refine lv_topi (fun z_146 ez_146 => ?_)
                                                                                      obtain rfl : z_146 = 13 := ez_146.trans (by decide)
                                                                                      refine va_put (D := (dC, dI)) (ci := 11) (v := .int 13) (C := RX12) (T := TX12) (N := 69) hx hb hts hinX12 tyX12 tyX12_ok nmX12 hown hK hP hD hS 0 rfl rfl 31 (by decide) (hts (.fieldLink RX12 349 "BondCalendarsModel" "taped" "I") (by decide +kernel)) (fun _ h9 => h9) rfl (ty := .int) (by decide +kernel) rfl rfl (by rw [(List.length_set.trans (List.length_set.trans hn_h0))]; decide) dX12_feed_108 (fun H locs hP hD hS => ?_)
                                                                                      rw [List.set_set] at hP hD
                                                                                      have hP : va_P (dC, dI) vwCl [(h0, .inr (11, ((fs_h0.set 0 (.int 0)).set 31 (.int 13)))), (ba, .inl (cB, 900, .inl f_145))] H := hP
                                                                                      have hD : va_D A [(h0, .inr (11, ((fs_h0.set 0 (.int 0)).set 31 (.int 13)))), (ba, .inl (cB, 900, .inl f_145))] := hD
                                                                                      refine lv_iinc (v := 13) (lv' := [(6, .int 13), (7, .int p3), (0, .ref h0), (1, .int p0), (2, .int p1), (3, .int p2), (4, .int p3), (5, .int p4)]) hx hb dX12_feed_111 hl (k := 1) rfl (by decide) (by decide) rfl (fun ls hl => ?_)
                                                                                      refine lv_goto (tgt := 23) hx hb dX12_feed_114 (by decide) ?_
                                                                                      refine lv_iload hx hb dX12_feed_23 (lv_at hl 0 rfl) ?_
                                                                                      refine lv_bipush (v := 20) hx hb dX12_feed_25 (by decide) ?_
                                                                                      refine lv_icmp_ge (tgt := 117) hx hb dX12_feed_27 (by decide) (fun c_148 => ?_) (fun c_148 => ?_)
                                                                                      · exact absurd c_148 (by decide)
                                                                                      · refine lv_iload hx hb dX12_feed_30 (lv_at hl 0 rfl) ?_
                                                                                        refine lv_iconst (v := 4) hx hb dX12_feed_32 (by decide) ?_
                                                                                        refine lv_icmp_ge (tgt := 40) hx hb dX12_feed_33 (by decide) (fun c_149 => ?_) (fun c_149 => ?_)
                                                                                        · refine lv_iload hx hb dX12_feed_40 (lv_at hl 0 rfl) ?_
                                                                                          refine lv_bipush (v := 8) hx hb dX12_feed_42 (by decide) ?_
                                                                                          refine lv_icmp_ge (tgt := 51) hx hb dX12_feed_44 (by decide) (fun c_150 => ?_) (fun c_150 => ?_)
                                                                                          · refine lv_iload hx hb dX12_feed_51 (lv_at hl 0 rfl) ?_
                                                                                            refine lv_bipush (v := 12) hx hb dX12_feed_53 (by decide) ?_
                                                                                            refine lv_icmp_ge (tgt := 62) hx hb dX12_feed_55 (by decide) (fun c_151 => ?_) (fun c_151 => ?_)
                                                                                            · refine lv_iload hx hb dX12_feed_62 (lv_at hl 0 rfl) ?_
                                                                                              refine lv_bipush (v := 16) hx hb dX12_feed_64 (by decide) ?_
                                                                                              refine lv_icmp_ge (tgt := 74) hx hb dX12_feed_66 (by decide) (fun c_152 => ?_) (fun c_152 => ?_)
                                                                                              · exact absurd c_152 (by decide)
                                                                                              · refine lv_iload hx hb dX12_feed_69 (lv_at hl 6 rfl) ?_
                                                                                                refine lv_goto (tgt := 76) hx hb dX12_feed_71 (by decide) ?_
                                                                                                refine lv_istore (lv' := [(7, .int p3), (6, .int 13), (0, .ref h0), (1, .int p0), (2, .int p1), (3, .int p2), (4, .int p3), (5, .int p4)]) hx hb dX12_feed_76 hl (by decide) rfl (fun ls hl => ?_)
                                                                                                refine lv_aload_n hx hb dX12_feed_78 rfl (lv_at hl 2 rfl) ?_
                                                                                                refine va_get (D := (dC, dI)) (ci := 11) (v := .ref ba) (C := RX12) (T := TX12) (N := 69) hx hb hts hinX12 hown hK hP 0 rfl rfl 30 (by decide) (hts (.fieldLink RX12 60 "BondCalendarsModel" "tape" "[B") (by decide +kernel)) (fun _ h9 => h9) ((List.getElem?_set_ne (by decide)).trans ((List.getElem?_set_ne (by decide)).trans hf_h0_30)) dX12_feed_79 ?_
                                                                                                refine lv_aload_n hx hb dX12_feed_82 rfl (lv_at hl 2 rfl) ?_
                                                                                                refine va_get (D := (dC, dI)) (ci := 11) (v := .int 13) (C := RX12) (T := TX12) (N := 69) hx hb hts hinX12 hown hK hP 0 rfl rfl 31 (by decide) (hts (.fieldLink RX12 349 "BondCalendarsModel" "taped" "I") (by decide +kernel)) (fun _ h9 => h9) (List.getElem?_set_self (by rw [(List.length_set.trans hn_h0)]; decide)) dX12_feed_83 ?_
                                                                                                refine lv_iload hx hb dX12_feed_86 (lv_at hl 0 rfl) ?_
                                                                                                refine lv_bipush (v := 24) hx hb dX12_feed_88 (by decide) ?_
                                                                                                refine lv_bipush (v := 8) hx hb dX12_feed_90 (by decide) ?_
                                                                                                refine lv_iload hx hb dX12_feed_92 (lv_at hl 1 rfl) ?_
                                                                                                refine lv_iconst (v := 4) hx hb dX12_feed_94 (by decide) ?_
                                                                                                refine lv_irem hx hb dX12_feed_95 (by decide) ?_
                                                                                                refine lv_topi (fun z_153 ez_153 => ?_)
                                                                                                obtain rfl : z_153 = 1 := ez_153.trans (by decide)
                                                                                                refine lv_imul hx hb dX12_feed_96 ?_
                                                                                                refine lv_topi (fun z_154 ez_154 => ?_)
                                                                                                obtain rfl : z_154 = 8 := ez_154.trans (by decide)
                                                                                                refine lv_isub hx hb dX12_feed_97 ?_
                                                                                                refine lv_topi (fun z_155 ez_155 => ?_)
                                                                                                obtain rfl : z_155 = 16 := ez_155.trans (by decide)
                                                                                                refine lv_ishr hx hb dX12_feed_98 ?_
                                                                                                refine lv_topi (fun x_156 _ => ?_)
                                                                                                refine lv_i2b hx hb dX12_feed_99 rfl ?_
                                                                                                refine lv_topi (fun x_157 _ => ?_)
                                                                                                refine va_bast hx hb hK hP hD hS 1 0 rfl rfl (vp_in_nI (n := 13) (by decide) (by decide)) dX12_feed_100 (fun H locs hP hD hS => ?_)
                                                                                                have hP : va_P (dC, dI) vwCl [(h0, .inr (11, ((fs_h0.set 0 (.int 0)).set 31 (.int 13)))), (ba, .inl (cB, 900, .inl (upd f_145 (13 : Int32).toNatClampNeg (vp_nar .byte x_157))))] H := hP
                                                                                                have hD : va_D A [(h0, .inr (11, ((fs_h0.set 0 (.int 0)).set 31 (.int 13)))), (ba, .inl (cB, 900, .inl (upd f_145 (13 : Int32).toNatClampNeg (vp_nar .byte x_157))))] := hD
                                                                                                generalize (upd f_145 (13 : Int32).toNatClampNeg (vp_nar .byte x_157)) = f_158 at hP hD
                                                                                                refine lv_aload_n hx hb dX12_feed_101 rfl (lv_at hl 2 rfl) ?_
                                                                                                refine lv_dup hx hb dX12_feed_102 rfl ?_
                                                                                                refine va_get (D := (dC, dI)) (ci := 11) (v := .int 13) (C := RX12) (T := TX12) (N := 69) hx hb hts hinX12 hown hK hP 0 rfl rfl 31 (by decide) (hts (.fieldLink RX12 349 "BondCalendarsModel" "taped" "I") (by decide +kernel)) (fun _ h9 => h9) (List.getElem?_set_self (by rw [(List.length_set.trans hn_h0)]; decide)) dX12_feed_103 ?_
                                                                                                refine lv_iconst (v := 1) hx hb dX12_feed_106 (by decide) ?_
                                                                                                refine lv_iadd hx hb dX12_feed_107 ?_
                                                                                                refine lv_topi (fun z_159 ez_159 => ?_)
                                                                                                obtain rfl : z_159 = 14 := ez_159.trans (by decide)
                                                                                                refine va_put (D := (dC, dI)) (ci := 11) (v := .int 14) (C := RX12) (T := TX12) (N := 69) hx hb hts hinX12 tyX12 tyX12_ok nmX12 hown hK hP hD hS 0 rfl rfl 31 (by decide) (hts (.fieldLink RX12 349 "BondCalendarsModel" "taped" "I") (by decide +kernel)) (fun _ h9 => h9) rfl (ty := .int) (by decide +kernel) rfl rfl (by rw [(List.length_set.trans (List.length_set.trans hn_h0))]; decide) dX12_feed_108 (fun H locs hP hD hS => ?_)
                                                                                                rw [List.set_set] at hP hD
                                                                                                have hP : va_P (dC, dI) vwCl [(h0, .inr (11, ((fs_h0.set 0 (.int 0)).set 31 (.int 14)))), (ba, .inl (cB, 900, .inl f_158))] H := hP
                                                                                                have hD : va_D A [(h0, .inr (11, ((fs_h0.set 0 (.int 0)).set 31 (.int 14)))), (ba, .inl (cB, 900, .inl f_158))] := hD
                                                                                                refine lv_iinc (v := 14) (lv' := [(6, .int 14), (7, .int p3), (0, .ref h0), (1, .int p0), (2, .int p1), (3, .int p2), (4, .int p3), (5, .int p4)]) hx hb dX12_feed_111 hl (k := 1) rfl (by decide) (by decide) rfl (fun ls hl => ?_)
                                                                                                refine lv_goto (tgt := 23) hx hb dX12_feed_114 (by decide) ?_
                                                                                                refine lv_iload hx hb dX12_feed_23 (lv_at hl 0 rfl) ?_
                                                                                                refine lv_bipush (v := 20) hx hb dX12_feed_25 (by decide) ?_
                                                                                                refine lv_icmp_ge (tgt := 117) hx hb dX12_feed_27 (by decide) (fun c_161 => ?_) (fun c_161 => ?_)
                                                                                                · exact absurd c_161 (by decide)
                                                                                                · refine lv_iload hx hb dX12_feed_30 (lv_at hl 0 rfl) ?_
                                                                                                  refine lv_iconst (v := 4) hx hb dX12_feed_32 (by decide) ?_
                                                                                                  refine lv_icmp_ge (tgt := 40) hx hb dX12_feed_33 (by decide) (fun c_162 => ?_) (fun c_162 => ?_)
                                                                                                  · refine lv_iload hx hb dX12_feed_40 (lv_at hl 0 rfl) ?_
                                                                                                    refine lv_bipush (v := 8) hx hb dX12_feed_42 (by decide) ?_
                                                                                                    refine lv_icmp_ge (tgt := 51) hx hb dX12_feed_44 (by decide) (fun c_163 => ?_) (fun c_163 => ?_)
                                                                                                    · refine lv_iload hx hb dX12_feed_51 (lv_at hl 0 rfl) ?_
                                                                                                      refine lv_bipush (v := 12) hx hb dX12_feed_53 (by decide) ?_
                                                                                                      refine lv_icmp_ge (tgt := 62) hx hb dX12_feed_55 (by decide) (fun c_164 => ?_) (fun c_164 => ?_)
                                                                                                      · refine lv_iload hx hb dX12_feed_62 (lv_at hl 0 rfl) ?_
                                                                                                        refine lv_bipush (v := 16) hx hb dX12_feed_64 (by decide) ?_
                                                                                                        refine lv_icmp_ge (tgt := 74) hx hb dX12_feed_66 (by decide) (fun c_165 => ?_) (fun c_165 => ?_)
                                                                                                        · exact absurd c_165 (by decide)
                                                                                                        · refine lv_iload hx hb dX12_feed_69 (lv_at hl 6 rfl) ?_
                                                                                                          refine lv_goto (tgt := 76) hx hb dX12_feed_71 (by decide) ?_
                                                                                                          refine lv_istore (lv' := [(7, .int p3), (6, .int 14), (0, .ref h0), (1, .int p0), (2, .int p1), (3, .int p2), (4, .int p3), (5, .int p4)]) hx hb dX12_feed_76 hl (by decide) rfl (fun ls hl => ?_)
                                                                                                          refine lv_aload_n hx hb dX12_feed_78 rfl (lv_at hl 2 rfl) ?_
                                                                                                          refine va_get (D := (dC, dI)) (ci := 11) (v := .ref ba) (C := RX12) (T := TX12) (N := 69) hx hb hts hinX12 hown hK hP 0 rfl rfl 30 (by decide) (hts (.fieldLink RX12 60 "BondCalendarsModel" "tape" "[B") (by decide +kernel)) (fun _ h9 => h9) ((List.getElem?_set_ne (by decide)).trans ((List.getElem?_set_ne (by decide)).trans hf_h0_30)) dX12_feed_79 ?_
                                                                                                          refine lv_aload_n hx hb dX12_feed_82 rfl (lv_at hl 2 rfl) ?_
                                                                                                          refine va_get (D := (dC, dI)) (ci := 11) (v := .int 14) (C := RX12) (T := TX12) (N := 69) hx hb hts hinX12 hown hK hP 0 rfl rfl 31 (by decide) (hts (.fieldLink RX12 349 "BondCalendarsModel" "taped" "I") (by decide +kernel)) (fun _ h9 => h9) (List.getElem?_set_self (by rw [(List.length_set.trans hn_h0)]; decide)) dX12_feed_83 ?_
                                                                                                          refine lv_iload hx hb dX12_feed_86 (lv_at hl 0 rfl) ?_
                                                                                                          refine lv_bipush (v := 24) hx hb dX12_feed_88 (by decide) ?_
                                                                                                          refine lv_bipush (v := 8) hx hb dX12_feed_90 (by decide) ?_
                                                                                                          refine lv_iload hx hb dX12_feed_92 (lv_at hl 1 rfl) ?_
                                                                                                          refine lv_iconst (v := 4) hx hb dX12_feed_94 (by decide) ?_
                                                                                                          refine lv_irem hx hb dX12_feed_95 (by decide) ?_
                                                                                                          refine lv_topi (fun z_166 ez_166 => ?_)
                                                                                                          obtain rfl : z_166 = 2 := ez_166.trans (by decide)
                                                                                                          refine lv_imul hx hb dX12_feed_96 ?_
                                                                                                          refine lv_topi (fun z_167 ez_167 => ?_)
                                                                                                          obtain rfl : z_167 = 16 := ez_167.trans (by decide)
                                                                                                          refine lv_isub hx hb dX12_feed_97 ?_
                                                                                                          refine lv_topi (fun z_168 ez_168 => ?_)
                                                                                                          obtain rfl : z_168 = 8 := ez_168.trans (by decide)
                                                                                                          refine lv_ishr hx hb dX12_feed_98 ?_
                                                                                                          refine lv_topi (fun x_169 _ => ?_)
                                                                                                          refine lv_i2b hx hb dX12_feed_99 rfl ?_
                                                                                                          refine lv_topi (fun x_170 _ => ?_)
                                                                                                          refine va_bast hx hb hK hP hD hS 1 0 rfl rfl (vp_in_nI (n := 14) (by decide) (by decide)) dX12_feed_100 (fun H locs hP hD hS => ?_)
                                                                                                          have hP : va_P (dC, dI) vwCl [(h0, .inr (11, ((fs_h0.set 0 (.int 0)).set 31 (.int 14)))), (ba, .inl (cB, 900, .inl (upd f_158 (14 : Int32).toNatClampNeg (vp_nar .byte x_170))))] H := hP
                                                                                                          have hD : va_D A [(h0, .inr (11, ((fs_h0.set 0 (.int 0)).set 31 (.int 14)))), (ba, .inl (cB, 900, .inl (upd f_158 (14 : Int32).toNatClampNeg (vp_nar .byte x_170))))] := hD
                                                                                                          generalize (upd f_158 (14 : Int32).toNatClampNeg (vp_nar .byte x_170)) = f_171 at hP hD
                                                                                                          refine lv_aload_n hx hb dX12_feed_101 rfl (lv_at hl 2 rfl) ?_
                                                                                                          refine lv_dup hx hb dX12_feed_102 rfl ?_
                                                                                                          refine va_get (D := (dC, dI)) (ci := 11) (v := .int 14) (C := RX12) (T := TX12) (N := 69) hx hb hts hinX12 hown hK hP 0 rfl rfl 31 (by decide) (hts (.fieldLink RX12 349 "BondCalendarsModel" "taped" "I") (by decide +kernel)) (fun _ h9 => h9) (List.getElem?_set_self (by rw [(List.length_set.trans hn_h0)]; decide)) dX12_feed_103 ?_
                                                                                                          refine lv_iconst (v := 1) hx hb dX12_feed_106 (by decide) ?_
                                                                                                          refine lv_iadd hx hb dX12_feed_107 ?_
                                                                                                          refine lv_topi (fun z_172 ez_172 => ?_)
                                                                                                          obtain rfl : z_172 = 15 := ez_172.trans (by decide)
                                                                                                          refine va_put (D := (dC, dI)) (ci := 11) (v := .int 15) (C := RX12) (T := TX12) (N := 69) hx hb hts hinX12 tyX12 tyX12_ok nmX12 hown hK hP hD hS 0 rfl rfl 31 (by decide) (hts (.fieldLink RX12 349 "BondCalendarsModel" "taped" "I") (by decide +kernel)) (fun _ h9 => h9) rfl (ty := .int) (by decide +kernel) rfl rfl (by rw [(List.length_set.trans (List.length_set.trans hn_h0))]; decide) dX12_feed_108 (fun H locs hP hD hS => ?_)
                                                                                                          rw [List.set_set] at hP hD
                                                                                                          have hP : va_P (dC, dI) vwCl [(h0, .inr (11, ((fs_h0.set 0 (.int 0)).set 31 (.int 15)))), (ba, .inl (cB, 900, .inl f_171))] H := hP
                                                                                                          have hD : va_D A [(h0, .inr (11, ((fs_h0.set 0 (.int 0)).set 31 (.int 15)))), (ba, .inl (cB, 900, .inl f_171))] := hD
                                                                                                          refine lv_iinc (v := 15) (lv' := [(6, .int 15), (7, .int p3), (0, .ref h0), (1, .int p0), (2, .int p1), (3, .int p2), (4, .int p3), (5, .int p4)]) hx hb dX12_feed_111 hl (k := 1) rfl (by decide) (by decide) rfl (fun ls hl => ?_)
                                                                                                          refine lv_goto (tgt := 23) hx hb dX12_feed_114 (by decide) ?_
                                                                                                          refine lv_iload hx hb dX12_feed_23 (lv_at hl 0 rfl) ?_
                                                                                                          refine lv_bipush (v := 20) hx hb dX12_feed_25 (by decide) ?_
                                                                                                          refine lv_icmp_ge (tgt := 117) hx hb dX12_feed_27 (by decide) (fun c_174 => ?_) (fun c_174 => ?_)
                                                                                                          · exact absurd c_174 (by decide)
                                                                                                          · refine lv_iload hx hb dX12_feed_30 (lv_at hl 0 rfl) ?_
                                                                                                            refine lv_iconst (v := 4) hx hb dX12_feed_32 (by decide) ?_
                                                                                                            refine lv_icmp_ge (tgt := 40) hx hb dX12_feed_33 (by decide) (fun c_175 => ?_) (fun c_175 => ?_)
                                                                                                            · refine lv_iload hx hb dX12_feed_40 (lv_at hl 0 rfl) ?_
                                                                                                              refine lv_bipush (v := 8) hx hb dX12_feed_42 (by decide) ?_
                                                                                                              refine lv_icmp_ge (tgt := 51) hx hb dX12_feed_44 (by decide) (fun c_176 => ?_) (fun c_176 => ?_)
                                                                                                              · refine lv_iload hx hb dX12_feed_51 (lv_at hl 0 rfl) ?_
                                                                                                                refine lv_bipush (v := 12) hx hb dX12_feed_53 (by decide) ?_
                                                                                                                refine lv_icmp_ge (tgt := 62) hx hb dX12_feed_55 (by decide) (fun c_177 => ?_) (fun c_177 => ?_)
                                                                                                                · refine lv_iload hx hb dX12_feed_62 (lv_at hl 0 rfl) ?_
                                                                                                                  refine lv_bipush (v := 16) hx hb dX12_feed_64 (by decide) ?_
                                                                                                                  refine lv_icmp_ge (tgt := 74) hx hb dX12_feed_66 (by decide) (fun c_178 => ?_) (fun c_178 => ?_)
                                                                                                                  · exact absurd c_178 (by decide)
                                                                                                                  · refine lv_iload hx hb dX12_feed_69 (lv_at hl 6 rfl) ?_
                                                                                                                    refine lv_goto (tgt := 76) hx hb dX12_feed_71 (by decide) ?_
                                                                                                                    refine lv_istore (lv' := [(7, .int p3), (6, .int 15), (0, .ref h0), (1, .int p0), (2, .int p1), (3, .int p2), (4, .int p3), (5, .int p4)]) hx hb dX12_feed_76 hl (by decide) rfl (fun ls hl => ?_)
                                                                                                                    refine lv_aload_n hx hb dX12_feed_78 rfl (lv_at hl 2 rfl) ?_
                                                                                                                    refine va_get (D := (dC, dI)) (ci := 11) (v := .ref ba) (C := RX12) (T := TX12) (N := 69) hx hb hts hinX12 hown hK hP 0 rfl rfl 30 (by decide) (hts (.fieldLink RX12 60 "BondCalendarsModel" "tape" "[B") (by decide +kernel)) (fun _ h9 => h9) ((List.getElem?_set_ne (by decide)).trans ((List.getElem?_set_ne (by decide)).trans hf_h0_30)) dX12_feed_79 ?_
                                                                                                                    refine lv_aload_n hx hb dX12_feed_82 rfl (lv_at hl 2 rfl) ?_
                                                                                                                    refine va_get (D := (dC, dI)) (ci := 11) (v := .int 15) (C := RX12) (T := TX12) (N := 69) hx hb hts hinX12 hown hK hP 0 rfl rfl 31 (by decide) (hts (.fieldLink RX12 349 "BondCalendarsModel" "taped" "I") (by decide +kernel)) (fun _ h9 => h9) (List.getElem?_set_self (by rw [(List.length_set.trans hn_h0)]; decide)) dX12_feed_83 ?_
                                                                                                                    refine lv_iload hx hb dX12_feed_86 (lv_at hl 0 rfl) ?_
                                                                                                                    refine lv_bipush (v := 24) hx hb dX12_feed_88 (by decide) ?_
                                                                                                                    refine lv_bipush (v := 8) hx hb dX12_feed_90 (by decide) ?_
                                                                                                                    refine lv_iload hx hb dX12_feed_92 (lv_at hl 1 rfl) ?_
                                                                                                                    refine lv_iconst (v := 4) hx hb dX12_feed_94 (by decide) ?_
                                                                                                                    refine lv_irem hx hb dX12_feed_95 (by decide) ?_
                                                                                                                    refine lv_topi (fun z_179 ez_179 => ?_)
                                                                                                                    obtain rfl : z_179 = 3 := ez_179.trans (by decide)
                                                                                                                    refine lv_imul hx hb dX12_feed_96 ?_
                                                                                                                    refine lv_topi (fun z_180 ez_180 => ?_)
                                                                                                                    obtain rfl : z_180 = 24 := ez_180.trans (by decide)
                                                                                                                    refine lv_isub hx hb dX12_feed_97 ?_
                                                                                                                    refine lv_topi (fun z_181 ez_181 => ?_)
                                                                                                                    obtain rfl : z_181 = 0 := ez_181.trans (by decide)
                                                                                                                    refine lv_ishr hx hb dX12_feed_98 ?_
                                                                                                                    refine lv_topi (fun x_182 _ => ?_)
                                                                                                                    refine lv_i2b hx hb dX12_feed_99 rfl ?_
                                                                                                                    refine lv_topi (fun x_183 _ => ?_)
                                                                                                                    refine va_bast hx hb hK hP hD hS 1 0 rfl rfl (vp_in_nI (n := 15) (by decide) (by decide)) dX12_feed_100 (fun H locs hP hD hS => ?_)
                                                                                                                    have hP : va_P (dC, dI) vwCl [(h0, .inr (11, ((fs_h0.set 0 (.int 0)).set 31 (.int 15)))), (ba, .inl (cB, 900, .inl (upd f_171 (15 : Int32).toNatClampNeg (vp_nar .byte x_183))))] H := hP
                                                                                                                    have hD : va_D A [(h0, .inr (11, ((fs_h0.set 0 (.int 0)).set 31 (.int 15)))), (ba, .inl (cB, 900, .inl (upd f_171 (15 : Int32).toNatClampNeg (vp_nar .byte x_183))))] := hD
                                                                                                                    generalize (upd f_171 (15 : Int32).toNatClampNeg (vp_nar .byte x_183)) = f_184 at hP hD
                                                                                                                    refine lv_aload_n hx hb dX12_feed_101 rfl (lv_at hl 2 rfl) ?_
                                                                                                                    refine lv_dup hx hb dX12_feed_102 rfl ?_
                                                                                                                    refine va_get (D := (dC, dI)) (ci := 11) (v := .int 15) (C := RX12) (T := TX12) (N := 69) hx hb hts hinX12 hown hK hP 0 rfl rfl 31 (by decide) (hts (.fieldLink RX12 349 "BondCalendarsModel" "taped" "I") (by decide +kernel)) (fun _ h9 => h9) (List.getElem?_set_self (by rw [(List.length_set.trans hn_h0)]; decide)) dX12_feed_103 ?_
                                                                                                                    refine lv_iconst (v := 1) hx hb dX12_feed_106 (by decide) ?_
                                                                                                                    refine lv_iadd hx hb dX12_feed_107 ?_
                                                                                                                    refine lv_topi (fun z_185 ez_185 => ?_)
                                                                                                                    obtain rfl : z_185 = 16 := ez_185.trans (by decide)
                                                                                                                    refine va_put (D := (dC, dI)) (ci := 11) (v := .int 16) (C := RX12) (T := TX12) (N := 69) hx hb hts hinX12 tyX12 tyX12_ok nmX12 hown hK hP hD hS 0 rfl rfl 31 (by decide) (hts (.fieldLink RX12 349 "BondCalendarsModel" "taped" "I") (by decide +kernel)) (fun _ h9 => h9) rfl (ty := .int) (by decide +kernel) rfl rfl (by rw [(List.length_set.trans (List.length_set.trans hn_h0))]; decide) dX12_feed_108 (fun H locs hP hD hS => ?_)
                                                                                                                    rw [List.set_set] at hP hD
                                                                                                                    have hP : va_P (dC, dI) vwCl [(h0, .inr (11, ((fs_h0.set 0 (.int 0)).set 31 (.int 16)))), (ba, .inl (cB, 900, .inl f_184))] H := hP
                                                                                                                    have hD : va_D A [(h0, .inr (11, ((fs_h0.set 0 (.int 0)).set 31 (.int 16)))), (ba, .inl (cB, 900, .inl f_184))] := hD
                                                                                                                    refine lv_iinc (v := 16) (lv' := [(6, .int 16), (7, .int p3), (0, .ref h0), (1, .int p0), (2, .int p1), (3, .int p2), (4, .int p3), (5, .int p4)]) hx hb dX12_feed_111 hl (k := 1) rfl (by decide) (by decide) rfl (fun ls hl => ?_)
                                                                                                                    refine lv_goto (tgt := 23) hx hb dX12_feed_114 (by decide) ?_
                                                                                                                    refine lv_iload hx hb dX12_feed_23 (lv_at hl 0 rfl) ?_
                                                                                                                    refine lv_bipush (v := 20) hx hb dX12_feed_25 (by decide) ?_
                                                                                                                    refine lv_icmp_ge (tgt := 117) hx hb dX12_feed_27 (by decide) (fun c_187 => ?_) (fun c_187 => ?_)
                                                                                                                    · exact absurd c_187 (by decide)
                                                                                                                    · refine lv_iload hx hb dX12_feed_30 (lv_at hl 0 rfl) ?_
                                                                                                                      refine lv_iconst (v := 4) hx hb dX12_feed_32 (by decide) ?_
                                                                                                                      refine lv_icmp_ge (tgt := 40) hx hb dX12_feed_33 (by decide) (fun c_188 => ?_) (fun c_188 => ?_)
                                                                                                                      · refine lv_iload hx hb dX12_feed_40 (lv_at hl 0 rfl) ?_
                                                                                                                        refine lv_bipush (v := 8) hx hb dX12_feed_42 (by decide) ?_
                                                                                                                        refine lv_icmp_ge (tgt := 51) hx hb dX12_feed_44 (by decide) (fun c_189 => ?_) (fun c_189 => ?_)
                                                                                                                        · refine lv_iload hx hb dX12_feed_51 (lv_at hl 0 rfl) ?_
                                                                                                                          refine lv_bipush (v := 12) hx hb dX12_feed_53 (by decide) ?_
                                                                                                                          refine lv_icmp_ge (tgt := 62) hx hb dX12_feed_55 (by decide) (fun c_190 => ?_) (fun c_190 => ?_)
                                                                                                                          · refine lv_iload hx hb dX12_feed_62 (lv_at hl 0 rfl) ?_
                                                                                                                            refine lv_bipush (v := 16) hx hb dX12_feed_64 (by decide) ?_
                                                                                                                            refine lv_icmp_ge (tgt := 74) hx hb dX12_feed_66 (by decide) (fun c_191 => ?_) (fun c_191 => ?_)
                                                                                                                            · refine lv_iload hx hb dX12_feed_74 (lv_at hl 7 rfl) ?_
                                                                                                                              refine lv_istore (lv' := [(7, .int p4), (6, .int 16), (0, .ref h0), (1, .int p0), (2, .int p1), (3, .int p2), (4, .int p3), (5, .int p4)]) hx hb dX12_feed_76 hl (by decide) rfl (fun ls hl => ?_)
                                                                                                                              refine lv_aload_n hx hb dX12_feed_78 rfl (lv_at hl 2 rfl) ?_
                                                                                                                              refine va_get (D := (dC, dI)) (ci := 11) (v := .ref ba) (C := RX12) (T := TX12) (N := 69) hx hb hts hinX12 hown hK hP 0 rfl rfl 30 (by decide) (hts (.fieldLink RX12 60 "BondCalendarsModel" "tape" "[B") (by decide +kernel)) (fun _ h9 => h9) ((List.getElem?_set_ne (by decide)).trans ((List.getElem?_set_ne (by decide)).trans hf_h0_30)) dX12_feed_79 ?_
                                                                                                                              refine lv_aload_n hx hb dX12_feed_82 rfl (lv_at hl 2 rfl) ?_
                                                                                                                              refine va_get (D := (dC, dI)) (ci := 11) (v := .int 16) (C := RX12) (T := TX12) (N := 69) hx hb hts hinX12 hown hK hP 0 rfl rfl 31 (by decide) (hts (.fieldLink RX12 349 "BondCalendarsModel" "taped" "I") (by decide +kernel)) (fun _ h9 => h9) (List.getElem?_set_self (by rw [(List.length_set.trans hn_h0)]; decide)) dX12_feed_83 ?_
                                                                                                                              refine lv_iload hx hb dX12_feed_86 (lv_at hl 0 rfl) ?_
                                                                                                                              refine lv_bipush (v := 24) hx hb dX12_feed_88 (by decide) ?_
                                                                                                                              refine lv_bipush (v := 8) hx hb dX12_feed_90 (by decide) ?_
                                                                                                                              refine lv_iload hx hb dX12_feed_92 (lv_at hl 1 rfl) ?_
                                                                                                                              refine lv_iconst (v := 4) hx hb dX12_feed_94 (by decide) ?_
                                                                                                                              refine lv_irem hx hb dX12_feed_95 (by decide) ?_
                                                                                                                              refine lv_topi (fun z_192 ez_192 => ?_)
                                                                                                                              obtain rfl : z_192 = 0 := ez_192.trans (by decide)
                                                                                                                              refine lv_imul hx hb dX12_feed_96 ?_
                                                                                                                              refine lv_topi (fun z_193 ez_193 => ?_)
                                                                                                                              obtain rfl : z_193 = 0 := ez_193.trans (by decide)
                                                                                                                              refine lv_isub hx hb dX12_feed_97 ?_
                                                                                                                              refine lv_topi (fun z_194 ez_194 => ?_)
                                                                                                                              obtain rfl : z_194 = 24 := ez_194.trans (by decide)
                                                                                                                              refine lv_ishr hx hb dX12_feed_98 ?_
                                                                                                                              refine lv_topi (fun x_195 _ => ?_)
                                                                                                                              refine lv_i2b hx hb dX12_feed_99 rfl ?_
                                                                                                                              refine lv_topi (fun x_196 _ => ?_)
                                                                                                                              refine va_bast hx hb hK hP hD hS 1 0 rfl rfl (vp_in_nI (n := 16) (by decide) (by decide)) dX12_feed_100 (fun H locs hP hD hS => ?_)
                                                                                                                              have hP : va_P (dC, dI) vwCl [(h0, .inr (11, ((fs_h0.set 0 (.int 0)).set 31 (.int 16)))), (ba, .inl (cB, 900, .inl (upd f_184 (16 : Int32).toNatClampNeg (vp_nar .byte x_196))))] H := hP
                                                                                                                              have hD : va_D A [(h0, .inr (11, ((fs_h0.set 0 (.int 0)).set 31 (.int 16)))), (ba, .inl (cB, 900, .inl (upd f_184 (16 : Int32).toNatClampNeg (vp_nar .byte x_196))))] := hD
                                                                                                                              generalize (upd f_184 (16 : Int32).toNatClampNeg (vp_nar .byte x_196)) = f_197 at hP hD
                                                                                                                              refine lv_aload_n hx hb dX12_feed_101 rfl (lv_at hl 2 rfl) ?_
                                                                                                                              refine lv_dup hx hb dX12_feed_102 rfl ?_
                                                                                                                              refine va_get (D := (dC, dI)) (ci := 11) (v := .int 16) (C := RX12) (T := TX12) (N := 69) hx hb hts hinX12 hown hK hP 0 rfl rfl 31 (by decide) (hts (.fieldLink RX12 349 "BondCalendarsModel" "taped" "I") (by decide +kernel)) (fun _ h9 => h9) (List.getElem?_set_self (by rw [(List.length_set.trans hn_h0)]; decide)) dX12_feed_103 ?_
                                                                                                                              refine lv_iconst (v := 1) hx hb dX12_feed_106 (by decide) ?_
                                                                                                                              refine lv_iadd hx hb dX12_feed_107 ?_
                                                                                                                              refine lv_topi (fun z_198 ez_198 => ?_)
                                                                                                                              obtain rfl : z_198 = 17 := ez_198.trans (by decide)
                                                                                                                              refine va_put (D := (dC, dI)) (ci := 11) (v := .int 17) (C := RX12) (T := TX12) (N := 69) hx hb hts hinX12 tyX12 tyX12_ok nmX12 hown hK hP hD hS 0 rfl rfl 31 (by decide) (hts (.fieldLink RX12 349 "BondCalendarsModel" "taped" "I") (by decide +kernel)) (fun _ h9 => h9) rfl (ty := .int) (by decide +kernel) rfl rfl (by rw [(List.length_set.trans (List.length_set.trans hn_h0))]; decide) dX12_feed_108 (fun H locs hP hD hS => ?_)
                                                                                                                              rw [List.set_set] at hP hD
                                                                                                                              have hP : va_P (dC, dI) vwCl [(h0, .inr (11, ((fs_h0.set 0 (.int 0)).set 31 (.int 17)))), (ba, .inl (cB, 900, .inl f_197))] H := hP
                                                                                                                              have hD : va_D A [(h0, .inr (11, ((fs_h0.set 0 (.int 0)).set 31 (.int 17)))), (ba, .inl (cB, 900, .inl f_197))] := hD
                                                                                                                              refine lv_iinc (v := 17) (lv' := [(6, .int 17), (7, .int p4), (0, .ref h0), (1, .int p0), (2, .int p1), (3, .int p2), (4, .int p3), (5, .int p4)]) hx hb dX12_feed_111 hl (k := 1) rfl (by decide) (by decide) rfl (fun ls hl => ?_)
                                                                                                                              refine lv_goto (tgt := 23) hx hb dX12_feed_114 (by decide) ?_
                                                                                                                              refine lv_iload hx hb dX12_feed_23 (lv_at hl 0 rfl) ?_
                                                                                                                              refine lv_bipush (v := 20) hx hb dX12_feed_25 (by decide) ?_
                                                                                                                              refine lv_icmp_ge (tgt := 117) hx hb dX12_feed_27 (by decide) (fun c_200 => ?_) (fun c_200 => ?_)
                                                                                                                              · exact absurd c_200 (by decide)
                                                                                                                              · refine lv_iload hx hb dX12_feed_30 (lv_at hl 0 rfl) ?_
                                                                                                                                refine lv_iconst (v := 4) hx hb dX12_feed_32 (by decide) ?_
                                                                                                                                refine lv_icmp_ge (tgt := 40) hx hb dX12_feed_33 (by decide) (fun c_201 => ?_) (fun c_201 => ?_)
                                                                                                                                · refine lv_iload hx hb dX12_feed_40 (lv_at hl 0 rfl) ?_
                                                                                                                                  refine lv_bipush (v := 8) hx hb dX12_feed_42 (by decide) ?_
                                                                                                                                  refine lv_icmp_ge (tgt := 51) hx hb dX12_feed_44 (by decide) (fun c_202 => ?_) (fun c_202 => ?_)
                                                                                                                                  · refine lv_iload hx hb dX12_feed_51 (lv_at hl 0 rfl) ?_
                                                                                                                                    refine lv_bipush (v := 12) hx hb dX12_feed_53 (by decide) ?_
                                                                                                                                    refine lv_icmp_ge (tgt := 62) hx hb dX12_feed_55 (by decide) (fun c_203 => ?_) (fun c_203 => ?_)
                                                                                                                                    · refine lv_iload hx hb dX12_feed_62 (lv_at hl 0 rfl) ?_
                                                                                                                                      refine lv_bipush (v := 16) hx hb dX12_feed_64 (by decide) ?_
                                                                                                                                      refine lv_icmp_ge (tgt := 74) hx hb dX12_feed_66 (by decide) (fun c_204 => ?_) (fun c_204 => ?_)
                                                                                                                                      · refine lv_iload hx hb dX12_feed_74 (lv_at hl 7 rfl) ?_
                                                                                                                                        refine lv_istore (lv' := [(7, .int p4), (6, .int 17), (0, .ref h0), (1, .int p0), (2, .int p1), (3, .int p2), (4, .int p3), (5, .int p4)]) hx hb dX12_feed_76 hl (by decide) rfl (fun ls hl => ?_)
                                                                                                                                        refine lv_aload_n hx hb dX12_feed_78 rfl (lv_at hl 2 rfl) ?_
                                                                                                                                        refine va_get (D := (dC, dI)) (ci := 11) (v := .ref ba) (C := RX12) (T := TX12) (N := 69) hx hb hts hinX12 hown hK hP 0 rfl rfl 30 (by decide) (hts (.fieldLink RX12 60 "BondCalendarsModel" "tape" "[B") (by decide +kernel)) (fun _ h9 => h9) ((List.getElem?_set_ne (by decide)).trans ((List.getElem?_set_ne (by decide)).trans hf_h0_30)) dX12_feed_79 ?_
                                                                                                                                        refine lv_aload_n hx hb dX12_feed_82 rfl (lv_at hl 2 rfl) ?_
                                                                                                                                        refine va_get (D := (dC, dI)) (ci := 11) (v := .int 17) (C := RX12) (T := TX12) (N := 69) hx hb hts hinX12 hown hK hP 0 rfl rfl 31 (by decide) (hts (.fieldLink RX12 349 "BondCalendarsModel" "taped" "I") (by decide +kernel)) (fun _ h9 => h9) (List.getElem?_set_self (by rw [(List.length_set.trans hn_h0)]; decide)) dX12_feed_83 ?_
                                                                                                                                        refine lv_iload hx hb dX12_feed_86 (lv_at hl 0 rfl) ?_
                                                                                                                                        refine lv_bipush (v := 24) hx hb dX12_feed_88 (by decide) ?_
                                                                                                                                        refine lv_bipush (v := 8) hx hb dX12_feed_90 (by decide) ?_
                                                                                                                                        refine lv_iload hx hb dX12_feed_92 (lv_at hl 1 rfl) ?_
                                                                                                                                        refine lv_iconst (v := 4) hx hb dX12_feed_94 (by decide) ?_
                                                                                                                                        refine lv_irem hx hb dX12_feed_95 (by decide) ?_
                                                                                                                                        refine lv_topi (fun z_205 ez_205 => ?_)
                                                                                                                                        obtain rfl : z_205 = 1 := ez_205.trans (by decide)
                                                                                                                                        refine lv_imul hx hb dX12_feed_96 ?_
                                                                                                                                        refine lv_topi (fun z_206 ez_206 => ?_)
                                                                                                                                        obtain rfl : z_206 = 8 := ez_206.trans (by decide)
                                                                                                                                        refine lv_isub hx hb dX12_feed_97 ?_
                                                                                                                                        refine lv_topi (fun z_207 ez_207 => ?_)
                                                                                                                                        obtain rfl : z_207 = 16 := ez_207.trans (by decide)
                                                                                                                                        refine lv_ishr hx hb dX12_feed_98 ?_
                                                                                                                                        refine lv_topi (fun x_208 _ => ?_)
                                                                                                                                        refine lv_i2b hx hb dX12_feed_99 rfl ?_
                                                                                                                                        refine lv_topi (fun x_209 _ => ?_)
                                                                                                                                        refine va_bast hx hb hK hP hD hS 1 0 rfl rfl (vp_in_nI (n := 17) (by decide) (by decide)) dX12_feed_100 (fun H locs hP hD hS => ?_)
                                                                                                                                        have hP : va_P (dC, dI) vwCl [(h0, .inr (11, ((fs_h0.set 0 (.int 0)).set 31 (.int 17)))), (ba, .inl (cB, 900, .inl (upd f_197 (17 : Int32).toNatClampNeg (vp_nar .byte x_209))))] H := hP
                                                                                                                                        have hD : va_D A [(h0, .inr (11, ((fs_h0.set 0 (.int 0)).set 31 (.int 17)))), (ba, .inl (cB, 900, .inl (upd f_197 (17 : Int32).toNatClampNeg (vp_nar .byte x_209))))] := hD
                                                                                                                                        generalize (upd f_197 (17 : Int32).toNatClampNeg (vp_nar .byte x_209)) = f_210 at hP hD
                                                                                                                                        refine lv_aload_n hx hb dX12_feed_101 rfl (lv_at hl 2 rfl) ?_
                                                                                                                                        refine lv_dup hx hb dX12_feed_102 rfl ?_
                                                                                                                                        refine va_get (D := (dC, dI)) (ci := 11) (v := .int 17) (C := RX12) (T := TX12) (N := 69) hx hb hts hinX12 hown hK hP 0 rfl rfl 31 (by decide) (hts (.fieldLink RX12 349 "BondCalendarsModel" "taped" "I") (by decide +kernel)) (fun _ h9 => h9) (List.getElem?_set_self (by rw [(List.length_set.trans hn_h0)]; decide)) dX12_feed_103 ?_
                                                                                                                                        refine lv_iconst (v := 1) hx hb dX12_feed_106 (by decide) ?_
                                                                                                                                        refine lv_iadd hx hb dX12_feed_107 ?_
                                                                                                                                        refine lv_topi (fun z_211 ez_211 => ?_)
                                                                                                                                        obtain rfl : z_211 = 18 := ez_211.trans (by decide)
                                                                                                                                        refine va_put (D := (dC, dI)) (ci := 11) (v := .int 18) (C := RX12) (T := TX12) (N := 69) hx hb hts hinX12 tyX12 tyX12_ok nmX12 hown hK hP hD hS 0 rfl rfl 31 (by decide) (hts (.fieldLink RX12 349 "BondCalendarsModel" "taped" "I") (by decide +kernel)) (fun _ h9 => h9) rfl (ty := .int) (by decide +kernel) rfl rfl (by rw [(List.length_set.trans (List.length_set.trans hn_h0))]; decide) dX12_feed_108 (fun H locs hP hD hS => ?_)
                                                                                                                                        rw [List.set_set] at hP hD
                                                                                                                                        have hP : va_P (dC, dI) vwCl [(h0, .inr (11, ((fs_h0.set 0 (.int 0)).set 31 (.int 18)))), (ba, .inl (cB, 900, .inl f_210))] H := hP
                                                                                                                                        have hD : va_D A [(h0, .inr (11, ((fs_h0.set 0 (.int 0)).set 31 (.int 18)))), (ba, .inl (cB, 900, .inl f_210))] := hD
                                                                                                                                        refine lv_iinc (v := 18) (lv' := [(6, .int 18), (7, .int p4), (0, .ref h0), (1, .int p0), (2, .int p1), (3, .int p2), (4, .int p3), (5, .int p4)]) hx hb dX12_feed_111 hl (k := 1) rfl (by decide) (by decide) rfl (fun ls hl => ?_)
                                                                                                                                        refine lv_goto (tgt := 23) hx hb dX12_feed_114 (by decide) ?_
                                                                                                                                        refine lv_iload hx hb dX12_feed_23 (lv_at hl 0 rfl) ?_
                                                                                                                                        refine lv_bipush (v := 20) hx hb dX12_feed_25 (by decide) ?_
                                                                                                                                        refine lv_icmp_ge (tgt := 117) hx hb dX12_feed_27 (by decide) (fun c_213 => ?_) (fun c_213 => ?_)
                                                                                                                                        · exact absurd c_213 (by decide)
                                                                                                                                        · refine lv_iload hx hb dX12_feed_30 (lv_at hl 0 rfl) ?_
                                                                                                                                          refine lv_iconst (v := 4) hx hb dX12_feed_32 (by decide) ?_
                                                                                                                                          refine lv_icmp_ge (tgt := 40) hx hb dX12_feed_33 (by decide) (fun c_214 => ?_) (fun c_214 => ?_)
                                                                                                                                          · refine lv_iload hx hb dX12_feed_40 (lv_at hl 0 rfl) ?_
                                                                                                                                            refine lv_bipush (v := 8) hx hb dX12_feed_42 (by decide) ?_
                                                                                                                                            refine lv_icmp_ge (tgt := 51) hx hb dX12_feed_44 (by decide) (fun c_215 => ?_) (fun c_215 => ?_)
                                                                                                                                            · refine lv_iload hx hb dX12_feed_51 (lv_at hl 0 rfl) ?_
                                                                                                                                              refine lv_bipush (v := 12) hx hb dX12_feed_53 (by decide) ?_
                                                                                                                                              refine lv_icmp_ge (tgt := 62) hx hb dX12_feed_55 (by decide) (fun c_216 => ?_) (fun c_216 => ?_)
                                                                                                                                              · refine lv_iload hx hb dX12_feed_62 (lv_at hl 0 rfl) ?_
                                                                                                                                                refine lv_bipush (v := 16) hx hb dX12_feed_64 (by decide) ?_
                                                                                                                                                refine lv_icmp_ge (tgt := 74) hx hb dX12_feed_66 (by decide) (fun c_217 => ?_) (fun c_217 => ?_)
                                                                                                                                                · refine lv_iload hx hb dX12_feed_74 (lv_at hl 7 rfl) ?_
                                                                                                                                                  refine lv_istore (lv' := [(7, .int p4), (6, .int 18), (0, .ref h0), (1, .int p0), (2, .int p1), (3, .int p2), (4, .int p3), (5, .int p4)]) hx hb dX12_feed_76 hl (by decide) rfl (fun ls hl => ?_)
                                                                                                                                                  refine lv_aload_n hx hb dX12_feed_78 rfl (lv_at hl 2 rfl) ?_
                                                                                                                                                  refine va_get (D := (dC, dI)) (ci := 11) (v := .ref ba) (C := RX12) (T := TX12) (N := 69) hx hb hts hinX12 hown hK hP 0 rfl rfl 30 (by decide) (hts (.fieldLink RX12 60 "BondCalendarsModel" "tape" "[B") (by decide +kernel)) (fun _ h9 => h9) ((List.getElem?_set_ne (by decide)).trans ((List.getElem?_set_ne (by decide)).trans hf_h0_30)) dX12_feed_79 ?_
                                                                                                                                                  refine lv_aload_n hx hb dX12_feed_82 rfl (lv_at hl 2 rfl) ?_
                                                                                                                                                  refine va_get (D := (dC, dI)) (ci := 11) (v := .int 18) (C := RX12) (T := TX12) (N := 69) hx hb hts hinX12 hown hK hP 0 rfl rfl 31 (by decide) (hts (.fieldLink RX12 349 "BondCalendarsModel" "taped" "I") (by decide +kernel)) (fun _ h9 => h9) (List.getElem?_set_self (by rw [(List.length_set.trans hn_h0)]; decide)) dX12_feed_83 ?_
                                                                                                                                                  refine lv_iload hx hb dX12_feed_86 (lv_at hl 0 rfl) ?_
                                                                                                                                                  refine lv_bipush (v := 24) hx hb dX12_feed_88 (by decide) ?_
                                                                                                                                                  refine lv_bipush (v := 8) hx hb dX12_feed_90 (by decide) ?_
                                                                                                                                                  refine lv_iload hx hb dX12_feed_92 (lv_at hl 1 rfl) ?_
                                                                                                                                                  refine lv_iconst (v := 4) hx hb dX12_feed_94 (by decide) ?_
                                                                                                                                                  refine lv_irem hx hb dX12_feed_95 (by decide) ?_
                                                                                                                                                  refine lv_topi (fun z_218 ez_218 => ?_)
                                                                                                                                                  obtain rfl : z_218 = 2 := ez_218.trans (by decide)
                                                                                                                                                  refine lv_imul hx hb dX12_feed_96 ?_
                                                                                                                                                  refine lv_topi (fun z_219 ez_219 => ?_)
                                                                                                                                                  obtain rfl : z_219 = 16 := ez_219.trans (by decide)
                                                                                                                                                  refine lv_isub hx hb dX12_feed_97 ?_
                                                                                                                                                  refine lv_topi (fun z_220 ez_220 => ?_)
                                                                                                                                                  obtain rfl : z_220 = 8 := ez_220.trans (by decide)
                                                                                                                                                  refine lv_ishr hx hb dX12_feed_98 ?_
                                                                                                                                                  refine lv_topi (fun x_221 _ => ?_)
                                                                                                                                                  refine lv_i2b hx hb dX12_feed_99 rfl ?_
                                                                                                                                                  refine lv_topi (fun x_222 _ => ?_)
                                                                                                                                                  refine va_bast hx hb hK hP hD hS 1 0 rfl rfl (vp_in_nI (n := 18) (by decide) (by decide)) dX12_feed_100 (fun H locs hP hD hS => ?_)
                                                                                                                                                  have hP : va_P (dC, dI) vwCl [(h0, .inr (11, ((fs_h0.set 0 (.int 0)).set 31 (.int 18)))), (ba, .inl (cB, 900, .inl (upd f_210 (18 : Int32).toNatClampNeg (vp_nar .byte x_222))))] H := hP
                                                                                                                                                  have hD : va_D A [(h0, .inr (11, ((fs_h0.set 0 (.int 0)).set 31 (.int 18)))), (ba, .inl (cB, 900, .inl (upd f_210 (18 : Int32).toNatClampNeg (vp_nar .byte x_222))))] := hD
                                                                                                                                                  generalize (upd f_210 (18 : Int32).toNatClampNeg (vp_nar .byte x_222)) = f_223 at hP hD
                                                                                                                                                  refine lv_aload_n hx hb dX12_feed_101 rfl (lv_at hl 2 rfl) ?_
                                                                                                                                                  refine lv_dup hx hb dX12_feed_102 rfl ?_
                                                                                                                                                  refine va_get (D := (dC, dI)) (ci := 11) (v := .int 18) (C := RX12) (T := TX12) (N := 69) hx hb hts hinX12 hown hK hP 0 rfl rfl 31 (by decide) (hts (.fieldLink RX12 349 "BondCalendarsModel" "taped" "I") (by decide +kernel)) (fun _ h9 => h9) (List.getElem?_set_self (by rw [(List.length_set.trans hn_h0)]; decide)) dX12_feed_103 ?_
                                                                                                                                                  refine lv_iconst (v := 1) hx hb dX12_feed_106 (by decide) ?_
                                                                                                                                                  refine lv_iadd hx hb dX12_feed_107 ?_
                                                                                                                                                  refine lv_topi (fun z_224 ez_224 => ?_)
                                                                                                                                                  obtain rfl : z_224 = 19 := ez_224.trans (by decide)
                                                                                                                                                  refine va_put (D := (dC, dI)) (ci := 11) (v := .int 19) (C := RX12) (T := TX12) (N := 69) hx hb hts hinX12 tyX12 tyX12_ok nmX12 hown hK hP hD hS 0 rfl rfl 31 (by decide) (hts (.fieldLink RX12 349 "BondCalendarsModel" "taped" "I") (by decide +kernel)) (fun _ h9 => h9) rfl (ty := .int) (by decide +kernel) rfl rfl (by rw [(List.length_set.trans (List.length_set.trans hn_h0))]; decide) dX12_feed_108 (fun H locs hP hD hS => ?_)
                                                                                                                                                  rw [List.set_set] at hP hD
                                                                                                                                                  have hP : va_P (dC, dI) vwCl [(h0, .inr (11, ((fs_h0.set 0 (.int 0)).set 31 (.int 19)))), (ba, .inl (cB, 900, .inl f_223))] H := hP
                                                                                                                                                  have hD : va_D A [(h0, .inr (11, ((fs_h0.set 0 (.int 0)).set 31 (.int 19)))), (ba, .inl (cB, 900, .inl f_223))] := hD
                                                                                                                                                  refine lv_iinc (v := 19) (lv' := [(6, .int 19), (7, .int p4), (0, .ref h0), (1, .int p0), (2, .int p1), (3, .int p2), (4, .int p3), (5, .int p4)]) hx hb dX12_feed_111 hl (k := 1) rfl (by decide) (by decide) rfl (fun ls hl => ?_)
                                                                                                                                                  refine lv_goto (tgt := 23) hx hb dX12_feed_114 (by decide) ?_
                                                                                                                                                  refine lv_iload hx hb dX12_feed_23 (lv_at hl 0 rfl) ?_
                                                                                                                                                  refine lv_bipush (v := 20) hx hb dX12_feed_25 (by decide) ?_
                                                                                                                                                  refine lv_icmp_ge (tgt := 117) hx hb dX12_feed_27 (by decide) (fun c_226 => ?_) (fun c_226 => ?_)
                                                                                                                                                  · exact absurd c_226 (by decide)
                                                                                                                                                  · refine lv_iload hx hb dX12_feed_30 (lv_at hl 0 rfl) ?_
                                                                                                                                                    refine lv_iconst (v := 4) hx hb dX12_feed_32 (by decide) ?_
                                                                                                                                                    refine lv_icmp_ge (tgt := 40) hx hb dX12_feed_33 (by decide) (fun c_227 => ?_) (fun c_227 => ?_)
                                                                                                                                                    · refine lv_iload hx hb dX12_feed_40 (lv_at hl 0 rfl) ?_
                                                                                                                                                      refine lv_bipush (v := 8) hx hb dX12_feed_42 (by decide) ?_
                                                                                                                                                      refine lv_icmp_ge (tgt := 51) hx hb dX12_feed_44 (by decide) (fun c_228 => ?_) (fun c_228 => ?_)
                                                                                                                                                      · refine lv_iload hx hb dX12_feed_51 (lv_at hl 0 rfl) ?_
                                                                                                                                                        refine lv_bipush (v := 12) hx hb dX12_feed_53 (by decide) ?_
                                                                                                                                                        refine lv_icmp_ge (tgt := 62) hx hb dX12_feed_55 (by decide) (fun c_229 => ?_) (fun c_229 => ?_)
                                                                                                                                                        · refine lv_iload hx hb dX12_feed_62 (lv_at hl 0 rfl) ?_
                                                                                                                                                          refine lv_bipush (v := 16) hx hb dX12_feed_64 (by decide) ?_
                                                                                                                                                          refine lv_icmp_ge (tgt := 74) hx hb dX12_feed_66 (by decide) (fun c_230 => ?_) (fun c_230 => ?_)
                                                                                                                                                          · refine lv_iload hx hb dX12_feed_74 (lv_at hl 7 rfl) ?_
                                                                                                                                                            refine lv_istore (lv' := [(7, .int p4), (6, .int 19), (0, .ref h0), (1, .int p0), (2, .int p1), (3, .int p2), (4, .int p3), (5, .int p4)]) hx hb dX12_feed_76 hl (by decide) rfl (fun ls hl => ?_)
                                                                                                                                                            refine lv_aload_n hx hb dX12_feed_78 rfl (lv_at hl 2 rfl) ?_
                                                                                                                                                            refine va_get (D := (dC, dI)) (ci := 11) (v := .ref ba) (C := RX12) (T := TX12) (N := 69) hx hb hts hinX12 hown hK hP 0 rfl rfl 30 (by decide) (hts (.fieldLink RX12 60 "BondCalendarsModel" "tape" "[B") (by decide +kernel)) (fun _ h9 => h9) ((List.getElem?_set_ne (by decide)).trans ((List.getElem?_set_ne (by decide)).trans hf_h0_30)) dX12_feed_79 ?_
                                                                                                                                                            refine lv_aload_n hx hb dX12_feed_82 rfl (lv_at hl 2 rfl) ?_
                                                                                                                                                            refine va_get (D := (dC, dI)) (ci := 11) (v := .int 19) (C := RX12) (T := TX12) (N := 69) hx hb hts hinX12 hown hK hP 0 rfl rfl 31 (by decide) (hts (.fieldLink RX12 349 "BondCalendarsModel" "taped" "I") (by decide +kernel)) (fun _ h9 => h9) (List.getElem?_set_self (by rw [(List.length_set.trans hn_h0)]; decide)) dX12_feed_83 ?_
                                                                                                                                                            refine lv_iload hx hb dX12_feed_86 (lv_at hl 0 rfl) ?_
                                                                                                                                                            refine lv_bipush (v := 24) hx hb dX12_feed_88 (by decide) ?_
                                                                                                                                                            refine lv_bipush (v := 8) hx hb dX12_feed_90 (by decide) ?_
                                                                                                                                                            refine lv_iload hx hb dX12_feed_92 (lv_at hl 1 rfl) ?_
                                                                                                                                                            refine lv_iconst (v := 4) hx hb dX12_feed_94 (by decide) ?_
                                                                                                                                                            refine lv_irem hx hb dX12_feed_95 (by decide) ?_
                                                                                                                                                            refine lv_topi (fun z_231 ez_231 => ?_)
                                                                                                                                                            obtain rfl : z_231 = 3 := ez_231.trans (by decide)
                                                                                                                                                            refine lv_imul hx hb dX12_feed_96 ?_
                                                                                                                                                            refine lv_topi (fun z_232 ez_232 => ?_)
                                                                                                                                                            obtain rfl : z_232 = 24 := ez_232.trans (by decide)
                                                                                                                                                            refine lv_isub hx hb dX12_feed_97 ?_
                                                                                                                                                            refine lv_topi (fun z_233 ez_233 => ?_)
                                                                                                                                                            obtain rfl : z_233 = 0 := ez_233.trans (by decide)
                                                                                                                                                            refine lv_ishr hx hb dX12_feed_98 ?_
                                                                                                                                                            refine lv_topi (fun x_234 _ => ?_)
                                                                                                                                                            refine lv_i2b hx hb dX12_feed_99 rfl ?_
                                                                                                                                                            refine lv_topi (fun x_235 _ => ?_)
                                                                                                                                                            refine va_bast hx hb hK hP hD hS 1 0 rfl rfl (vp_in_nI (n := 19) (by decide) (by decide)) dX12_feed_100 (fun H locs hP hD hS => ?_)
                                                                                                                                                            have hP : va_P (dC, dI) vwCl [(h0, .inr (11, ((fs_h0.set 0 (.int 0)).set 31 (.int 19)))), (ba, .inl (cB, 900, .inl (upd f_223 (19 : Int32).toNatClampNeg (vp_nar .byte x_235))))] H := hP
                                                                                                                                                            have hD : va_D A [(h0, .inr (11, ((fs_h0.set 0 (.int 0)).set 31 (.int 19)))), (ba, .inl (cB, 900, .inl (upd f_223 (19 : Int32).toNatClampNeg (vp_nar .byte x_235))))] := hD
                                                                                                                                                            generalize (upd f_223 (19 : Int32).toNatClampNeg (vp_nar .byte x_235)) = f_236 at hP hD
                                                                                                                                                            refine lv_aload_n hx hb dX12_feed_101 rfl (lv_at hl 2 rfl) ?_
                                                                                                                                                            refine lv_dup hx hb dX12_feed_102 rfl ?_
                                                                                                                                                            refine va_get (D := (dC, dI)) (ci := 11) (v := .int 19) (C := RX12) (T := TX12) (N := 69) hx hb hts hinX12 hown hK hP 0 rfl rfl 31 (by decide) (hts (.fieldLink RX12 349 "BondCalendarsModel" "taped" "I") (by decide +kernel)) (fun _ h9 => h9) (List.getElem?_set_self (by rw [(List.length_set.trans hn_h0)]; decide)) dX12_feed_103 ?_
                                                                                                                                                            refine lv_iconst (v := 1) hx hb dX12_feed_106 (by decide) ?_
                                                                                                                                                            refine lv_iadd hx hb dX12_feed_107 ?_
                                                                                                                                                            refine lv_topi (fun z_237 ez_237 => ?_)
                                                                                                                                                            obtain rfl : z_237 = 20 := ez_237.trans (by decide)
                                                                                                                                                            refine va_put (D := (dC, dI)) (ci := 11) (v := .int 20) (C := RX12) (T := TX12) (N := 69) hx hb hts hinX12 tyX12 tyX12_ok nmX12 hown hK hP hD hS 0 rfl rfl 31 (by decide) (hts (.fieldLink RX12 349 "BondCalendarsModel" "taped" "I") (by decide +kernel)) (fun _ h9 => h9) rfl (ty := .int) (by decide +kernel) rfl rfl (by rw [(List.length_set.trans (List.length_set.trans hn_h0))]; decide) dX12_feed_108 (fun H locs hP hD hS => ?_)
                                                                                                                                                            rw [List.set_set] at hP hD
                                                                                                                                                            have hP : va_P (dC, dI) vwCl [(h0, .inr (11, ((fs_h0.set 0 (.int 0)).set 31 (.int 20)))), (ba, .inl (cB, 900, .inl f_236))] H := hP
                                                                                                                                                            have hD : va_D A [(h0, .inr (11, ((fs_h0.set 0 (.int 0)).set 31 (.int 20)))), (ba, .inl (cB, 900, .inl f_236))] := hD
                                                                                                                                                            refine lv_iinc (v := 20) (lv' := [(6, .int 20), (7, .int p4), (0, .ref h0), (1, .int p0), (2, .int p1), (3, .int p2), (4, .int p3), (5, .int p4)]) hx hb dX12_feed_111 hl (k := 1) rfl (by decide) (by decide) rfl (fun ls hl => ?_)
                                                                                                                                                            refine lv_goto (tgt := 23) hx hb dX12_feed_114 (by decide) ?_
                                                                                                                                                            refine lv_iload hx hb dX12_feed_23 (lv_at hl 0 rfl) ?_
                                                                                                                                                            refine lv_bipush (v := 20) hx hb dX12_feed_25 (by decide) ?_
                                                                                                                                                            refine lv_icmp_ge (tgt := 117) hx hb dX12_feed_27 (by decide) (fun c_239 => ?_) (fun c_239 => ?_)
                                                                                                                                                            · refine lv_aload_n hx hb dX12_feed_117 rfl (lv_at hl 2 rfl) ?_
                                                                                                                                                              refine va_get (D := (dC, dI)) (ci := 11) (v := .int 20) (C := RX12) (T := TX12) (N := 69) hx hb hts hinX12 hown hK hP 0 rfl rfl 31 (by decide) (hts (.fieldLink RX12 349 "BondCalendarsModel" "taped" "I") (by decide +kernel)) (fun _ h9 => h9) (List.getElem?_set_self (by rw [(List.length_set.trans hn_h0)]; decide)) dX12_feed_118 ?_
                                                                                                                                                              have hpost : (20 : Int32) = 20 := rfl
                                                                                                                                                              have hP9 := hP.sub (ws' := []) [] rfl
                                                                                                                                                              have hD9 := hD.sub (ws' := []) [] (by decide) rfl
                                                                                                                                                              have hK9 := hK.sub (tys' := []) [] rfl
                                                                                                                                                              exact W.iret (v := 20) hx hb hr (fun t ht hW => ⟨⟨20, (), rfl, hpost, by rw [ht]; exact hP9, va_K.moved hW.alike hK9, hD9⟩, hS.F ht⟩) hS.2.2 dX12_feed_121
                                                                                                                                                            · exact absurd (by decide) c_239
                                                                                                                                                          · exact absurd (by decide) c_230
                                                                                                                                                        · exact absurd (by decide) c_229
                                                                                                                                                      · exact absurd (by decide) c_228
                                                                                                                                                    · exact absurd (by decide) c_227
                                                                                                                                                · exact absurd (by decide) c_217
                                                                                                                                              · exact absurd (by decide) c_216
                                                                                                                                            · exact absurd (by decide) c_215
                                                                                                                                          · exact absurd (by decide) c_214
                                                                                                                                      · exact absurd (by decide) c_204
                                                                                                                                    · exact absurd (by decide) c_203
                                                                                                                                  · exact absurd (by decide) c_202
                                                                                                                                · exact absurd (by decide) c_201
                                                                                                                            · exact absurd (by decide) c_191
                                                                                                                          · exact absurd (by decide) c_190
                                                                                                                        · exact absurd (by decide) c_189
                                                                                                                      · exact absurd (by decide) c_188
                                                                                                                · exact absurd (by decide) c_177
                                                                                                              · exact absurd (by decide) c_176
                                                                                                            · exact absurd (by decide) c_175
                                                                                                      · exact absurd (by decide) c_164
                                                                                                    · exact absurd (by decide) c_163
                                                                                                  · exact absurd (by decide) c_162
                                                                                            · exact absurd (by decide) c_151
                                                                                          · exact absurd (by decide) c_150
                                                                                        · exact absurd (by decide) c_149
                                                                                  · exact absurd (by decide) c_138
                                                                                · exact absurd (by decide) c_137
                                                                              · exact absurd (by decide) c_136
                                                                        · exact absurd (by decide) c_125
                                                                      · exact absurd (by decide) c_124
                                                                · exact absurd (by decide) c_113
                                                              · exact absurd (by decide) c_112
                                                        · exact absurd (by decide) c_101
                                                      · exact absurd (by decide) c_100
                                                · exact absurd (by decide) c_89
                                              · exact absurd (by decide) c_88
                                        · exact absurd (by decide) c_77
                                  · exact absurd (by decide) c_66
                            · exact absurd (by decide) c_55
                      · exact absurd (by decide) c_44
  · exact absurd (by decide) c_2
