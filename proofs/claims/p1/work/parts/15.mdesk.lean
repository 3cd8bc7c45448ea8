theorem va_ldcSW {p : Program} {l : Launch} {e : Env} {R : Room} {s : State} {m : MethodId} {args : Array Value} {below : List Frame} {meth : Method} {c : Code} {H : Heap} {locs : List Loc} {cells slots : Nat} {Q : State → Prop} {cc : ByteArray} {pc : Nat} {ls : Array Slot} {rest : List Value} (hexec : p.tables.exec = Jvm.exec) (hb : c.code = cc) {own tx : String} {index q : Nat} (hown : s.vm.findClass own = some m.cls) (hZ : vk_R own index tx q s) (hdg : decode cc pc = .ok (.ldc_w index, 3)) (k : W p l e R s m args below meth c H locs cells slots Q (F0 m (pc + 3) ls (.ref q :: rest))) : W p l e R s m args below meth c H locs cells slots Q (F0 m pc ls rest) := by
  intro T hT X
  obtain ⟨t, a1, b1⟩ := k T hT X
  exact ⟨t, X.ldcStringW hexec hown (text := tx) (a := q) hZ.1 hZ.2 (g := F0 m pc ls rest) rfl (by rw [hb]; exact hdg) t a1, b1⟩
set_option maxHeartbeats 4000000 in
set_option maxRecDepth 100000 in
theorem k_X12_byteAt (l : Launch) (dC : Nat → ClassId) (dI : Nat → Nat → Nat) (sz : Nat) (h0 : Nat) (fs_h0 : List Value) (hn_h0 : fs_h0.length = 69) (hf_h0_32 : fs_h0[32]? = some (.int 0)) : Met l yX12_byteAt wsX12_byteAt ({ frames := 0, cells := 0, slots := 0, locals := 0 }) (va_Pc [.ref h0, .int 0] (fun U => U.heap.size = sz ∧ va_P (dC, dI) vwCl [(h0, .inr (11, fs_h0))] U.heap ∧ va_K (dC, dI) vwCl [] U ∧ va_D (fun _ => True) [(h0, .inr (11, fs_h0))])) (va_Qi (fun (r : Int32) (_ : Unit) => r = (-1)) (fun _ t => va_P (dC, dI) vwCl [(h0, .inr (11, fs_h0))] t.heap ∧ va_K (dC, dI) vwCl [] t ∧ va_D (va_A [(h0, .inr (11, fs_h0))] sz) [(h0, .inr (11, fs_h0))]) (va_A [(h0, .inr (11, fs_h0))] sz)) 0 0 (va_A [(h0, .inr (11, fs_h0))] sz) := by
  refine Met.ofW (cc := cX12_byteAt) (maxL := 2) (ret := (some .int)) (by decide) rfl ?_
  intro p e s m args below meth c s₁ B hml hv
  obtain ⟨rfl, hsz, hP, hK, hD0⟩ := hv
  have hx := B.exec
  have hb := B.bytes
  have hr := B.returns
  have hts := atoms_spec (ws := wsX12_byteAt) B.pre
  have hown : s.vm.findClass RX12 = some m.cls := findClass_of_methodNamed B.named
  have hlocks := B.notSynchronized
  have hinX12 : ∀ w ∈ u_ws RX12 TX12 69, w ∈ wsX12_byteAt := (fun _ h9 => List.mem_cons_of_mem _ (List.mem_append_right _ h9))
  subst hsz
  have hD := hD0.self (sz := s.heap.size)
  generalize hAe : va_A [(h0, .inr (11, fs_h0))] s.heap.size = A at hD ⊢
  have hA : ∀ q : Nat, s.heap.size ≤ q → A q := fun q h => by rw [← hAe]; exact Or.inr h
  have hS : va_S A s.heap s.heap [] := va_S.rf
  have hP : va_P (dC, dI) vwCl [(h0, .inr (11, fs_h0))] s.heap := hP
  have hl := lv_entry ([.ref h0, .int 0]) (n := 2) (Nat.le_of_ble_eq_true rfl)
  rw [lg_entry_eq]
  generalize (lg_sl ([.ref h0, .int 0]) ++ List.replicate (2 - (lg_sl ([.ref h0, .int 0])).length) Slot.unset).toArray = ls at hl ⊢
  have hl : lv_has ls 2 [(0, .ref h0), (1, .int 0)] := hl
  refine lv_iload_n hx hb dX12_byteAt_0 rfl (lv_at hl 1 rfl) ?_
  refine lv_aload_n hx hb dX12_byteAt_1 rfl (lv_at hl 0 rfl) ?_
  refine va_get (D := (dC, dI)) (ci := 11) (v := .int 0) (C := RX12) (T := TX12) (N := 69) hx hb hts hinX12 hown hK hP 0 rfl rfl 32 (by decide) (hts (.fieldLink RX12 189 "BondCalendarsModel" "size" "I") (by decide +kernel)) (fun _ h9 => h9) hf_h0_32 dX12_byteAt_2 ?_
  refine lv_icmp_ge (tgt := 21) hx hb dX12_byteAt_5 (by decide) (fun c_1 => ?_) (fun c_1 => ?_)
  · refine lv_iconst (v := (-1)) hx hb dX12_byteAt_21 (by decide) ?_
    have hpost : ((-1) : Int32) = (-1) := rfl
    have hP9 := hP.sub (ws' := [(h0, .inr (11, fs_h0))]) [0] rfl
    have hD9 := hD.sub (ws' := [(h0, .inr (11, fs_h0))]) [0] (by decide) rfl
    have hK9 := hK.sub (tys' := []) [] rfl
    exact W.iret (v := (-1)) hx hb hr (fun t ht hW => ⟨⟨(-1), (), rfl, hpost, by rw [ht]; exact hP9, va_K.moved hW.alike hK9, hD9⟩, hS.F ht⟩) hS.2.2 dX12_byteAt_22
  · exact absurd (by decide) c_1
set_option maxHeartbeats 4000000 in
set_option maxRecDepth 100000 in
theorem k_X12_next (l : Launch) (dC : Nat → ClassId) (dI : Nat → Nat → Nat) (sz : Nat) (h0 : Nat) (fs_h0 : List Value) (hn_h0 : fs_h0.length = 69) (hf_h0_32 : fs_h0[32]? = some (.int 0)) (hf_h0_33 : fs_h0[33]? = some (.int 0)) (hf_h0_37 : fs_h0[37]? = some (.int 0)) : Met l yX12_next wsX12_next ({ frames := 1, cells := 0, slots := 0, locals := 21 }) (va_Pc [.ref h0] (fun U => U.heap.size = sz ∧ va_P (dC, dI) vwCl [(h0, .inr (11, fs_h0))] U.heap ∧ va_K (dC, dI) vwCl [] U ∧ va_D (fun _ => True) [(h0, .inr (11, fs_h0))])) (va_Qv (fun (_ : Unit) => True) (fun _ t => va_P (dC, dI) vwCl [(h0, .inr (11, ((fs_h0.set 35 (.int 0)).set 34 (.int 1))))] t.heap ∧ va_K (dC, dI) vwCl [] t ∧ va_D (va_A [(h0, .inr (11, fs_h0))] sz) [(h0, .inr (11, ((fs_h0.set 35 (.int 0)).set 34 (.int 1))))]) (va_A [(h0, .inr (11, fs_h0))] sz)) 0 0 (va_A [(h0, .inr (11, fs_h0))] sz) := by
  refine Met.ofW (cc := cX12_next) (maxL := 2) (ret := none) (by decide) rfl ?_
  intro p e s m args below meth c s₁ B hml hv
  obtain ⟨rfl, hsz, hP, hK, hD0⟩ := hv
  have hx := B.exec
  have hb := B.bytes
  have hr := B.returns
  have hts := atoms_spec (ws := wsX12_next) B.pre
  have hown : s.vm.findClass RX12 = some m.cls := findClass_of_methodNamed B.named
  have hlocks := B.notSynchronized
  have hinX12 : ∀ w ∈ u_ws RX12 TX12 69, w ∈ wsX12_next := (fun _ h9 => List.mem_cons_of_mem _ (List.mem_append_right _ h9))
  subst hsz
  have hD := hD0.self (sz := s.heap.size)
  generalize hAe : va_A [(h0, .inr (11, fs_h0))] s.heap.size = A at hD ⊢
  have hA : ∀ q : Nat, s.heap.size ≤ q → A q := fun q h => by rw [← hAe]; exact Or.inr h
  have hS : va_S A s.heap s.heap [] := va_S.rf
  have hP : va_P (dC, dI) vwCl [(h0, .inr (11, fs_h0))] s.heap := hP
  have hl := lv_entry ([.ref h0]) (n := 2) (Nat.le_of_ble_eq_true rfl)
  rw [lg_entry_eq]
  generalize (lg_sl ([.ref h0]) ++ List.replicate (2 - (lg_sl ([.ref h0])).length) Slot.unset).toArray = ls at hl ⊢
  have hl : lv_has ls 2 [(0, .ref h0)] := hl
  refine lv_aload_n hx hb dX12_next_0 rfl (lv_at hl 0 rfl) ?_
  refine va_get (D := (dC, dI)) (ci := 11) (v := .int 0) (C := RX12) (T := TX12) (N := 69) hx hb hts hinX12 hown hK hP 0 rfl rfl 37 (by decide) (hts (.fieldLink RX12 192 "BondCalendarsModel" "fault" "I") (by decide +kernel)) (fun _ h9 => h9) hf_h0_37 dX12_next_1 ?_
  refine lv_if_le (tgt := 8) hx hb dX12_next_4 (by decide) (fun c_1 => ?_) (fun c_1 => ?_)
  · refine lv_aload_n hx hb dX12_next_8 rfl (lv_at hl 0 rfl) ?_
    refine lv_aload_n hx hb dX12_next_9 rfl (lv_at hl 0 rfl) ?_
    refine va_get (D := (dC, dI)) (ci := 11) (v := .int 0) (C := RX12) (T := TX12) (N := 69) hx hb hts hinX12 hown hK hP 0 rfl rfl 33 (by decide) (hts (.fieldLink RX12 195 "BondCalendarsModel" "spot" "I") (by decide +kernel)) (fun _ h9 => h9) hf_h0_33 dX12_next_10 ?_
    have hPc := hP.sub (ws' := [(h0, .inr (11, fs_h0))]) [0] rfl
    have hDc := hD.sub (ws' := [(h0, .inr (11, fs_h0))]) [0] (by decide) rfl
    have hKc := hK.sub (tys' := []) [] rfl
    have hFc := va_free (wc := [(h0, .inr (11, fs_h0))]) hD hS hA [0] rfl
    refine va_calli (va_runV (As := [.int 0]) (rest := []) ⟨hx, hb, hml, hown, hts⟩ (k_X12_byteAt l dC dI s.heap.size h0 fs_h0 hn_h0 hf_h0_32) (cwV 1 hts gX12_next_X12_byteAt rfl rfl rfl (by decide +kernel) ⟨Nat.le_of_ble_eq_true rfl, Nat.le_of_ble_eq_true rfl⟩) ⟨fun a U g mk q => by obtain ⟨q0, q1, qP, qK, qD⟩ := q; exact ⟨q0, q1, qP, va_K.moved (u := U) (U := U.calling g mk a) (Vm.Alike.refl U.vm) qK, qD⟩, va_recv hKc hPc (ci := 11) (q0 := 0) rfl rfl, fun U hU hW => ⟨rfl, by rw [hU], by rw [hU]; exact hPc, va_K.moved hW.alike hKc, hDc.weaken (fun _ _ _ _ => trivial)⟩⟩ rfl rfl hl.1 rfl (lv_room (Nat.le_of_ble_eq_true rfl)) dX12_next_13 ⟨Nat.le_of_ble_eq_true rfl, Nat.le_of_ble_eq_true rfl⟩) hS (fun q _ h => hFc q h) hFc (fun r_2 u t H1 locs ht hvm hw hB hz1 hk1 hS => ?_)
    obtain ⟨hP1, hK1, hD1⟩ := hB
    rw [ht] at hP1
    have hK1 := va_K.moved hvm.symm hK1
    obtain ⟨hP, hD⟩ := va_join (wr := []) (w1 := [(h0, .inr (11, fs_h0))]) hP hD [0] [] rfl rfl (by decide) (by decide) hk1 hFc hP1 hD1
    generalize H1 = H at hP hS ⊢
    have hP : va_P (dC, dI) vwCl [(h0, .inr (11, fs_h0))] H := hP
    have hD : va_D A [(h0, .inr (11, fs_h0))] := hD
    have er_2 : r_2 = (-1) := hw
    subst er_2
    refine lv_bipush (v := 32) hx hb dX12_next_16 (by decide) ?_
    refine lv_icmp_ne (tgt := 34) hx hb dX12_next_18 (by decide) (fun c_3 => ?_) (fun c_3 => ?_)
    · refine lv_aload_n hx hb dX12_next_34 rfl (lv_at hl 0 rfl) ?_
      refine lv_aload_n hx hb dX12_next_35 rfl (lv_at hl 0 rfl) ?_
      refine va_get (D := (dC, dI)) (ci := 11) (v := .int 0) (C := RX12) (T := TX12) (N := 69) hx hb hts hinX12 hown hK hP 0 rfl rfl 33 (by decide) (hts (.fieldLink RX12 195 "BondCalendarsModel" "spot" "I") (by decide +kernel)) (fun _ h9 => h9) hf_h0_33 dX12_next_36 ?_
      refine va_put (D := (dC, dI)) (ci := 11) (v := .int 0) (C := RX12) (T := TX12) (N := 69) hx hb hts hinX12 tyX12 tyX12_ok nmX12 hown hK hP hD hS 0 rfl rfl 35 (by decide) (hts (.fieldLink RX12 201 "BondCalendarsModel" "at" "I") (by decide +kernel)) (fun _ h9 => h9) rfl (ty := .int) (by decide +kernel) rfl rfl (by rw [hn_h0]; decide) dX12_next_39 (fun H locs hP hD hS => ?_)
      have hP : va_P (dC, dI) vwCl [(h0, .inr (11, (fs_h0.set 35 (.int 0))))] H := hP
      have hD : va_D A [(h0, .inr (11, (fs_h0.set 35 (.int 0))))] := hD
      refine lv_aload_n hx hb dX12_next_42 rfl (lv_at hl 0 rfl) ?_
      refine lv_aload_n hx hb dX12_next_43 rfl (lv_at hl 0 rfl) ?_
      refine va_get (D := (dC, dI)) (ci := 11) (v := .int 0) (C := RX12) (T := TX12) (N := 69) hx hb hts hinX12 hown hK hP 0 rfl rfl 33 (by decide) (hts (.fieldLink RX12 195 "BondCalendarsModel" "spot" "I") (by decide +kernel)) (fun _ h9 => h9) ((List.getElem?_set_ne (by decide)).trans hf_h0_33) dX12_next_44 ?_
      have hPc := hP.sub (ws' := [(h0, .inr (11, (fs_h0.set 35 (.int 0))))]) [0] rfl
      have hDc := hD.sub (ws' := [(h0, .inr (11, (fs_h0.set 35 (.int 0))))]) [0] (by decide) rfl
      have hKc := hK.sub (tys' := []) [] rfl
      have hFc := va_free (wc := [(h0, .inr (11, (fs_h0.set 35 (.int 0))))]) hD hS hA [0] rfl
      refine va_calli (va_runV (As := [.int 0]) (rest := []) ⟨hx, hb, hml, hown, hts⟩ (k_X12_byteAt l dC dI H.size h0 (fs_h0.set 35 (.int 0)) (List.length_set.trans hn_h0) ((List.getElem?_set_ne (by decide)).trans hf_h0_32)) (cwV 1 hts gX12_next_X12_byteAt rfl rfl rfl (by decide +kernel) ⟨Nat.le_of_ble_eq_true rfl, Nat.le_of_ble_eq_true rfl⟩) ⟨fun a U g mk q => by obtain ⟨q0, q1, qP, qK, qD⟩ := q; exact ⟨q0, q1, qP, va_K.moved (u := U) (U := U.calling g mk a) (Vm.Alike.refl U.vm) qK, qD⟩, va_recv hKc hPc (ci := 11) (q0 := 0) rfl rfl, fun U hU hW => ⟨rfl, by rw [hU], by rw [hU]; exact hPc, va_K.moved hW.alike hKc, hDc.weaken (fun _ _ _ _ => trivial)⟩⟩ rfl rfl hl.1 rfl (lv_room (Nat.le_of_ble_eq_true rfl)) dX12_next_47 ⟨Nat.le_of_ble_eq_true rfl, Nat.le_of_ble_eq_true rfl⟩) hS (fun q _ h => hFc q h) hFc (fun r_4 u t H1 locs ht hvm hw hB hz1 hk1 hS => ?_)
      obtain ⟨hP1, hK1, hD1⟩ := hB
      rw [ht] at hP1
      have hK1 := va_K.moved hvm.symm hK1
      obtain ⟨hP, hD⟩ := va_join (wr := []) (w1 := [(h0, .inr (11, (fs_h0.set 35 (.int 0))))]) hP hD [0] [] rfl rfl (by decide) (by decide) hk1 hFc hP1 hD1
      generalize H1 = H at hP hS ⊢
      have hP : va_P (dC, dI) vwCl [(h0, .inr (11, (fs_h0.set 35 (.int 0))))] H := hP
      have hD : va_D A [(h0, .inr (11, (fs_h0.set 35 (.int 0))))] := hD
      have er_4 : r_4 = (-1) := hw
      subst er_4
      refine lv_istore_n (lv' := [(1, .int (-1)), (0, .ref h0)]) hx hb dX12_next_50 rfl hl (by decide) rfl (fun ls hl => ?_)
      refine lv_iload_n hx hb dX12_next_51 rfl (lv_at hl 0 rfl) ?_
      refine lv_iconst (v := (-1)) hx hb dX12_next_52 (by decide) ?_
      refine lv_icmp_ne (tgt := 64) hx hb dX12_next_53 (by decide) (fun c_5 => ?_) (fun c_5 => ?_)
      · exact absurd (by decide) c_5
      · refine lv_aload_n hx hb dX12_next_56 rfl (lv_at hl 1 rfl) ?_
        refine lv_iconst (v := 1) hx hb dX12_next_57 (by decide) ?_
        refine va_put (D := (dC, dI)) (ci := 11) (v := .int 1) (C := RX12) (T := TX12) (N := 69) hx hb hts hinX12 tyX12 tyX12_ok nmX12 hown hK hP hD hS 0 rfl rfl 34 (by decide) (hts (.fieldLink RX12 204 "BondCalendarsModel" "kind" "I") (by decide +kernel)) (fun _ h9 => h9) rfl (ty := .int) (by decide +kernel) rfl rfl (by rw [(List.length_set.trans hn_h0)]; decide) dX12_next_58 (fun H locs hP hD hS => ?_)
        have hP : va_P (dC, dI) vwCl [(h0, .inr (11, ((fs_h0.set 35 (.int 0)).set 34 (.int 1))))] H := hP
        have hD : va_D A [(h0, .inr (11, ((fs_h0.set 35 (.int 0)).set 34 (.int 1))))] := hD
        refine lv_goto (tgt := 105) hx hb dX12_next_61 (by decide) ?_
        have hpost : True := trivial
        have hP9 := hP.sub (ws' := [(h0, .inr (11, ((fs_h0.set 35 (.int 0)).set 34 (.int 1))))]) [0] rfl
        have hD9 := hD.sub (ws' := [(h0, .inr (11, ((fs_h0.set 35 (.int 0)).set 34 (.int 1))))]) [0] (by decide) rfl
        have hK9 := hK.sub (tys' := []) [] rfl
        exact W.vret hx hb hr (fun t ht hW => ⟨⟨(), rfl, hpost, by rw [ht]; exact hP9, va_K.moved hW.alike hK9, hD9⟩, hS.F ht⟩) hS.2.2 dX12_next_105
    · exact absurd c_3 (by decide)
  · exact absurd (by decide) c_1
set_option maxHeartbeats 4000000 in
set_option maxRecDepth 100000 in
theorem k_X12_wrong (l : Launch) (dC : Nat → ClassId) (dI : Nat → Nat → Nat) (sz : Nat) (h0 : Nat) (fs_h0 : List Value) (hn_h0 : fs_h0.length = 69) (hf_h0_37 : fs_h0[37]? = some (.int 0)) : Met l yX12_wrong wsX12_wrong ({ frames := 0, cells := 0, slots := 0, locals := 0 }) (va_Pc [.ref h0, .int 1] (fun U => U.heap.size = sz ∧ va_P (dC, dI) vwCl [(h0, .inr (11, fs_h0))] U.heap ∧ va_K (dC, dI) vwCl [] U ∧ va_D (fun _ => True) [(h0, .inr (11, fs_h0))])) (va_Qv (fun (_ : Unit) => True) (fun _ t => va_P (dC, dI) vwCl [(h0, .inr (11, ((fs_h0.set 37 (.int 1)).set 34 (.int 0))))] t.heap ∧ va_K (dC, dI) vwCl [] t ∧ va_D (va_A [(h0, .inr (11, fs_h0))] sz) [(h0, .inr (11, ((fs_h0.set 37 (.int 1)).set 34 (.int 0))))]) (va_A [(h0, .inr (11, fs_h0))] sz)) 0 0 (va_A [(h0, .inr (11, fs_h0))] sz) := by
  refine Met.ofW (cc := cX12_wrong) (maxL := 2) (ret := none) (by decide) rfl ?_
  intro p e s m args below meth c s₁ B hml hv
  obtain ⟨rfl, hsz, hP, hK, hD0⟩ := hv
  have hx := B.exec
  have hb := B.bytes
  have hr := B.returns
  have hts := atoms_spec (ws := wsX12_wrong) B.pre
  have hown : s.vm.findClass RX12 = some m.cls := findClass_of_methodNamed B.named
  have hlocks := B.notSynchronized
  have hinX12 : ∀ w ∈ u_ws RX12 TX12 69, w ∈ wsX12_wrong := (fun _ h9 => List.mem_cons_of_mem _ (List.mem_append_right _ h9))
  subst hsz
  have hD := hD0.self (sz := s.heap.size)
  generalize hAe : va_A [(h0, .inr (11, fs_h0))] s.heap.size = A at hD ⊢
  have hA : ∀ q : Nat, s.heap.size ≤ q → A q := fun q h => by rw [← hAe]; exact Or.inr h
  have hS : va_S A s.heap s.heap [] := va_S.rf
  have hP : va_P (dC, dI) vwCl [(h0, .inr (11, fs_h0))] s.heap := hP
  have hl := lv_entry ([.ref h0, .int 1]) (n := 2) (Nat.le_of_ble_eq_true rfl)
  rw [lg_entry_eq]
  generalize (lg_sl ([.ref h0, .int 1]) ++ List.replicate (2 - (lg_sl ([.ref h0, .int 1])).length) Slot.unset).toArray = ls at hl ⊢
  have hl : lv_has ls 2 [(0, .ref h0), (1, .int 1)] := hl
  refine lv_aload_n hx hb dX12_wrong_0 rfl (lv_at hl 0 rfl) ?_
  refine va_get (D := (dC, dI)) (ci := 11) (v := .int 0) (C := RX12) (T := TX12) (N := 69) hx hb hts hinX12 hown hK hP 0 rfl rfl 37 (by decide) (hts (.fieldLink RX12 192 "BondCalendarsModel" "fault" "I") (by decide +kernel)) (fun _ h9 => h9) hf_h0_37 dX12_wrong_1 ?_
  refine lv_if_ne (tgt := 12) hx hb dX12_wrong_4 (by decide) (fun c_1 => ?_) (fun c_1 => ?_)
  · exact absurd (by decide) c_1
  · refine lv_aload_n hx hb dX12_wrong_7 rfl (lv_at hl 0 rfl) ?_
    refine lv_iload_n hx hb dX12_wrong_8 rfl (lv_at hl 1 rfl) ?_
    refine va_put (D := (dC, dI)) (ci := 11) (v := .int 1) (C := RX12) (T := TX12) (N := 69) hx hb hts hinX12 tyX12 tyX12_ok nmX12 hown hK hP hD hS 0 rfl rfl 37 (by decide) (hts (.fieldLink RX12 192 "BondCalendarsModel" "fault" "I") (by decide +kernel)) (fun _ h9 => h9) rfl (ty := .int) (by decide +kernel) rfl rfl (by rw [hn_h0]; decide) dX12_wrong_9 (fun H locs hP hD hS => ?_)
    have hP : va_P (dC, dI) vwCl [(h0, .inr (11, (fs_h0.set 37 (.int 1))))] H := hP
    have hD : va_D A [(h0, .inr (11, (fs_h0.set 37 (.int 1))))] := hD
    refine lv_aload_n hx hb dX12_wrong_12 rfl (lv_at hl 0 rfl) ?_
    refine lv_iconst (v := 0) hx hb dX12_wrong_13 (by decide) ?_
    refine va_put (D := (dC, dI)) (ci := 11) (v := .int 0) (C := RX12) (T := TX12) (N := 69) hx hb hts hinX12 tyX12 tyX12_ok nmX12 hown hK hP hD hS 0 rfl rfl 34 (by decide) (hts (.fieldLink RX12 204 "BondCalendarsModel" "kind" "I") (by decide +kernel)) (fun _ h9 => h9) rfl (ty := .int) (by decide +kernel) rfl rfl (by rw [(List.length_set.trans hn_h0)]; decide) dX12_wrong_14 (fun H locs hP hD hS => ?_)
    have hP : va_P (dC, dI) vwCl [(h0, .inr (11, ((fs_h0.set 37 (.int 1)).set 34 (.int 0))))] H := hP
    have hD : va_D A [(h0, .inr (11, ((fs_h0.set 37 (.int 1)).set 34 (.int 0))))] := hD
    have hpost : True := trivial
    have hP9 := hP.sub (ws' := [(h0, .inr (11, ((fs_h0.set 37 (.int 1)).set 34 (.int 0))))]) [0] rfl
    have hD9 := hD.sub (ws' := [(h0, .inr (11, ((fs_h0.set 37 (.int 1)).set 34 (.int 0))))]) [0] (by decide) rfl
    have hK9 := hK.sub (tys' := []) [] rfl
    exact W.vret hx hb hr (fun t ht hW => ⟨⟨(), rfl, hpost, by rw [ht]; exact hP9, va_K.moved hW.alike hK9, hD9⟩, hS.F ht⟩) hS.2.2 dX12_wrong_17
set_option maxHeartbeats 4000000 in
set_option maxRecDepth 100000 in
theorem k_X12_wrong2 (l : Launch) (dC : Nat → ClassId) (dI : Nat → Nat → Nat) (sz : Nat) (h0 : Nat) (fs_h0 : List Value) (hn_h0 : fs_h0.length = 69) (hf_h0_37 : fs_h0[37]? = some (.int 1)) : Met l yX12_wrong wsX12_wrong ({ frames := 0, cells := 0, slots := 0, locals := 0 }) (va_Pc [.ref h0, .int 1] (fun U => U.heap.size = sz ∧ va_P (dC, dI) vwCl [(h0, .inr (11, fs_h0))] U.heap ∧ va_K (dC, dI) vwCl [] U ∧ va_D (fun _ => True) [(h0, .inr (11, fs_h0))])) (va_Qv (fun (_ : Unit) => True) (fun _ t => va_P (dC, dI) vwCl [(h0, .inr (11, (fs_h0.set 34 (.int 0))))] t.heap ∧ va_K (dC, dI) vwCl [] t ∧ va_D (va_A [(h0, .inr (11, fs_h0))] sz) [(h0, .inr (11, (fs_h0.set 34 (.int 0))))]) (va_A [(h0, .inr (11, fs_h0))] sz)) 0 0 (va_A [(h0, .inr (11, fs_h0))] sz) := by
  refine Met.ofW (cc := cX12_wrong) (maxL := 2) (ret := none) (by decide) rfl ?_
  intro p e s m args below meth c s₁ B hml hv
  obtain ⟨rfl, hsz, hP, hK, hD0⟩ := hv
  have hx := B.exec
  have hb := B.bytes
  have hr := B.returns
  have hts := atoms_spec (ws := wsX12_wrong) B.pre
  have hown : s.vm.findClass RX12 = some m.cls := findClass_of_methodNamed B.named
  have hlocks := B.notSynchronized
  have hinX12 : ∀ w ∈ u_ws RX12 TX12 69, w ∈ wsX12_wrong := (fun _ h9 => List.mem_cons_of_mem _ (List.mem_append_right _ h9))
  subst hsz
  have hD := hD0.self (sz := s.heap.size)
  generalize hAe : va_A [(h0, .inr (11, fs_h0))] s.heap.size = A at hD ⊢
  have hA : ∀ q : Nat, s.heap.size ≤ q → A q := fun q h => by rw [← hAe]; exact Or.inr h
  have hS : va_S A s.heap s.heap [] := va_S.rf
  have hP : va_P (dC, dI) vwCl [(h0, .inr (11, fs_h0))] s.heap := hP
  have hl := lv_entry ([.ref h0, .int 1]) (n := 2) (Nat.le_of_ble_eq_true rfl)
  rw [lg_entry_eq]
  generalize (lg_sl ([.ref h0, .int 1]) ++ List.replicate (2 - (lg_sl ([.ref h0, .int 1])).length) Slot.unset).toArray = ls at hl ⊢
  have hl : lv_has ls 2 [(0, .ref h0), (1, .int 1)] := hl
  refine lv_aload_n hx hb dX12_wrong_0 rfl (lv_at hl 0 rfl) ?_
  refine va_get (D := (dC, dI)) (ci := 11) (v := .int 1) (C := RX12) (T := TX12) (N := 69) hx hb hts hinX12 hown hK hP 0 rfl rfl 37 (by decide) (hts (.fieldLink RX12 192 "BondCalendarsModel" "fault" "I") (by decide +kernel)) (fun _ h9 => h9) hf_h0_37 dX12_wrong_1 ?_
  refine lv_if_ne (tgt := 12) hx hb dX12_wrong_4 (by decide) (fun c_1 => ?_) (fun c_1 => ?_)
  · refine lv_aload_n hx hb dX12_wrong_12 rfl (lv_at hl 0 rfl) ?_
    refine lv_iconst (v := 0) hx hb dX12_wrong_13 (by decide) ?_
    refine va_put (D := (dC, dI)) (ci := 11) (v := .int 0) (C := RX12) (T := TX12) (N := 69) hx hb hts hinX12 tyX12 tyX12_ok nmX12 hown hK hP hD hS 0 rfl rfl 34 (by decide) (hts (.fieldLink RX12 204 "BondCalendarsModel" "kind" "I") (by decide +kernel)) (fun _ h9 => h9) rfl (ty := .int) (by decide +kernel) rfl rfl (by rw [hn_h0]; decide) dX12_wrong_14 (fun H locs hP hD hS => ?_)
    have hP : va_P (dC, dI) vwCl [(h0, .inr (11, (fs_h0.set 34 (.int 0))))] H := hP
    have hD : va_D A [(h0, .inr (11, (fs_h0.set 34 (.int 0))))] := hD
    have hpost : True := trivial
    have hP9 := hP.sub (ws' := [(h0, .inr (11, (fs_h0.set 34 (.int 0))))]) [0] rfl
    have hD9 := hD.sub (ws' := [(h0, .inr (11, (fs_h0.set 34 (.int 0))))]) [0] (by decide) rfl
    have hK9 := hK.sub (tys' := []) [] rfl
    exact W.vret hx hb hr (fun t ht hW => ⟨⟨(), rfl, hpost, by rw [ht]; exact hP9, va_K.moved hW.alike hK9, hD9⟩, hS.F ht⟩) hS.2.2 dX12_wrong_17
  · exact absurd c_1 (by decide)
set_option maxHeartbeats 4000000 in
set_option maxRecDepth 100000 in
theorem k_X12_readLine (l : Launch) (dC : Nat → ClassId) (dI : Nat → Nat → Nat) (sz : Nat) (h0 : Nat) (fs_h0 : List Value) (adK : Nat → Nat) (adV : Nat → Nat) (fo : Nat) (hn_h0 : fs_h0.length = 69) (hf_h0_34 : fs_h0[34]? = some (.int 1)) (hf_h0_37 : fs_h0[37]? = some (.int 0)) : Met l yX12_readLine wsX12_readLine ({ frames := 5, cells := 0, slots := 0, locals := 109 }) (va_Pc [.ref h0] (fun U => U.heap.size = sz ∧ va_P (dC, dI) vwCl [(h0, .inr (11, fs_h0))] U.heap ∧ va_K (dC, dI) vwCl [] U ∧ va_D (fun _ => True) [(h0, .inr (11, fs_h0))] ∧ vk_R RX12 272 "desk" (adK 0) U ∧ vk_R RX12 277 "holiday" (adK 1) U ∧ vk_R RX12 282 "bond" (adK 2) U ∧ vk_R RX12 287 "quote" (adK 3) U ∧ sk_F adK adV fo (va_A [(h0, .inr (11, fs_h0))] sz) U U.heap)) (va_Qv (fun (_ : Unit) => True) (fun _ t => va_P (dC, dI) vwCl [(h0, .inr (11, ((fs_h0.set 37 (.int 1)).set 34 (.int 0))))] t.heap ∧ va_K (dC, dI) vwCl [] t ∧ va_D (va_A [(h0, .inr (11, fs_h0))] sz) [(h0, .inr (11, ((fs_h0.set 37 (.int 1)).set 34 (.int 0))))]) (va_A [(h0, .inr (11, fs_h0))] sz)) 0 0 (va_A [(h0, .inr (11, fs_h0))] sz) := by
  refine Met.ofW (cc := cX12_readLine) (maxL := 1) (ret := none) (by decide) rfl ?_
  intro p e s m args below meth c s₁ B hml hv
  obtain ⟨rfl, hsz, hP, hK, hD0, hN0, hN1, hN2, hN3, hT⟩ := hv
  have hx := B.exec
  have hb := B.bytes
  have hr := B.returns
  have hts := atoms_spec (ws := wsX12_readLine) B.pre
  have hown : s.vm.findClass RX12 = some m.cls := findClass_of_methodNamed B.named
  have hlocks := B.notSynchronized
  subst hsz
  have hD := hD0.self (sz := s.heap.size)
  generalize hAe : va_A [(h0, .inr (11, fs_h0))] s.heap.size = A at hD hT ⊢
  have hA : ∀ q : Nat, s.heap.size ≤ q → A q := fun q h => by rw [← hAe]; exact Or.inr h
  have hS : va_S A s.heap s.heap [] := va_S.rf
  have hP : va_P (dC, dI) vwCl [(h0, .inr (11, fs_h0))] s.heap := hP
  have hl := lv_entry ([.ref h0]) (n := 1) (Nat.le_of_ble_eq_true rfl)
  rw [lg_entry_eq]
  generalize (lg_sl ([.ref h0]) ++ List.replicate (1 - (lg_sl ([.ref h0])).length) Slot.unset).toArray = ls at hl ⊢
  have hl : lv_has ls 1 [(0, .ref h0)] := hl
  refine lv_aload_n hx hb dX12_readLine_0 rfl (lv_at hl 0 rfl) ?_
  refine va_ldcSW (tx := "desk") (q := (adK 0)) hx hb hown hN0 dX12_readLine_1 ?_
  have hPc := hP.sub (ws' := [(h0, .inr (11, fs_h0))]) [0] rfl
  have hDc := hD.sub (ws' := [(h0, .inr (11, fs_h0))]) [0] (by decide) rfl
  have hKc := hK.sub (tys' := []) [] rfl
  have hFc := va_free (wc := [(h0, .inr (11, fs_h0))]) hD hS hA [0] rfl
  refine va_calli (va_runV (As := [.ref (adK 0)]) (rest := []) ⟨hx, hb, hml, hown, hts⟩ (k_X12_isWord l dC dI s.heap.size h0 fs_h0 adK adV fo 0 1 hn_h0 hf_h0_34 (by decide) (by decide)) (cwV 1 hts gX12_readLine_X12_isWord rfl rfl rfl (by decide +kernel) ⟨Nat.le_of_ble_eq_true rfl, Nat.le_of_ble_eq_true rfl⟩) ⟨fun a U g mk q => by obtain ⟨q0, q1, qP, qK, qD, qT⟩ := q; exact ⟨q0, q1, qP, va_K.moved (u := U) (U := U.calling g mk a) (Vm.Alike.refl U.vm) qK, qD, sk_F.moved (u := U) (U := U.calling g mk a) (Vm.Alike.refl U.vm) qT⟩, va_recv hKc hPc (ci := 11) (q0 := 0) rfl rfl, fun U hU hW => ⟨rfl, by rw [hU], by rw [hU]; exact hPc, va_K.moved hW.alike hKc, hDc.weaken (fun _ _ _ _ => trivial), by rw [hU]; exact sk_F.moved hW.alike ((hT.kept hS.2.1).narrow hFc)⟩⟩ rfl rfl hl.1 rfl (lv_room (Nat.le_of_ble_eq_true rfl)) dX12_readLine_4 ⟨Nat.le_of_ble_eq_true rfl, Nat.le_of_ble_eq_true rfl⟩) hS (fun q _ h => hFc q h) hFc (fun r_1 u t H1 locs ht hvm hw hB hz1 hk1 hS => ?_)
  obtain ⟨hP1, hK1, hD1⟩ := hB
  rw [ht] at hP1
  have hK1 := va_K.moved hvm.symm hK1
  obtain ⟨hP, hD⟩ := va_join (wr := []) (w1 := [(h0, .inr (11, fs_h0))]) hP hD [0] [] rfl rfl (by decide) (by decide) hk1 hFc hP1 hD1
  generalize H1 = H at hP hS ⊢
  have hP : va_P (dC, dI) vwCl [(h0, .inr (11, fs_h0))] H := hP
  have hD : va_D A [(h0, .inr (11, fs_h0))] := hD
  have er_1 : r_1 = 0 := hw
  subst er_1
  refine lv_if_eq (tgt := 17) hx hb dX12_readLine_7 (by decide) (fun c_2 => ?_) (fun c_2 => ?_)
  · refine lv_aload_n hx hb dX12_readLine_17 rfl (lv_at hl 0 rfl) ?_
    refine va_ldcSW (tx := "holiday") (q := (adK 1)) hx hb hown hN1 dX12_readLine_18 ?_
    have hPc := hP.sub (ws' := [(h0, .inr (11, fs_h0))]) [0] rfl
    have hDc := hD.sub (ws' := [(h0, .inr (11, fs_h0))]) [0] (by decide) rfl
    have hKc := hK.sub (tys' := []) [] rfl
    have hFc := va_free (wc := [(h0, .inr (11, fs_h0))]) hD hS hA [0] rfl
    refine va_calli (va_runV (As := [.ref (adK 1)]) (rest := []) ⟨hx, hb, hml, hown, hts⟩ (k_X12_isWord l dC dI H.size h0 fs_h0 adK adV fo 1 1 hn_h0 hf_h0_34 (by decide) (by decide)) (cwV 1 hts gX12_readLine_X12_isWord rfl rfl rfl (by decide +kernel) ⟨Nat.le_of_ble_eq_true rfl, Nat.le_of_ble_eq_true rfl⟩) ⟨fun a U g mk q => by obtain ⟨q0, q1, qP, qK, qD, qT⟩ := q; exact ⟨q0, q1, qP, va_K.moved (u := U) (U := U.calling g mk a) (Vm.Alike.refl U.vm) qK, qD, sk_F.moved (u := U) (U := U.calling g mk a) (Vm.Alike.refl U.vm) qT⟩, va_recv hKc hPc (ci := 11) (q0 := 0) rfl rfl, fun U hU hW => ⟨rfl, by rw [hU], by rw [hU]; exact hPc, va_K.moved hW.alike hKc, hDc.weaken (fun _ _ _ _ => trivial), by rw [hU]; exact sk_F.moved hW.alike ((hT.kept hS.2.1).narrow hFc)⟩⟩ rfl rfl hl.1 rfl (lv_room (Nat.le_of_ble_eq_true rfl)) dX12_readLine_21 ⟨Nat.le_of_ble_eq_true rfl, Nat.le_of_ble_eq_true rfl⟩) hS (fun q _ h => hFc q h) hFc (fun r_3 u t H1 locs ht hvm hw hB hz1 hk1 hS => ?_)
    obtain ⟨hP1, hK1, hD1⟩ := hB
    rw [ht] at hP1
    have hK1 := va_K.moved hvm.symm hK1
    obtain ⟨hP, hD⟩ := va_join (wr := []) (w1 := [(h0, .inr (11, fs_h0))]) hP hD [0] [] rfl rfl (by decide) (by decide) hk1 hFc hP1 hD1
    generalize H1 = H at hP hS ⊢
    have hP : va_P (dC, dI) vwCl [(h0, .inr (11, fs_h0))] H := hP
    have hD : va_D A [(h0, .inr (11, fs_h0))] := hD
    have er_3 : r_3 = 0 := hw
    subst er_3
    refine lv_if_eq (tgt := 34) hx hb dX12_readLine_24 (by decide) (fun c_4 => ?_) (fun c_4 => ?_)
    · refine lv_aload_n hx hb dX12_readLine_34 rfl (lv_at hl 0 rfl) ?_
      refine va_ldcSW (tx := "bond") (q := (adK 2)) hx hb hown hN2 dX12_readLine_35 ?_
      have hPc := hP.sub (ws' := [(h0, .inr (11, fs_h0))]) [0] rfl
      have hDc := hD.sub (ws' := [(h0, .inr (11, fs_h0))]) [0] (by decide) rfl
      have hKc := hK.sub (tys' := []) [] rfl
      have hFc := va_free (wc := [(h0, .inr (11, fs_h0))]) hD hS hA [0] rfl
      refine va_calli (va_runV (As := [.ref (adK 2)]) (rest := []) ⟨hx, hb, hml, hown, hts⟩ (k_X12_isWord l dC dI H.size h0 fs_h0 adK adV fo 2 1 hn_h0 hf_h0_34 (by decide) (by decide)) (cwV 1 hts gX12_readLine_X12_isWord rfl rfl rfl (by decide +kernel) ⟨Nat.le_of_ble_eq_true rfl, Nat.le_of_ble_eq_true rfl⟩) ⟨fun a U g mk q => by obtain ⟨q0, q1, qP, qK, qD, qT⟩ := q; exact ⟨q0, q1, qP, va_K.moved (u := U) (U := U.calling g mk a) (Vm.Alike.refl U.vm) qK, qD, sk_F.moved (u := U) (U := U.calling g mk a) (Vm.Alike.refl U.vm) qT⟩, va_recv hKc hPc (ci := 11) (q0 := 0) rfl rfl, fun U hU hW => ⟨rfl, by rw [hU], by rw [hU]; exact hPc, va_K.moved hW.alike hKc, hDc.weaken (fun _ _ _ _ => trivial), by rw [hU]; exact sk_F.moved hW.alike ((hT.kept hS.2.1).narrow hFc)⟩⟩ rfl rfl hl.1 rfl (lv_room (Nat.le_of_ble_eq_true rfl)) dX12_readLine_38 ⟨Nat.le_of_ble_eq_true rfl, Nat.le_of_ble_eq_true rfl⟩) hS (fun q _ h => hFc q h) hFc (fun r_5 u t H1 locs ht hvm hw hB hz1 hk1 hS => ?_)
      obtain ⟨hP1, hK1, hD1⟩ := hB
      rw [ht] at hP1
      have hK1 := va_K.moved hvm.symm hK1
      obtain ⟨hP, hD⟩ := va_join (wr := []) (w1 := [(h0, .inr (11, fs_h0))]) hP hD [0] [] rfl rfl (by decide) (by decide) hk1 hFc hP1 hD1
      generalize H1 = H at hP hS ⊢
      have hP : va_P (dC, dI) vwCl [(h0, .inr (11, fs_h0))] H := hP
      have hD : va_D A [(h0, .inr (11, fs_h0))] := hD
      have er_5 : r_5 = 0 := hw
      subst er_5
      refine lv_if_eq (tgt := 51) hx hb dX12_readLine_41 (by decide) (fun c_6 => ?_) (fun c_6 => ?_)
      · refine lv_aload_n hx hb dX12_readLine_51 rfl (lv_at hl 0 rfl) ?_
        refine va_ldcSW (tx := "quote") (q := (adK 3)) hx hb hown hN3 dX12_readLine_52 ?_
        have hPc := hP.sub (ws' := [(h0, .inr (11, fs_h0))]) [0] rfl
        have hDc := hD.sub (ws' := [(h0, .inr (11, fs_h0))]) [0] (by decide) rfl
        have hKc := hK.sub (tys' := []) [] rfl
        have hFc := va_free (wc := [(h0, .inr (11, fs_h0))]) hD hS hA [0] rfl
        refine va_calli (va_runV (As := [.ref (adK 3)]) (rest := []) ⟨hx, hb, hml, hown, hts⟩ (k_X12_isWord l dC dI H.size h0 fs_h0 adK adV fo 3 1 hn_h0 hf_h0_34 (by decide) (by decide)) (cwV 1 hts gX12_readLine_X12_isWord rfl rfl rfl (by decide +kernel) ⟨Nat.le_of_ble_eq_true rfl, Nat.le_of_ble_eq_true rfl⟩) ⟨fun a U g mk q => by obtain ⟨q0, q1, qP, qK, qD, qT⟩ := q; exact ⟨q0, q1, qP, va_K.moved (u := U) (U := U.calling g mk a) (Vm.Alike.refl U.vm) qK, qD, sk_F.moved (u := U) (U := U.calling g mk a) (Vm.Alike.refl U.vm) qT⟩, va_recv hKc hPc (ci := 11) (q0 := 0) rfl rfl, fun U hU hW => ⟨rfl, by rw [hU], by rw [hU]; exact hPc, va_K.moved hW.alike hKc, hDc.weaken (fun _ _ _ _ => trivial), by rw [hU]; exact sk_F.moved hW.alike ((hT.kept hS.2.1).narrow hFc)⟩⟩ rfl rfl hl.1 rfl (lv_room (Nat.le_of_ble_eq_true rfl)) dX12_readLine_55 ⟨Nat.le_of_ble_eq_true rfl, Nat.le_of_ble_eq_true rfl⟩) hS (fun q _ h => hFc q h) hFc (fun r_7 u t H1 locs ht hvm hw hB hz1 hk1 hS => ?_)
        obtain ⟨hP1, hK1, hD1⟩ := hB
        rw [ht] at hP1
        have hK1 := va_K.moved hvm.symm hK1
        obtain ⟨hP, hD⟩ := va_join (wr := []) (w1 := [(h0, .inr (11, fs_h0))]) hP hD [0] [] rfl rfl (by decide) (by decide) hk1 hFc hP1 hD1
        generalize H1 = H at hP hS ⊢
        have hP : va_P (dC, dI) vwCl [(h0, .inr (11, fs_h0))] H := hP
        have hD : va_D A [(h0, .inr (11, fs_h0))] := hD
        have er_7 : r_7 = 0 := hw
        subst er_7
        refine lv_if_eq (tgt := 68) hx hb dX12_readLine_58 (by decide) (fun c_8 => ?_) (fun c_8 => ?_)
        · refine lv_aload_n hx hb dX12_readLine_68 rfl (lv_at hl 0 rfl) ?_
          refine lv_iconst (v := 1) hx hb dX12_readLine_69 (by decide) ?_
          have hPc := hP.sub (ws' := [(h0, .inr (11, fs_h0))]) [0] rfl
          have hDc := hD.sub (ws' := [(h0, .inr (11, fs_h0))]) [0] (by decide) rfl
          have hKc := hK.sub (tys' := []) [] rfl
          have hFc := va_free (wc := [(h0, .inr (11, fs_h0))]) hD hS hA [0] rfl
          refine va_callv (va_runV (As := [.int 1]) (rest := []) ⟨hx, hb, hml, hown, hts⟩ (k_X12_wrong l dC dI H.size h0 fs_h0 hn_h0 hf_h0_37) (cwV 1 hts gX12_readLine_X12_wrong rfl rfl rfl (by decide +kernel) ⟨Nat.le_of_ble_eq_true rfl, Nat.le_of_ble_eq_true rfl⟩) ⟨fun a U g mk q => by obtain ⟨q0, q1, qP, qK, qD⟩ := q; exact ⟨q0, q1, qP, va_K.moved (u := U) (U := U.calling g mk a) (Vm.Alike.refl U.vm) qK, qD⟩, va_recv hKc hPc (ci := 11) (q0 := 0) rfl rfl, fun U hU hW => ⟨rfl, by rw [hU], by rw [hU]; exact hPc, va_K.moved hW.alike hKc, hDc.weaken (fun _ _ _ _ => trivial)⟩⟩ rfl rfl hl.1 rfl (lv_room (Nat.le_of_ble_eq_true rfl)) dX12_readLine_70 ⟨Nat.le_of_ble_eq_true rfl, Nat.le_of_ble_eq_true rfl⟩) hS (fun q _ h => hFc q h) hFc (fun u t H1 locs ht hvm hw hB hz1 hk1 hS => ?_)
          obtain ⟨hP1, hK1, hD1⟩ := hB
          rw [ht] at hP1
          have hK1 := va_K.moved hvm.symm hK1
          obtain ⟨hP, hD⟩ := va_join (wr := []) (w1 := [(h0, .inr (11, ((fs_h0.set 37 (.int 1)).set 34 (.int 0))))]) hP hD [0] [] rfl rfl (by decide) (by decide) hk1 hFc hP1 hD1
          generalize H1 = H at hP hS ⊢
          have hP : va_P (dC, dI) vwCl [(h0, .inr (11, ((fs_h0.set 37 (.int 1)).set 34 (.int 0))))] H := hP
          have hD : va_D A [(h0, .inr (11, ((fs_h0.set 37 (.int 1)).set 34 (.int 0))))] := hD
          have hpost : True := trivial
          have hP9 := hP.sub (ws' := [(h0, .inr (11, ((fs_h0.set 37 (.int 1)).set 34 (.int 0))))]) [0] rfl
          have hD9 := hD.sub (ws' := [(h0, .inr (11, ((fs_h0.set 37 (.int 1)).set 34 (.int 0))))]) [0] (by decide) rfl
          have hK9 := hK.sub (tys' := []) [] rfl
          exact W.vret hx hb hr (fun t ht hW => ⟨⟨(), rfl, hpost, by rw [ht]; exact hP9, va_K.moved hW.alike hK9, hD9⟩, hS.F ht⟩) hS.2.2 dX12_readLine_73
        · exact absurd (by decide) c_8
      · exact absurd (by decide) c_6
    · exact absurd (by decide) c_4
  · exact absurd (by decide) c_2
set_option maxHeartbeats 4000000 in
set_option maxRecDepth 100000 in
theorem k_X12_readAll (l : Launch) (dC : Nat → ClassId) (dI : Nat → Nat → Nat) (sz : Nat) (h0 : Nat) (fs_h0 : List Value) (adK : Nat → Nat) (adV : Nat → Nat) (fo : Nat) (hn_h0 : fs_h0.length = 69) (hf_h0_32 : fs_h0[32]? = some (.int 0)) (hf_h0_33 : fs_h0[33]? = some (.int 0)) (hf_h0_34 : fs_h0[34]? = some (.int 0)) (hf_h0_37 : fs_h0[37]? = some (.int 0)) : Met l yX12_readAll wsX12_readAll ({ frames := 6, cells := 0, slots := 0, locals := 129 }) (va_Pc [.ref h0] (fun U => U.heap.size = sz ∧ va_P (dC, dI) vwCl [(h0, .inr (11, fs_h0))] U.heap ∧ va_K (dC, dI) vwCl [] U ∧ va_D (fun _ => True) [(h0, .inr (11, fs_h0))] ∧ vk_R RX12 272 "desk" (adK 0) U ∧ vk_R RX12 277 "holiday" (adK 1) U ∧ vk_R RX12 282 "bond" (adK 2) U ∧ vk_R RX12 287 "quote" (adK 3) U ∧ sk_F adK adV fo (va_A [(h0, .inr (11, fs_h0))] sz) U U.heap)) (va_Qv (fun (_ : Unit) => True) (fun _ t => va_P (dC, dI) vwCl [(h0, .inr (11, (((((((((fs_h0.set 29 (.int 0)).set 23 (.int 0)).set 24 (.int 0)).set 25 (.int 0)).set 35 (.int 0)).set 34 (.int 1)).set 37 (.int 1)).set 34 (.int 0)).set 34 (.int 0))))] t.heap ∧ va_K (dC, dI) vwCl [] t ∧ va_D (va_A [(h0, .inr (11, fs_h0))] sz) [(h0, .inr (11, (((((((((fs_h0.set 29 (.int 0)).set 23 (.int 0)).set 24 (.int 0)).set 25 (.int 0)).set 35 (.int 0)).set 34 (.int 1)).set 37 (.int 1)).set 34 (.int 0)).set 34 (.int 0))))]) (va_A [(h0, .inr (11, fs_h0))] sz)) 0 0 (va_A [(h0, .inr (11, fs_h0))] sz) := by
  refine Met.ofW (cc := cX12_readAll) (maxL := 1) (ret := none) (by decide) rfl ?_
  intro p e s m args below meth c s₁ B hml hv
  obtain ⟨rfl, hsz, hP, hK, hD0, hN0, hN1, hN2, hN3, hT⟩ := hv
  have hx := B.exec
  have hb := B.bytes
  have hr := B.returns
  have hts := atoms_spec (ws := wsX12_readAll) B.pre
  have hown : s.vm.findClass RX12 = some m.cls := findClass_of_methodNamed B.named
  have hlocks := B.notSynchronized
  have hinX12 : ∀ w ∈ u_ws RX12 TX12 69, w ∈ wsX12_readAll := (fun _ h9 => List.mem_cons_of_mem _ (List.mem_append_right _ h9))
  subst hsz
  have hD := hD0.self (sz := s.heap.size)
  generalize hAe : va_A [(h0, .inr (11, fs_h0))] s.heap.size = A at hD hT ⊢
  have hA : ∀ q : Nat, s.heap.size ≤ q → A q := fun q h => by rw [← hAe]; exact Or.inr h
  have hS : va_S A s.heap s.heap [] := va_S.rf
  have hP : va_P (dC, dI) vwCl [(h0, .inr (11, fs_h0))] s.heap := hP
  have hl := lv_entry ([.ref h0]) (n := 1) (Nat.le_of_ble_eq_true rfl)
  rw [lg_entry_eq]
  generalize (lg_sl ([.ref h0]) ++ List.replicate (1 - (lg_sl ([.ref h0])).length) Slot.unset).toArray = ls at hl ⊢
  have hl : lv_has ls 1 [(0, .ref h0)] := hl
  refine lv_aload_n hx hb dX12_readAll_0 rfl (lv_at hl 0 rfl) ?_
  refine lv_iconst (v := 0) hx hb dX12_readAll_1 (by decide) ?_
  refine va_put (D := (dC, dI)) (ci := 11) (v := .int 0) (C := RX12) (T := TX12) (N := 69) hx hb hts hinX12 tyX12 tyX12_ok nmX12 hown hK hP hD hS 0 rfl rfl 29 (by decide) (hts (.fieldLink RX12 256 "BondCalendarsModel" "isBegun" "Z") (by decide +kernel)) (fun _ h9 => h9) rfl (ty := .boolean) (by decide +kernel) (by decide +kernel) (by decide +kernel) (by rw [hn_h0]; decide) dX12_readAll_2 (fun H locs hP hD hS => ?_)
  have hP : va_P (dC, dI) vwCl [(h0, .inr (11, (fs_h0.set 29 (.int 0))))] H := hP
  have hD : va_D A [(h0, .inr (11, (fs_h0.set 29 (.int 0))))] := hD
  refine lv_aload_n hx hb dX12_readAll_5 rfl (lv_at hl 0 rfl) ?_
  refine lv_iconst (v := 0) hx hb dX12_readAll_6 (by decide) ?_
  refine va_put (D := (dC, dI)) (ci := 11) (v := .int 0) (C := RX12) (T := TX12) (N := 69) hx hb hts hinX12 tyX12 tyX12_ok nmX12 hown hK hP hD hS 0 rfl rfl 23 (by decide) (hts (.fieldLink RX12 260 "BondCalendarsModel" "readBonds" "I") (by decide +kernel)) (fun _ h9 => h9) rfl (ty := .int) (by decide +kernel) rfl rfl (by rw [(List.length_set.trans hn_h0)]; decide) dX12_readAll_7 (fun H locs hP hD hS => ?_)
  have hP : va_P (dC, dI) vwCl [(h0, .inr (11, ((fs_h0.set 29 (.int 0)).set 23 (.int 0))))] H := hP
  have hD : va_D A [(h0, .inr (11, ((fs_h0.set 29 (.int 0)).set 23 (.int 0))))] := hD
  refine lv_aload_n hx hb dX12_readAll_10 rfl (lv_at hl 0 rfl) ?_
  refine lv_iconst (v := 0) hx hb dX12_readAll_11 (by decide) ?_
  refine va_put (D := (dC, dI)) (ci := 11) (v := .int 0) (C := RX12) (T := TX12) (N := 69) hx hb hts hinX12 tyX12 tyX12_ok nmX12 hown hK hP hD hS 0 rfl rfl 24 (by decide) (hts (.fieldLink RX12 263 "BondCalendarsModel" "readQuotes" "I") (by decide +kernel)) (fun _ h9 => h9) rfl (ty := .int) (by decide +kernel) rfl rfl (by rw [(List.length_set.trans (List.length_set.trans hn_h0))]; decide) dX12_readAll_12 (fun H locs hP hD hS => ?_)
  have hP : va_P (dC, dI) vwCl [(h0, .inr (11, (((fs_h0.set 29 (.int 0)).set 23 (.int 0)).set 24 (.int 0))))] H := hP
  have hD : va_D A [(h0, .inr (11, (((fs_h0.set 29 (.int 0)).set 23 (.int 0)).set 24 (.int 0))))] := hD
  refine lv_aload_n hx hb dX12_readAll_15 rfl (lv_at hl 0 rfl) ?_
  refine lv_iconst (v := 0) hx hb dX12_readAll_16 (by decide) ?_
  refine va_put (D := (dC, dI)) (ci := 11) (v := .int 0) (C := RX12) (T := TX12) (N := 69) hx hb hts hinX12 tyX12 tyX12_ok nmX12 hown hK hP hD hS 0 rfl rfl 25 (by decide) (hts (.fieldLink RX12 266 "BondCalendarsModel" "readFrees" "I") (by decide +kernel)) (fun _ h9 => h9) rfl (ty := .int) (by decide +kernel) rfl rfl (by rw [(List.length_set.trans (List.length_set.trans (List.length_set.trans hn_h0)))]; decide) dX12_readAll_17 (fun H locs hP hD hS => ?_)
  have hP : va_P (dC, dI) vwCl [(h0, .inr (11, ((((fs_h0.set 29 (.int 0)).set 23 (.int 0)).set 24 (.int 0)).set 25 (.int 0))))] H := hP
  have hD : va_D A [(h0, .inr (11, ((((fs_h0.set 29 (.int 0)).set 23 (.int 0)).set 24 (.int 0)).set 25 (.int 0))))] := hD
  refine lv_aload_n hx hb dX12_readAll_20 rfl (lv_at hl 0 rfl) ?_
  have hPc := hP.sub (ws' := [(h0, .inr (11, ((((fs_h0.set 29 (.int 0)).set 23 (.int 0)).set 24 (.int 0)).set 25 (.int 0))))]) [0] rfl
  have hDc := hD.sub (ws' := [(h0, .inr (11, ((((fs_h0.set 29 (.int 0)).set 23 (.int 0)).set 24 (.int 0)).set 25 (.int 0))))]) [0] (by decide) rfl
  have hKc := hK.sub (tys' := []) [] rfl
  have hFc := va_free (wc := [(h0, .inr (11, ((((fs_h0.set 29 (.int 0)).set 23 (.int 0)).set 24 (.int 0)).set 25 (.int 0))))]) hD hS hA [0] rfl
  refine va_callv (va_runV (As := []) (rest := []) ⟨hx, hb, hml, hown, hts⟩ (k_X12_next l dC dI H.size h0 ((((fs_h0.set 29 (.int 0)).set 23 (.int 0)).set 24 (.int 0)).set 25 (.int 0)) (List.length_set.trans (List.length_set.trans (List.length_set.trans (List.length_set.trans hn_h0)))) ((List.getElem?_set_ne (by decide)).trans ((List.getElem?_set_ne (by decide)).trans ((List.getElem?_set_ne (by decide)).trans ((List.getElem?_set_ne (by decide)).trans hf_h0_32)))) ((List.getElem?_set_ne (by decide)).trans ((List.getElem?_set_ne (by decide)).trans ((List.getElem?_set_ne (by decide)).trans ((List.getElem?_set_ne (by decide)).trans hf_h0_33)))) ((List.getElem?_set_ne (by decide)).trans ((List.getElem?_set_ne (by decide)).trans ((List.getElem?_set_ne (by decide)).trans ((List.getElem?_set_ne (by decide)).trans hf_h0_37))))) (cwV 0 hts gX12_readAll_X12_next rfl rfl rfl (by decide +kernel) ⟨Nat.le_of_ble_eq_true rfl, Nat.le_of_ble_eq_true rfl⟩) ⟨fun a U g mk q => by obtain ⟨q0, q1, qP, qK, qD⟩ := q; exact ⟨q0, q1, qP, va_K.moved (u := U) (U := U.calling g mk a) (Vm.Alike.refl U.vm) qK, qD⟩, va_recv hKc hPc (ci := 11) (q0 := 0) rfl rfl, fun U hU hW => ⟨rfl, by rw [hU], by rw [hU]; exact hPc, va_K.moved hW.alike hKc, hDc.weaken (fun _ _ _ _ => trivial)⟩⟩ rfl rfl hl.1 rfl (lv_room (Nat.le_of_ble_eq_true rfl)) dX12_readAll_21 ⟨Nat.le_of_ble_eq_true rfl, Nat.le_of_ble_eq_true rfl⟩) hS (fun q _ h => hFc q h) hFc (fun u t H1 locs ht hvm hw hB hz1 hk1 hS => ?_)
  obtain ⟨hP1, hK1, hD1⟩ := hB
  rw [ht] at hP1
  have hK1 := va_K.moved hvm.symm hK1
  obtain ⟨hP, hD⟩ := va_join (wr := []) (w1 := [(h0, .inr (11, ((((((fs_h0.set 29 (.int 0)).set 23 (.int 0)).set 24 (.int 0)).set 25 (.int 0)).set 35 (.int 0)).set 34 (.int 1))))]) hP hD [0] [] rfl rfl (by decide) (by decide) hk1 hFc hP1 hD1
  generalize H1 = H at hP hS ⊢
  have hP : va_P (dC, dI) vwCl [(h0, .inr (11, ((((((fs_h0.set 29 (.int 0)).set 23 (.int 0)).set 24 (.int 0)).set 25 (.int 0)).set 35 (.int 0)).set 34 (.int 1))))] H := hP
  have hD : va_D A [(h0, .inr (11, ((((((fs_h0.set 29 (.int 0)).set 23 (.int 0)).set 24 (.int 0)).set 25 (.int 0)).set 35 (.int 0)).set 34 (.int 1))))] := hD
  refine lv_aload_n hx hb dX12_readAll_24 rfl (lv_at hl 0 rfl) ?_
  have hPc := hP.sub (ws' := [(h0, .inr (11, ((((((fs_h0.set 29 (.int 0)).set 23 (.int 0)).set 24 (.int 0)).set 25 (.int 0)).set 35 (.int 0)).set 34 (.int 1))))]) [0] rfl
  have hDc := hD.sub (ws' := [(h0, .inr (11, ((((((fs_h0.set 29 (.int 0)).set 23 (.int 0)).set 24 (.int 0)).set 25 (.int 0)).set 35 (.int 0)).set 34 (.int 1))))]) [0] (by decide) rfl
  have hKc := hK.sub (tys' := []) [] rfl
  have hFc := va_free (wc := [(h0, .inr (11, ((((((fs_h0.set 29 (.int 0)).set 23 (.int 0)).set 24 (.int 0)).set 25 (.int 0)).set 35 (.int 0)).set 34 (.int 1))))]) hD hS hA [0] rfl
  refine va_callv (va_runV (As := []) (rest := []) ⟨hx, hb, hml, hown, hts⟩ (k_X12_readLine l dC dI H.size h0 ((((((fs_h0.set 29 (.int 0)).set 23 (.int 0)).set 24 (.int 0)).set 25 (.int 0)).set 35 (.int 0)).set 34 (.int 1)) adK adV fo (List.length_set.trans (List.length_set.trans (List.length_set.trans (List.length_set.trans (List.length_set.trans (List.length_set.trans hn_h0)))))) (List.getElem?_set_self (by rw [(List.length_set.trans (List.length_set.trans (List.length_set.trans (List.length_set.trans (List.length_set.trans hn_h0)))))]; decide)) ((List.getElem?_set_ne (by decide)).trans ((List.getElem?_set_ne (by decide)).trans ((List.getElem?_set_ne (by decide)).trans ((List.getElem?_set_ne (by decide)).trans ((List.getElem?_set_ne (by decide)).trans ((List.getElem?_set_ne (by decide)).trans hf_h0_37))))))) (cwV 0 hts gX12_readAll_X12_readLine rfl rfl rfl (by decide +kernel) ⟨Nat.le_of_ble_eq_true rfl, Nat.le_of_ble_eq_true rfl⟩) ⟨fun a U g mk q => by obtain ⟨q0, q1, qP, qK, qD, n0, n1, n2, n3, qT⟩ := q; exact ⟨q0, q1, qP, va_K.moved (u := U) (U := U.calling g mk a) (Vm.Alike.refl U.vm) qK, qD, (vk_R.same rfl n0), (vk_R.same rfl n1), (vk_R.same rfl n2), (vk_R.same rfl n3), sk_F.moved (u := U) (U := U.calling g mk a) (Vm.Alike.refl U.vm) qT⟩, va_recv hKc hPc (ci := 11) (q0 := 0) rfl rfl, fun U hU hW => ⟨rfl, by rw [hU], by rw [hU]; exact hPc, va_K.moved hW.alike hKc, hDc.weaken (fun _ _ _ _ => trivial), (vk_R.warm hW hN0), (vk_R.warm hW hN1), (vk_R.warm hW hN2), (vk_R.warm hW hN3), by rw [hU]; exact sk_F.moved hW.alike ((hT.kept hS.2.1).narrow hFc)⟩⟩ rfl rfl hl.1 rfl (lv_room (Nat.le_of_ble_eq_true rfl)) dX12_readAll_25 ⟨Nat.le_of_ble_eq_true rfl, Nat.le_of_ble_eq_true rfl⟩) hS (fun q _ h => hFc q h) hFc (fun u t H1 locs ht hvm hw hB hz1 hk1 hS => ?_)
  obtain ⟨hP1, hK1, hD1⟩ := hB
  rw [ht] at hP1
  have hK1 := va_K.moved hvm.symm hK1
  obtain ⟨hP, hD⟩ := va_join (wr := []) (w1 := [(h0, .inr (11, ((((((((fs_h0.set 29 (.int 0)).set 23 (.int 0)).set 24 (.int 0)).set 25 (.int 0)).set 35 (.int 0)).set 34 (.int 1)).set 37 (.int 1)).set 34 (.int 0))))]) hP hD [0] [] rfl rfl (by decide) (by decide) hk1 hFc hP1 hD1
  generalize H1 = H at hP hS ⊢
  have hP : va_P (dC, dI) vwCl [(h0, .inr (11, ((((((((fs_h0.set 29 (.int 0)).set 23 (.int 0)).set 24 (.int 0)).set 25 (.int 0)).set 35 (.int 0)).set 34 (.int 1)).set 37 (.int 1)).set 34 (.int 0))))] H := hP
  have hD : va_D A [(h0, .inr (11, ((((((((fs_h0.set 29 (.int 0)).set 23 (.int 0)).set 24 (.int 0)).set 25 (.int 0)).set 35 (.int 0)).set 34 (.int 1)).set 37 (.int 1)).set 34 (.int 0))))] := hD
  refine lv_aload_n hx hb dX12_readAll_28 rfl (lv_at hl 0 rfl) ?_
  refine va_get (D := (dC, dI)) (ci := 11) (v := .int 0) (C := RX12) (T := TX12) (N := 69) hx hb hts hinX12 hown hK hP 0 rfl rfl 34 (by decide) (hts (.fieldLink RX12 204 "BondCalendarsModel" "kind" "I") (by decide +kernel)) (fun _ h9 => h9) (List.getElem?_set_self (by rw [(List.length_set.trans (List.length_set.trans (List.length_set.trans (List.length_set.trans (List.length_set.trans (List.length_set.trans (List.length_set.trans hn_h0)))))))]; decide)) dX12_readAll_29 ?_
  refine lv_iconst (v := 4) hx hb dX12_readAll_32 (by decide) ?_
  refine lv_icmp_ne (tgt := 47) hx hb dX12_readAll_33 (by decide) (fun c_3 => ?_) (fun c_3 => ?_)
  · refine lv_aload_n hx hb dX12_readAll_47 rfl (lv_at hl 0 rfl) ?_
    refine va_get (D := (dC, dI)) (ci := 11) (v := .int 0) (C := RX12) (T := TX12) (N := 69) hx hb hts hinX12 hown hK hP 0 rfl rfl 34 (by decide) (hts (.fieldLink RX12 204 "BondCalendarsModel" "kind" "I") (by decide +kernel)) (fun _ h9 => h9) (List.getElem?_set_self (by rw [(List.length_set.trans (List.length_set.trans (List.length_set.trans (List.length_set.trans (List.length_set.trans (List.length_set.trans (List.length_set.trans hn_h0)))))))]; decide)) dX12_readAll_48 ?_
    refine lv_iconst (v := 1) hx hb dX12_readAll_51 (by decide) ?_
    refine lv_icmp_eq (tgt := 60) hx hb dX12_readAll_52 (by decide) (fun c_4 => ?_) (fun c_4 => ?_)
    · exact absurd c_4 (by decide)
    · refine lv_aload_n hx hb dX12_readAll_55 rfl (lv_at hl 0 rfl) ?_
      refine lv_iconst (v := 1) hx hb dX12_readAll_56 (by decide) ?_
      have hPc := hP.sub (ws' := [(h0, .inr (11, ((((((((fs_h0.set 29 (.int 0)).set 23 (.int 0)).set 24 (.int 0)).set 25 (.int 0)).set 35 (.int 0)).set 34 (.int 1)).set 37 (.int 1)).set 34 (.int 0))))]) [0] rfl
      have hDc := hD.sub (ws' := [(h0, .inr (11, ((((((((fs_h0.set 29 (.int 0)).set 23 (.int 0)).set 24 (.int 0)).set 25 (.int 0)).set 35 (.int 0)).set 34 (.int 1)).set 37 (.int 1)).set 34 (.int 0))))]) [0] (by decide) rfl
      have hKc := hK.sub (tys' := []) [] rfl
      have hFc := va_free (wc := [(h0, .inr (11, ((((((((fs_h0.set 29 (.int 0)).set 23 (.int 0)).set 24 (.int 0)).set 25 (.int 0)).set 35 (.int 0)).set 34 (.int 1)).set 37 (.int 1)).set 34 (.int 0))))]) hD hS hA [0] rfl
      refine va_callv (va_runV (As := [.int 1]) (rest := []) ⟨hx, hb, hml, hown, hts⟩ (k_X12_wrong2 l dC dI H.size h0 ((((((((fs_h0.set 29 (.int 0)).set 23 (.int 0)).set 24 (.int 0)).set 25 (.int 0)).set 35 (.int 0)).set 34 (.int 1)).set 37 (.int 1)).set 34 (.int 0)) (List.length_set.trans (List.length_set.trans (List.length_set.trans (List.length_set.trans (List.length_set.trans (List.length_set.trans (List.length_set.trans (List.length_set.trans hn_h0)))))))) ((List.getElem?_set_ne (by decide)).trans (List.getElem?_set_self (by rw [(List.length_set.trans (List.length_set.trans (List.length_set.trans (List.length_set.trans (List.length_set.trans (List.length_set.trans hn_h0))))))]; decide)))) (cwV 1 hts gX12_readAll_X12_wrong rfl rfl rfl (by decide +kernel) ⟨Nat.le_of_ble_eq_true rfl, Nat.le_of_ble_eq_true rfl⟩) ⟨fun a U g mk q => by obtain ⟨q0, q1, qP, qK, qD⟩ := q; exact ⟨q0, q1, qP, va_K.moved (u := U) (U := U.calling g mk a) (Vm.Alike.refl U.vm) qK, qD⟩, va_recv hKc hPc (ci := 11) (q0 := 0) rfl rfl, fun U hU hW => ⟨rfl, by rw [hU], by rw [hU]; exact hPc, va_K.moved hW.alike hKc, hDc.weaken (fun _ _ _ _ => trivial)⟩⟩ rfl rfl hl.1 rfl (lv_room (Nat.le_of_ble_eq_true rfl)) dX12_readAll_57 ⟨Nat.le_of_ble_eq_true rfl, Nat.le_of_ble_eq_true rfl⟩) hS (fun q _ h => hFc q h) hFc (fun u t H1 locs ht hvm hw hB hz1 hk1 hS => ?_)
      obtain ⟨hP1, hK1, hD1⟩ := hB
      rw [ht] at hP1
      have hK1 := va_K.moved hvm.symm hK1
      obtain ⟨hP, hD⟩ := va_join (wr := []) (w1 := [(h0, .inr (11, (((((((((fs_h0.set 29 (.int 0)).set 23 (.int 0)).set 24 (.int 0)).set 25 (.int 0)).set 35 (.int 0)).set 34 (.int 1)).set 37 (.int 1)).set 34 (.int 0)).set 34 (.int 0))))]) hP hD [0] [] rfl rfl (by decide) (by decide) hk1 hFc hP1 hD1
      generalize H1 = H at hP hS ⊢
      have hP : va_P (dC, dI) vwCl [(h0, .inr (11, (((((((((fs_h0.set 29 (.int 0)).set 23 (.int 0)).set 24 (.int 0)).set 25 (.int 0)).set 35 (.int 0)).set 34 (.int 1)).set 37 (.int 1)).set 34 (.int 0)).set 34 (.int 0))))] H := hP
      have hD : va_D A [(h0, .inr (11, (((((((((fs_h0.set 29 (.int 0)).set 23 (.int 0)).set 24 (.int 0)).set 25 (.int 0)).set 35 (.int 0)).set 34 (.int 1)).set 37 (.int 1)).set 34 (.int 0)).set 34 (.int 0))))] := hD
      refine lv_aload_n hx hb dX12_readAll_60 rfl (lv_at hl 0 rfl) ?_
      refine va_get (D := (dC, dI)) (ci := 11) (v := .int 1) (C := RX12) (T := TX12) (N := 69) hx hb hts hinX12 hown hK hP 0 rfl rfl 37 (by decide) (hts (.fieldLink RX12 192 "BondCalendarsModel" "fault" "I") (by decide +kernel)) (fun _ h9 => h9) ((List.getElem?_set_ne (by decide)).trans ((List.getElem?_set_ne (by decide)).trans (List.getElem?_set_self (by rw [(List.length_set.trans (List.length_set.trans (List.length_set.trans (List.length_set.trans (List.length_set.trans (List.length_set.trans hn_h0))))))]; decide)))) dX12_readAll_61 ?_
      refine lv_if_ne (tgt := 80) hx hb dX12_readAll_64 (by decide) (fun c_6 => ?_) (fun c_6 => ?_)
      · have hpost : True := trivial
        have hP9 := hP.sub (ws' := [(h0, .inr (11, (((((((((fs_h0.set 29 (.int 0)).set 23 (.int 0)).set 24 (.int 0)).set 25 (.int 0)).set 35 (.int 0)).set 34 (.int 1)).set 37 (.int 1)).set 34 (.int 0)).set 34 (.int 0))))]) [0] rfl
        have hD9 := hD.sub (ws' := [(h0, .inr (11, (((((((((fs_h0.set 29 (.int 0)).set 23 (.int 0)).set 24 (.int 0)).set 25 (.int 0)).set 35 (.int 0)).set 34 (.int 1)).set 37 (.int 1)).set 34 (.int 0)).set 34 (.int 0))))]) [0] (by decide) rfl
        have hK9 := hK.sub (tys' := []) [] rfl
        exact W.vret hx hb hr (fun t ht hW => ⟨⟨(), rfl, hpost, by rw [ht]; exact hP9, va_K.moved hW.alike hK9, hD9⟩, hS.F ht⟩) hS.2.2 dX12_readAll_80
      · exact absurd c_6 (by decide)
  · exact absurd c_3 (by decide)
set_option maxHeartbeats 4000000 in
set_option maxRecDepth 100000 in
theorem k_X12_desk (l : Launch) (dC : Nat → ClassId) (dI : Nat → Nat → Nat) (sz : Nat) (h0 : Nat) (fs_h0 : List Value) (adK : Nat → Nat) (adV : Nat → Nat) (fo : Nat) (p0 : Int32) (hn_h0 : fs_h0.length = 69) (hf_h0_31 : fs_h0[31]? = some (.int 0)) (hf_h0_32 : fs_h0[32]? = some (.int 0)) (hf_h0_33 : fs_h0[33]? = some (.int 0)) (hf_h0_34 : fs_h0[34]? = some (.int 0)) (hf_h0_35 : fs_h0[35]? = some (.int 0)) (hf_h0_37 : fs_h0[37]? = some (.int 0)) : Met l yX12_desk wsX12_desk ({ frames := 7, cells := 0, slots := 0, locals := 149 }) (va_Pc [.ref h0, .int p0] (fun U => U.heap.size = sz ∧ va_P (dC, dI) vwCl [(h0, .inr (11, fs_h0))] U.heap ∧ va_K (dC, dI) vwCl [] U ∧ va_D (fun _ => True) [(h0, .inr (11, fs_h0))] ∧ vk_R RX12 272 "desk" (adK 0) U ∧ vk_R RX12 277 "holiday" (adK 1) U ∧ vk_R RX12 282 "bond" (adK 2) U ∧ vk_R RX12 287 "quote" (adK 3) U ∧ sk_F adK adV fo (va_A [(h0, .inr (11, fs_h0))] sz) U U.heap)) (va_Qi (fun (r : Int32) (_ : Unit) => r = (-1)) (fun _ t => va_P (dC, dI) vwCl [] t.heap ∧ va_K (dC, dI) vwCl [] t ∧ va_D (va_A [(h0, .inr (11, fs_h0))] sz) []) (va_A [(h0, .inr (11, fs_h0))] sz)) 0 0 (va_A [(h0, .inr (11, fs_h0))] sz) := by
  refine Met.ofW (cc := cX12_desk) (maxL := 2) (ret := (some .int)) (by decide) rfl ?_
  intro p e s m args below meth c s₁ B hml hv
  obtain ⟨rfl, hsz, hP, hK, hD0, hN0, hN1, hN2, hN3, hT⟩ := hv
  have hx := B.exec
  have hb := B.bytes
  have hr := B.returns
  have hts := atoms_spec (ws := wsX12_desk) B.pre
  have hown : s.vm.findClass RX12 = some m.cls := findClass_of_methodNamed B.named
  have hlocks := B.notSynchronized
  have hinX12 : ∀ w ∈ u_ws RX12 TX12 69, w ∈ wsX12_desk := (fun _ h9 => List.mem_cons_of_mem _ (List.mem_append_right _ h9))
  subst hsz
  have hD := hD0.self (sz := s.heap.size)
  generalize hAe : va_A [(h0, .inr (11, fs_h0))] s.heap.size = A at hD hT ⊢
  have hA : ∀ q : Nat, s.heap.size ≤ q → A q := fun q h => by rw [← hAe]; exact Or.inr h
  have hS : va_S A s.heap s.heap [] := va_S.rf
  have hP : va_P (dC, dI) vwCl [(h0, .inr (11, fs_h0))] s.heap := hP
  have hl := lv_entry ([.ref h0, .int p0]) (n := 2) (Nat.le_of_ble_eq_true rfl)
  rw [lg_entry_eq]
  generalize (lg_sl ([.ref h0, .int p0]) ++ List.replicate (2 - (lg_sl ([.ref h0, .int p0])).length) Slot.unset).toArray = ls at hl ⊢
  have hl : lv_has ls 2 [(0, .ref h0), (1, .int p0)] := hl
  refine lv_aload_n hx hb dX12_desk_0 rfl (lv_at hl 0 rfl) ?_
  refine lv_iconst (v := 0) hx hb dX12_desk_1 (by decide) ?_
  refine va_put (D := (dC, dI)) (ci := 11) (v := .int 0) (C := RX12) (T := TX12) (N := 69) hx hb hts hinX12 tyX12 tyX12_ok nmX12 hown hK hP hD hS 0 rfl rfl 0 (by decide) (hts (.fieldLink RX12 107 "BondCalendarsModel" "thrown" "I") (by decide +kernel)) (fun _ h9 => h9) rfl (ty := .int) (by decide +kernel) rfl rfl (by rw [hn_h0]; decide) dX12_desk_2 (fun H locs hP hD hS => ?_)
  have hP : va_P (dC, dI) vwCl [(h0, .inr (11, (fs_h0.set 0 (.int 0))))] H := hP
  have hD : va_D A [(h0, .inr (11, (fs_h0.set 0 (.int 0))))] := hD
  refine lv_iload_n hx hb dX12_desk_5 rfl (lv_at hl 1 rfl) ?_
  refine lv_if_lt (tgt := 17) hx hb dX12_desk_6 (by decide) (fun c_1 => ?_) (fun c_1 => ?_)
  · refine lv_aload_n hx hb dX12_desk_17 rfl (lv_at hl 0 rfl) ?_
    refine lv_iconst (v := 2) hx hb dX12_desk_18 (by decide) ?_
    have hPc := hP.sub (ws' := [(h0, .inr (11, (fs_h0.set 0 (.int 0))))]) [0] rfl
    have hDc := hD.sub (ws' := [(h0, .inr (11, (fs_h0.set 0 (.int 0))))]) [0] (by decide) rfl
    have hKc := hK.sub (tys' := []) [] rfl
    have hFc := va_free (wc := [(h0, .inr (11, (fs_h0.set 0 (.int 0))))]) hD hS hA [0] rfl
    refine va_calli (va_runV (As := [.int 2]) (rest := []) ⟨hx, hb, hml, hown, hts⟩ (k_X12_refused l dC dI H.size h0 (fs_h0.set 0 (.int 0)) 2 (List.length_set.trans hn_h0)) (cwV 1 hts gX12_desk_X12_refused rfl rfl rfl (by decide +kernel) ⟨Nat.le_of_ble_eq_true rfl, Nat.le_of_ble_eq_true rfl⟩) ⟨fun a U g mk q => by obtain ⟨q0, q1, qP, qK, qD⟩ := q; exact ⟨q0, q1, qP, va_K.moved (u := U) (U := U.calling g mk a) (Vm.Alike.refl U.vm) qK, qD⟩, va_recv hKc hPc (ci := 11) (q0 := 0) rfl rfl, fun U hU hW => ⟨rfl, by rw [hU], by rw [hU]; exact hPc, va_K.moved hW.alike hKc, hDc.weaken (fun _ _ _ _ => trivial)⟩⟩ rfl rfl hl.1 rfl (lv_room (Nat.le_of_ble_eq_true rfl)) dX12_desk_19 ⟨Nat.le_of_ble_eq_true rfl, Nat.le_of_ble_eq_true rfl⟩) hS (fun q _ h => hFc q h) hFc (fun r_2 u t H1 locs ht hvm hw hB hz1 hk1 hS => ?_)
    obtain ⟨hP1, hK1, hD1⟩ := hB
    rw [ht] at hP1
    have hK1 := va_K.moved hvm.symm hK1
    obtain ⟨hP, hD⟩ := va_join (wr := []) (w1 := []) hP hD [0] [] rfl rfl (by decide) (by decide) hk1 hFc hP1 hD1
    generalize H1 = H at hP hS ⊢
    have hP : va_P (dC, dI) vwCl [] H := hP
    have hD : va_D A [] := hD
    have er_2 : r_2 = (-1) := hw
    subst er_2
    have hpost : ((-1) : Int32) = (-1) := rfl
    have hP9 := hP.sub (ws' := []) [] rfl
    have hD9 := hD.sub (ws' := []) [] (by decide) rfl
    have hK9 := hK.sub (tys' := []) [] rfl
    exact W.iret (v := (-1)) hx hb hr (fun t ht hW => ⟨⟨(-1), (), rfl, hpost, by rw [ht]; exact hP9, va_K.moved hW.alike hK9, hD9⟩, hS.F ht⟩) hS.2.2 dX12_desk_22
  · refine lv_iload_n hx hb dX12_desk_9 rfl (lv_at hl 1 rfl) ?_
    refine lv_aload_n hx hb dX12_desk_10 rfl (lv_at hl 0 rfl) ?_
    refine va_get (D := (dC, dI)) (ci := 11) (v := .int 0) (C := RX12) (T := TX12) (N := 69) hx hb hts hinX12 hown hK hP 0 rfl rfl 31 (by decide) (hts (.fieldLink RX12 349 "BondCalendarsModel" "taped" "I") (by decide +kernel)) (fun _ h9 => h9) ((List.getElem?_set_ne (by decide)).trans hf_h0_31) dX12_desk_11 ?_
    refine lv_icmp_le (tgt := 23) hx hb dX12_desk_14 (by decide) (fun c_3 => ?_) (fun c_3 => ?_)
    · obtain rfl : p0 = 0 := Int32.le_antisymm c_3 (Int32.not_lt.mp c_1)
      refine lv_aload_n hx hb dX12_desk_23 rfl (lv_at hl 0 rfl) ?_
      refine lv_iload_n hx hb dX12_desk_24 rfl (lv_at hl 1 rfl) ?_
      refine va_put (D := (dC, dI)) (ci := 11) (v := .int 0) (C := RX12) (T := TX12) (N := 69) hx hb hts hinX12 tyX12 tyX12_ok nmX12 hown hK hP hD hS 0 rfl rfl 32 (by decide) (hts (.fieldLink RX12 189 "BondCalendarsModel" "size" "I") (by decide +kernel)) (fun _ h9 => h9) rfl (ty := .int) (by decide +kernel) rfl rfl (by rw [(List.length_set.trans hn_h0)]; decide) dX12_desk_25 (fun H locs hP hD hS => ?_)
      have hP : va_P (dC, dI) vwCl [(h0, .inr (11, ((fs_h0.set 0 (.int 0)).set 32 (.int 0))))] H := hP
      have hD : va_D A [(h0, .inr (11, ((fs_h0.set 0 (.int 0)).set 32 (.int 0))))] := hD
      refine lv_aload_n hx hb dX12_desk_28 rfl (lv_at hl 0 rfl) ?_
      refine lv_iconst (v := 0) hx hb dX12_desk_29 (by decide) ?_
      refine va_put (D := (dC, dI)) (ci := 11) (v := .int 0) (C := RX12) (T := TX12) (N := 69) hx hb hts hinX12 tyX12 tyX12_ok nmX12 hown hK hP hD hS 0 rfl rfl 31 (by decide) (hts (.fieldLink RX12 349 "BondCalendarsModel" "taped" "I") (by decide +kernel)) (fun _ h9 => h9) rfl (ty := .int) (by decide +kernel) rfl rfl (by rw [(List.length_set.trans (List.length_set.trans hn_h0))]; decide) dX12_desk_30 (fun H locs hP hD hS => ?_)
      have hP : va_P (dC, dI) vwCl [(h0, .inr (11, (((fs_h0.set 0 (.int 0)).set 32 (.int 0)).set 31 (.int 0))))] H := hP
      have hD : va_D A [(h0, .inr (11, (((fs_h0.set 0 (.int 0)).set 32 (.int 0)).set 31 (.int 0))))] := hD
      refine lv_aload_n hx hb dX12_desk_33 rfl (lv_at hl 0 rfl) ?_
      refine lv_iconst (v := 0) hx hb dX12_desk_34 (by decide) ?_
      refine va_put (D := (dC, dI)) (ci := 11) (v := .int 0) (C := RX12) (T := TX12) (N := 69) hx hb hts hinX12 tyX12 tyX12_ok nmX12 hown hK hP hD hS 0 rfl rfl 33 (by decide) (hts (.fieldLink RX12 195 "BondCalendarsModel" "spot" "I") (by decide +kernel)) (fun _ h9 => h9) rfl (ty := .int) (by decide +kernel) rfl rfl (by rw [(List.length_set.trans (List.length_set.trans (List.length_set.trans hn_h0)))]; decide) dX12_desk_35 (fun H locs hP hD hS => ?_)
      have hP : va_P (dC, dI) vwCl [(h0, .inr (11, ((((fs_h0.set 0 (.int 0)).set 32 (.int 0)).set 31 (.int 0)).set 33 (.int 0))))] H := hP
      have hD : va_D A [(h0, .inr (11, ((((fs_h0.set 0 (.int 0)).set 32 (.int 0)).set 31 (.int 0)).set 33 (.int 0))))] := hD
      refine lv_aload_n hx hb dX12_desk_38 rfl (lv_at hl 0 rfl) ?_
      refine lv_iconst (v := 0) hx hb dX12_desk_39 (by decide) ?_
      refine va_put (D := (dC, dI)) (ci := 11) (v := .int 0) (C := RX12) (T := TX12) (N := 69) hx hb hts hinX12 tyX12 tyX12_ok nmX12 hown hK hP hD hS 0 rfl rfl 37 (by decide) (hts (.fieldLink RX12 192 "BondCalendarsModel" "fault" "I") (by decide +kernel)) (fun _ h9 => h9) rfl (ty := .int) (by decide +kernel) rfl rfl (by rw [(List.length_set.trans (List.length_set.trans (List.length_set.trans (List.length_set.trans hn_h0))))]; decide) dX12_desk_40 (fun H locs hP hD hS => ?_)
      have hP : va_P (dC, dI) vwCl [(h0, .inr (11, (((((fs_h0.set 0 (.int 0)).set 32 (.int 0)).set 31 (.int 0)).set 33 (.int 0)).set 37 (.int 0))))] H := hP
      have hD : va_D A [(h0, .inr (11, (((((fs_h0.set 0 (.int 0)).set 32 (.int 0)).set 31 (.int 0)).set 33 (.int 0)).set 37 (.int 0))))] := hD
      refine lv_aload_n hx hb dX12_desk_43 rfl (lv_at hl 0 rfl) ?_
      have hPc := hP.sub (ws' := [(h0, .inr (11, (((((fs_h0.set 0 (.int 0)).set 32 (.int 0)).set 31 (.int 0)).set 33 (.int 0)).set 37 (.int 0))))]) [0] rfl
      have hDc := hD.sub (ws' := [(h0, .inr (11, (((((fs_h0.set 0 (.int 0)).set 32 (.int 0)).set 31 (.int 0)).set 33 (.int 0)).set 37 (.int 0))))]) [0] (by decide) rfl
      have hKc := hK.sub (tys' := []) [] rfl
      have hFc := va_free (wc := [(h0, .inr (11, (((((fs_h0.set 0 (.int 0)).set 32 (.int 0)).set 31 (.int 0)).set 33 (.int 0)).set 37 (.int 0))))]) hD hS hA [0] rfl
      refine va_callv (va_runV (As := []) (rest := []) ⟨hx, hb, hml, hown, hts⟩ (k_X12_readAll l dC dI H.size h0 (((((fs_h0.set 0 (.int 0)).set 32 (.int 0)).set 31 (.int 0)).set 33 (.int 0)).set 37 (.int 0)) adK adV fo (List.length_set.trans (List.length_set.trans (List.length_set.trans (List.length_set.trans (List.length_set.trans hn_h0))))) ((List.getElem?_set_ne (by decide)).trans ((List.getElem?_set_ne (by decide)).trans ((List.getElem?_set_ne (by decide)).trans (List.getElem?_set_self (by rw [(List.length_set.trans hn_h0)]; decide))))) ((List.getElem?_set_ne (by decide)).trans (List.getElem?_set_self (by rw [(List.length_set.trans (List.length_set.trans (List.length_set.trans hn_h0)))]; decide))) ((List.getElem?_set_ne (by decide)).trans ((List.getElem?_set_ne (by decide)).trans ((List.getElem?_set_ne (by decide)).trans ((List.getElem?_set_ne (by decide)).trans ((List.getElem?_set_ne (by decide)).trans hf_h0_34))))) (List.getElem?_set_self (by rw [(List.length_set.trans (List.length_set.trans (List.length_set.trans (List.length_set.trans hn_h0))))]; decide))) (cwV 0 hts gX12_desk_X12_readAll rfl rfl rfl (by decide +kernel) ⟨Nat.le_of_ble_eq_true rfl, Nat.le_of_ble_eq_true rfl⟩) ⟨fun a U g mk q => by obtain ⟨q0, q1, qP, qK, qD, n0, n1, n2, n3, qT⟩ := q; exact ⟨q0, q1, qP, va_K.moved (u := U) (U := U.calling g mk a) (Vm.Alike.refl U.vm) qK, qD, (vk_R.same rfl n0), (vk_R.same rfl n1), (vk_R.same rfl n2), (vk_R.same rfl n3), sk_F.moved (u := U) (U := U.calling g mk a) (Vm.Alike.refl U.vm) qT⟩, va_recv hKc hPc (ci := 11) (q0 := 0) rfl rfl, fun U hU hW => ⟨rfl, by rw [hU], by rw [hU]; exact hPc, va_K.moved hW.alike hKc, hDc.weaken (fun _ _ _ _ => trivial), (vk_R.warm hW hN0), (vk_R.warm hW hN1), (vk_R.warm hW hN2), (vk_R.warm hW hN3), by rw [hU]; exact sk_F.moved hW.alike ((hT.kept hS.2.1).narrow hFc)⟩⟩ rfl rfl hl.1 rfl (lv_room (Nat.le_of_ble_eq_true rfl)) dX12_desk_44 ⟨Nat.le_of_ble_eq_true rfl, Nat.le_of_ble_eq_true rfl⟩) hS (fun q _ h => hFc q h) hFc (fun u t H1 locs ht hvm hw hB hz1 hk1 hS => ?_)
      obtain ⟨hP1, hK1, hD1⟩ := hB
      rw [ht] at hP1
      have hK1 := va_K.moved hvm.symm hK1
      obtain ⟨hP, hD⟩ := va_join (wr := []) (w1 := [(h0, .inr (11, ((((((((((((((fs_h0.set 0 (.int 0)).set 32 (.int 0)).set 31 (.int 0)).set 33 (.int 0)).set 37 (.int 0)).set 29 (.int 0)).set 23 (.int 0)).set 24 (.int 0)).set 25 (.int 0)).set 35 (.int 0)).set 34 (.int 1)).set 37 (.int 1)).set 34 (.int 0)).set 34 (.int 0))))]) hP hD [0] [] rfl rfl (by decide) (by decide) hk1 hFc hP1 hD1
      generalize H1 = H at hP hS ⊢
      have hP : va_P (dC, dI) vwCl [(h0, .inr (11, ((((((((((((((fs_h0.set 0 (.int 0)).set 32 (.int 0)).set 31 (.int 0)).set 33 (.int 0)).set 37 (.int 0)).set 29 (.int 0)).set 23 (.int 0)).set 24 (.int 0)).set 25 (.int 0)).set 35 (.int 0)).set 34 (.int 1)).set 37 (.int 1)).set 34 (.int 0)).set 34 (.int 0))))] H := hP
      have hD : va_D A [(h0, .inr (11, ((((((((((((((fs_h0.set 0 (.int 0)).set 32 (.int 0)).set 31 (.int 0)).set 33 (.int 0)).set 37 (.int 0)).set 29 (.int 0)).set 23 (.int 0)).set 24 (.int 0)).set 25 (.int 0)).set 35 (.int 0)).set 34 (.int 1)).set 37 (.int 1)).set 34 (.int 0)).set 34 (.int 0))))] := hD
      refine lv_aload_n hx hb dX12_desk_47 rfl (lv_at hl 0 rfl) ?_
      refine va_get (D := (dC, dI)) (ci := 11) (v := .int 1) (C := RX12) (T := TX12) (N := 69) hx hb hts hinX12 hown hK hP 0 rfl rfl 37 (by decide) (hts (.fieldLink RX12 192 "BondCalendarsModel" "fault" "I") (by decide +kernel)) (fun _ h9 => h9) ((List.getElem?_set_ne (by decide)).trans ((List.getElem?_set_ne (by decide)).trans (List.getElem?_set_self (by rw [(List.length_set.trans (List.length_set.trans (List.length_set.trans (List.length_set.trans (List.length_set.trans (List.length_set.trans (List.length_set.trans (List.length_set.trans (List.length_set.trans (List.length_set.trans (List.length_set.trans hn_h0)))))))))))]; decide)))) dX12_desk_48 ?_
      refine lv_if_le (tgt := 69) hx hb dX12_desk_51 (by decide) (fun c_5 => ?_) (fun c_5 => ?_)
      · exact absurd c_5 (by decide)
      · refine lv_aload_n hx hb dX12_desk_54 rfl (lv_at hl 0 rfl) ?_
        refine lv_iconst (v := 4) hx hb dX12_desk_55 (by decide) ?_
        refine va_put (D := (dC, dI)) (ci := 11) (v := .int 4) (C := RX12) (T := TX12) (N := 69) hx hb hts hinX12 tyX12 tyX12_ok nmX12 hown hK hP hD hS 0 rfl rfl 1 (by decide) (hts (.fieldLink RX12 110 "BondCalendarsModel" "trouble" "I") (by decide +kernel)) (fun _ h9 => h9) rfl (ty := .int) (by decide +kernel) rfl rfl (by rw [(List.length_set.trans (List.length_set.trans (List.length_set.trans (List.length_set.trans (List.length_set.trans (List.length_set.trans (List.length_set.trans (List.length_set.trans (List.length_set.trans (List.length_set.trans (List.length_set.trans (List.length_set.trans (List.length_set.trans (List.length_set.trans hn_h0))))))))))))))]; decide) dX12_desk_56 (fun H locs hP hD hS => ?_)
        have hP : va_P (dC, dI) vwCl [(h0, .inr (11, (((((((((((((((fs_h0.set 0 (.int 0)).set 32 (.int 0)).set 31 (.int 0)).set 33 (.int 0)).set 37 (.int 0)).set 29 (.int 0)).set 23 (.int 0)).set 24 (.int 0)).set 25 (.int 0)).set 35 (.int 0)).set 34 (.int 1)).set 37 (.int 1)).set 34 (.int 0)).set 34 (.int 0)).set 1 (.int 4))))] H := hP
        have hD : va_D A [(h0, .inr (11, (((((((((((((((fs_h0.set 0 (.int 0)).set 32 (.int 0)).set 31 (.int 0)).set 33 (.int 0)).set 37 (.int 0)).set 29 (.int 0)).set 23 (.int 0)).set 24 (.int 0)).set 25 (.int 0)).set 35 (.int 0)).set 34 (.int 1)).set 37 (.int 1)).set 34 (.int 0)).set 34 (.int 0)).set 1 (.int 4))))] := hD
        refine lv_aload_n hx hb dX12_desk_59 rfl (lv_at hl 0 rfl) ?_
        refine lv_aload_n hx hb dX12_desk_60 rfl (lv_at hl 0 rfl) ?_
        refine va_get (D := (dC, dI)) (ci := 11) (v := .int 0) (C := RX12) (T := TX12) (N := 69) hx hb hts hinX12 hown hK hP 0 rfl rfl 35 (by decide) (hts (.fieldLink RX12 201 "BondCalendarsModel" "at" "I") (by decide +kernel)) (fun _ h9 => h9) ((List.getElem?_set_ne (by decide)).trans ((List.getElem?_set_ne (by decide)).trans ((List.getElem?_set_ne (by decide)).trans ((List.getElem?_set_ne (by decide)).trans ((List.getElem?_set_ne (by decide)).trans (List.getElem?_set_self (by rw [(List.length_set.trans (List.length_set.trans (List.length_set.trans (List.length_set.trans (List.length_set.trans (List.length_set.trans (List.length_set.trans (List.length_set.trans (List.length_set.trans hn_h0)))))))))]; decide))))))) dX12_desk_61 ?_
        refine va_put (D := (dC, dI)) (ci := 11) (v := .int 0) (C := RX12) (T := TX12) (N := 69) hx hb hts hinX12 tyX12 tyX12_ok nmX12 hown hK hP hD hS 0 rfl rfl 2 (by decide) (hts (.fieldLink RX12 9 "BondCalendarsModel" "wrongAt" "I") (by decide +kernel)) (fun _ h9 => h9) rfl (ty := .int) (by decide +kernel) rfl rfl (by rw [(List.length_set.trans (List.length_set.trans (List.length_set.trans (List.length_set.trans (List.length_set.trans (List.length_set.trans (List.length_set.trans (List.length_set.trans (List.length_set.trans (List.length_set.trans (List.length_set.trans (List.length_set.trans (List.length_set.trans (List.length_set.trans (List.length_set.trans hn_h0)))))))))))))))]; decide) dX12_desk_64 (fun H locs hP hD hS => ?_)
        have hP : va_P (dC, dI) vwCl [(h0, .inr (11, ((((((((((((((((fs_h0.set 0 (.int 0)).set 32 (.int 0)).set 31 (.int 0)).set 33 (.int 0)).set 37 (.int 0)).set 29 (.int 0)).set 23 (.int 0)).set 24 (.int 0)).set 25 (.int 0)).set 35 (.int 0)).set 34 (.int 1)).set 37 (.int 1)).set 34 (.int 0)).set 34 (.int 0)).set 1 (.int 4)).set 2 (.int 0))))] H := hP
        have hD : va_D A [(h0, .inr (11, ((((((((((((((((fs_h0.set 0 (.int 0)).set 32 (.int 0)).set 31 (.int 0)).set 33 (.int 0)).set 37 (.int 0)).set 29 (.int 0)).set 23 (.int 0)).set 24 (.int 0)).set 25 (.int 0)).set 35 (.int 0)).set 34 (.int 1)).set 37 (.int 1)).set 34 (.int 0)).set 34 (.int 0)).set 1 (.int 4)).set 2 (.int 0))))] := hD
        refine lv_iconst (v := (-1)) hx hb dX12_desk_67 (by decide) ?_
        have hpost : ((-1) : Int32) = (-1) := rfl
        have hP9 := hP.sub (ws' := []) [] rfl
        have hD9 := hD.sub (ws' := []) [] (by decide) rfl
        have hK9 := hK.sub (tys' := []) [] rfl
        exact W.iret (v := (-1)) hx hb hr (fun t ht hW => ⟨⟨(-1), (), rfl, hpost, by rw [ht]; exact hP9, va_K.moved hW.alike hK9, hD9⟩, hS.F ht⟩) hS.2.2 dX12_desk_68
    · refine lv_aload_n hx hb dX12_desk_17 rfl (lv_at hl 0 rfl) ?_
      refine lv_iconst (v := 2) hx hb dX12_desk_18 (by decide) ?_
      have hPc := hP.sub (ws' := [(h0, .inr (11, (fs_h0.set 0 (.int 0))))]) [0] rfl
      have hDc := hD.sub (ws' := [(h0, .inr (11, (fs_h0.set 0 (.int 0))))]) [0] (by decide) rfl
      have hKc := hK.sub (tys' := []) [] rfl
      have hFc := va_free (wc := [(h0, .inr (11, (fs_h0.set 0 (.int 0))))]) hD hS hA [0] rfl
      refine va_calli (va_runV (As := [.int 2]) (rest := []) ⟨hx, hb, hml, hown, hts⟩ (k_X12_refused l dC dI H.size h0 (fs_h0.set 0 (.int 0)) 2 (List.length_set.trans hn_h0)) (cwV 1 hts gX12_desk_X12_refused rfl rfl rfl (by decide +kernel) ⟨Nat.le_of_ble_eq_true rfl, Nat.le_of_ble_eq_true rfl⟩) ⟨fun a U g mk q => by obtain ⟨q0, q1, qP, qK, qD⟩ := q; exact ⟨q0, q1, qP, va_K.moved (u := U) (U := U.calling g mk a) (Vm.Alike.refl U.vm) qK, qD⟩, va_recv hKc hPc (ci := 11) (q0 := 0) rfl rfl, fun U hU hW => ⟨rfl, by rw [hU], by rw [hU]; exact hPc, va_K.moved hW.alike hKc, hDc.weaken (fun _ _ _ _ => trivial)⟩⟩ rfl rfl hl.1 rfl (lv_room (Nat.le_of_ble_eq_true rfl)) dX12_desk_19 ⟨Nat.le_of_ble_eq_true rfl, Nat.le_of_ble_eq_true rfl⟩) hS (fun q _ h => hFc q h) hFc (fun r_6 u t H1 locs ht hvm hw hB hz1 hk1 hS => ?_)
      obtain ⟨hP1, hK1, hD1⟩ := hB
      rw [ht] at hP1
      have hK1 := va_K.moved hvm.symm hK1
      obtain ⟨hP, hD⟩ := va_join (wr := []) (w1 := []) hP hD [0] [] rfl rfl (by decide) (by decide) hk1 hFc hP1 hD1
      generalize H1 = H at hP hS ⊢
      have hP : va_P (dC, dI) vwCl [] H := hP
      have hD : va_D A [] := hD
      have er_6 : r_6 = (-1) := hw
      subst er_6
      have hpost : ((-1) : Int32) = (-1) := rfl
      have hP9 := hP.sub (ws' := []) [] rfl
      have hD9 := hD.sub (ws' := []) [] (by decide) rfl
      have hK9 := hK.sub (tys' := []) [] rfl
      exact W.iret (v := (-1)) hx hb hr (fun t ht hW => ⟨⟨(-1), (), rfl, hpost, by rw [ht]; exact hP9, va_K.moved hW.alike hK9, hD9⟩, hS.F ht⟩) hS.2.2 dX12_desk_22
