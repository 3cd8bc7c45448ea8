def f_X12_in (p0 : Int32) (p1 : Int32) (p2 : Int32) : Int32 :=
  if p0 < p1 then
    0
  else
    if p2 < p0 then
      0
    else
      1
set_option maxHeartbeats 4000000 in
set_option maxRecDepth 100000 in
theorem k_X12_in (l : Launch) (dC : Nat → ClassId) (dI : Nat → Nat → Nat) (sz : Nat) (p0 : Int32) (p1 : Int32) (p2 : Int32) : Met l yX12_in wsX12_in ({ frames := 0, cells := 0, slots := 0, locals := 0 }) (va_Pc [.int p0, .int p1, .int p2] (fun U => U.heap.size = sz ∧ va_P (dC, dI) vwCl [] U.heap ∧ va_K (dC, dI) vwCl [] U ∧ va_D (fun _ => True) [])) (va_Qi (fun (r : Int32) (_ : Unit) => r = f_X12_in p0 p1 p2) (fun _ t => va_P (dC, dI) vwCl [] t.heap ∧ va_K (dC, dI) vwCl [] t ∧ va_D (va_A [] sz) []) (va_A [] sz)) 0 0 (va_A [] sz) := by
  refine Met.ofW (cc := cX12_in) (maxL := 3) (ret := (some .boolean)) (by decide) rfl ?_
  intro p e s m args below meth c s₁ B hml hv
  obtain ⟨rfl, hsz, hP, hK, hD0⟩ := hv
  have hx := B.exec
  have hb := B.bytes
  have hr := B.returns
  have hts := atoms_spec (ws := wsX12_in) B.pre
  have hown : s.vm.findClass RX12 = some m.cls := findClass_of_methodNamed B.named
  have hlocks := B.notSynchronized
  subst hsz
  have hD := hD0.self (sz := s.heap.size)
  generalize hAe : va_A [] s.heap.size = A at hD ⊢
  have hA : ∀ q : Nat, s.heap.size ≤ q → A q := fun q h => by rw [← hAe]; exact Or.inr h
  have hS : va_S A s.heap s.heap [] := va_S.rf
  have hP : va_P (dC, dI) vwCl [] s.heap := hP
  have hl := lv_entry ([.int p0, .int p1, .int p2]) (n := 3) (Nat.le_of_ble_eq_true rfl)
  rw [lg_entry_eq]
  generalize (lg_sl ([.int p0, .int p1, .int p2]) ++ List.replicate (3 - (lg_sl ([.int p0, .int p1, .int p2])).length) Slot.unset).toArray = ls at hl ⊢
  have hl : lv_has ls 3 [(0, .int p0), (1, .int p1), (2, .int p2)] := hl
  refine lv_iload_n hx hb dX12_in_0 rfl (lv_at hl 0 rfl) ?_
  refine lv_iload_n hx hb dX12_in_1 rfl (lv_at hl 1 rfl) ?_
  refine lv_icmp_lt (tgt := 14) hx hb dX12_in_2 (by decide) (fun c_1 => ?_) (fun c_1 => ?_)
  · refine lv_iconst (v := 0) hx hb dX12_in_14 (by decide) ?_
    have hpost : 0 = f_X12_in p0 p1 p2 := by refine Eq.symm ?_; refine (if_pos c_1).trans ?_; rfl
    have hP9 := hP.sub (ws' := []) [] rfl
    have hD9 := hD.sub (ws' := []) [] (by decide) rfl
    have hK9 := hK.sub (tys' := []) [] rfl
    exact W.zret (v := 0) hx hb hr (by decide) (fun t ht hW => ⟨⟨0, (), rfl, hpost, by rw [ht]; exact hP9, va_K.moved hW.alike hK9, hD9⟩, hS.F ht⟩) hS.2.2 dX12_in_15
  · refine lv_iload_n hx hb dX12_in_5 rfl (lv_at hl 0 rfl) ?_
    refine lv_iload_n hx hb dX12_in_6 rfl (lv_at hl 2 rfl) ?_
    refine lv_icmp_gt (tgt := 14) hx hb dX12_in_7 (by decide) (fun c_2 => ?_) (fun c_2 => ?_)
    · refine lv_iconst (v := 0) hx hb dX12_in_14 (by decide) ?_
      have hpost : 0 = f_X12_in p0 p1 p2 := by refine Eq.symm ?_; refine (if_neg c_1).trans ?_; refine (if_pos c_2).trans ?_; rfl
      have hP9 := hP.sub (ws' := []) [] rfl
      have hD9 := hD.sub (ws' := []) [] (by decide) rfl
      have hK9 := hK.sub (tys' := []) [] rfl
      exact W.zret (v := 0) hx hb hr (by decide) (fun t ht hW => ⟨⟨0, (), rfl, hpost, by rw [ht]; exact hP9, va_K.moved hW.alike hK9, hD9⟩, hS.F ht⟩) hS.2.2 dX12_in_15
    · refine lv_iconst (v := 1) hx hb dX12_in_10 (by decide) ?_
      refine lv_goto (tgt := 15) hx hb dX12_in_11 (by decide) ?_
      have hpost : 1 = f_X12_in p0 p1 p2 := by refine Eq.symm ?_; refine (if_neg c_1).trans ?_; refine (if_neg c_2).trans ?_; rfl
      have hP9 := hP.sub (ws' := []) [] rfl
      have hD9 := hD.sub (ws' := []) [] (by decide) rfl
      have hK9 := hK.sub (tys' := []) [] rfl
      exact W.zret (v := 1) hx hb hr (by decide) (fun t ht hW => ⟨⟨1, (), rfl, hpost, by rw [ht]; exact hP9, va_K.moved hW.alike hK9, hD9⟩, hS.F ht⟩) hS.2.2 dX12_in_15
def f_X12_daysIn (p0 : Int32) (p1 : Int32) : Int32 :=
  if p1 = 2 then
    if (p0 - p0 / 4 * 4) = 0 then
      if (p0 - p0 / 100 * 100) = 0 then
        if (p0 - p0 / 400 * 400) = 0 then
          29
        else
          28
      else
        29
    else
      28
  else
    if p1 = 4 then
      30
    else
      if p1 = 6 then
        30
      else
        if p1 = 9 then
          30
        else
          if p1 = 11 then
            30
          else
            31
set_option maxHeartbeats 4000000 in
set_option maxRecDepth 100000 in
theorem k_X12_daysIn (l : Launch) (dC : Nat → ClassId) (dI : Nat → Nat → Nat) (sz : Nat) (p0 : Int32) (p1 : Int32) : Met l yX12_daysIn wsX12_daysIn ({ frames := 0, cells := 0, slots := 0, locals := 0 }) (va_Pc [.int p0, .int p1] (fun U => U.heap.size = sz ∧ va_P (dC, dI) vwCl [] U.heap ∧ va_K (dC, dI) vwCl [] U ∧ va_D (fun _ => True) [])) (va_Qi (fun (r : Int32) (_ : Unit) => r = f_X12_daysIn p0 p1) (fun _ t => va_P (dC, dI) vwCl [] t.heap ∧ va_K (dC, dI) vwCl [] t ∧ va_D (va_A [] sz) []) (va_A [] sz)) 0 0 (va_A [] sz) := by
  refine Met.ofW (cc := cX12_daysIn) (maxL := 2) (ret := (some .int)) (by decide) rfl ?_
  intro p e s m args below meth c s₁ B hml hv
  obtain ⟨rfl, hsz, hP, hK, hD0⟩ := hv
  have hx := B.exec
  have hb := B.bytes
  have hr := B.returns
  have hts := atoms_spec (ws := wsX12_daysIn) B.pre
  have hown : s.vm.findClass RX12 = some m.cls := findClass_of_methodNamed B.named
  have hlocks := B.notSynchronized
  subst hsz
  have hD := hD0.self (sz := s.heap.size)
  generalize hAe : va_A [] s.heap.size = A at hD ⊢
  have hA : ∀ q : Nat, s.heap.size ≤ q → A q := fun q h => by rw [← hAe]; exact Or.inr h
  have hS : va_S A s.heap s.heap [] := va_S.rf
  have hP : va_P (dC, dI) vwCl [] s.heap := hP
  have hl := lv_entry ([.int p0, .int p1]) (n := 2) (Nat.le_of_ble_eq_true rfl)
  rw [lg_entry_eq]
  generalize (lg_sl ([.int p0, .int p1]) ++ List.replicate (2 - (lg_sl ([.int p0, .int p1])).length) Slot.unset).toArray = ls at hl ⊢
  have hl : lv_has ls 2 [(0, .int p0), (1, .int p1)] := hl
  refine lv_iload_n hx hb dX12_daysIn_0 rfl (lv_at hl 1 rfl) ?_
  refine lv_iconst (v := 2) hx hb dX12_daysIn_1 (by decide) ?_
  refine lv_icmp_ne (tgt := 34) hx hb dX12_daysIn_2 (by decide) (fun c_1 => ?_) (fun c_1 => ?_)
  · refine lv_iload_n hx hb dX12_daysIn_34 rfl (lv_at hl 1 rfl) ?_
    refine lv_iconst (v := 4) hx hb dX12_daysIn_35 (by decide) ?_
    refine lv_icmp_eq (tgt := 57) hx hb dX12_daysIn_36 (by decide) (fun c_2 => ?_) (fun c_2 => ?_)
    · refine lv_bipush (v := 30) hx hb dX12_daysIn_57 (by decide) ?_
      refine lv_goto (tgt := 64) hx hb dX12_daysIn_59 (by decide) ?_
      have hpost : 30 = f_X12_daysIn p0 p1 := by refine Eq.symm ?_; refine (if_neg c_1).trans ?_; refine (if_pos c_2).trans ?_; rfl
      have hP9 := hP.sub (ws' := []) [] rfl
      have hD9 := hD.sub (ws' := []) [] (by decide) rfl
      have hK9 := hK.sub (tys' := []) [] rfl
      exact W.iret (v := 30) hx hb hr (fun t ht hW => ⟨⟨30, (), rfl, hpost, by rw [ht]; exact hP9, va_K.moved hW.alike hK9, hD9⟩, hS.F ht⟩) hS.2.2 dX12_daysIn_64
    · refine lv_iload_n hx hb dX12_daysIn_39 rfl (lv_at hl 1 rfl) ?_
      refine lv_bipush (v := 6) hx hb dX12_daysIn_40 (by decide) ?_
      refine lv_icmp_eq (tgt := 57) hx hb dX12_daysIn_42 (by decide) (fun c_3 => ?_) (fun c_3 => ?_)
      · refine lv_bipush (v := 30) hx hb dX12_daysIn_57 (by decide) ?_
        refine lv_goto (tgt := 64) hx hb dX12_daysIn_59 (by decide) ?_
        have hpost : 30 = f_X12_daysIn p0 p1 := by refine Eq.symm ?_; refine (if_neg c_1).trans ?_; refine (if_neg c_2).trans ?_; refine (if_pos c_3).trans ?_; rfl
        have hP9 := hP.sub (ws' := []) [] rfl
        have hD9 := hD.sub (ws' := []) [] (by decide) rfl
        have hK9 := hK.sub (tys' := []) [] rfl
        exact W.iret (v := 30) hx hb hr (fun t ht hW => ⟨⟨30, (), rfl, hpost, by rw [ht]; exact hP9, va_K.moved hW.alike hK9, hD9⟩, hS.F ht⟩) hS.2.2 dX12_daysIn_64
      · refine lv_iload_n hx hb dX12_daysIn_45 rfl (lv_at hl 1 rfl) ?_
        refine lv_bipush (v := 9) hx hb dX12_daysIn_46 (by decide) ?_
        refine lv_icmp_eq (tgt := 57) hx hb dX12_daysIn_48 (by decide) (fun c_4 => ?_) (fun c_4 => ?_)
        · refine lv_bipush (v := 30) hx hb dX12_daysIn_57 (by decide) ?_
          refine lv_goto (tgt := 64) hx hb dX12_daysIn_59 (by decide) ?_
          have hpost : 30 = f_X12_daysIn p0 p1 := by refine Eq.symm ?_; refine (if_neg c_1).trans ?_; refine (if_neg c_2).trans ?_; refine (if_neg c_3).trans ?_; refine (if_pos c_4).trans ?_; rfl
          have hP9 := hP.sub (ws' := []) [] rfl
          have hD9 := hD.sub (ws' := []) [] (by decide) rfl
          have hK9 := hK.sub (tys' := []) [] rfl
          exact W.iret (v := 30) hx hb hr (fun t ht hW => ⟨⟨30, (), rfl, hpost, by rw [ht]; exact hP9, va_K.moved hW.alike hK9, hD9⟩, hS.F ht⟩) hS.2.2 dX12_daysIn_64
        · refine lv_iload_n hx hb dX12_daysIn_51 rfl (lv_at hl 1 rfl) ?_
          refine lv_bipush (v := 11) hx hb dX12_daysIn_52 (by decide) ?_
          refine lv_icmp_ne (tgt := 62) hx hb dX12_daysIn_54 (by decide) (fun c_5 => ?_) (fun c_5 => ?_)
          · refine lv_bipush (v := 31) hx hb dX12_daysIn_62 (by decide) ?_
            have hpost : 31 = f_X12_daysIn p0 p1 := by refine Eq.symm ?_; refine (if_neg c_1).trans ?_; refine (if_neg c_2).trans ?_; refine (if_neg c_3).trans ?_; refine (if_neg c_4).trans ?_; refine (if_neg c_5).trans ?_; rfl
            have hP9 := hP.sub (ws' := []) [] rfl
            have hD9 := hD.sub (ws' := []) [] (by decide) rfl
            have hK9 := hK.sub (tys' := []) [] rfl
            exact W.iret (v := 31) hx hb hr (fun t ht hW => ⟨⟨31, (), rfl, hpost, by rw [ht]; exact hP9, va_K.moved hW.alike hK9, hD9⟩, hS.F ht⟩) hS.2.2 dX12_daysIn_64
          · refine lv_bipush (v := 30) hx hb dX12_daysIn_57 (by decide) ?_
            refine lv_goto (tgt := 64) hx hb dX12_daysIn_59 (by decide) ?_
            have hpost : 30 = f_X12_daysIn p0 p1 := by refine Eq.symm ?_; refine (if_neg c_1).trans ?_; refine (if_neg c_2).trans ?_; refine (if_neg c_3).trans ?_; refine (if_neg c_4).trans ?_; refine (if_pos c_5).trans ?_; rfl
            have hP9 := hP.sub (ws' := []) [] rfl
            have hD9 := hD.sub (ws' := []) [] (by decide) rfl
            have hK9 := hK.sub (tys' := []) [] rfl
            exact W.iret (v := 30) hx hb hr (fun t ht hW => ⟨⟨30, (), rfl, hpost, by rw [ht]; exact hP9, va_K.moved hW.alike hK9, hD9⟩, hS.F ht⟩) hS.2.2 dX12_daysIn_64
  · refine lv_iload_n hx hb dX12_daysIn_5 rfl (lv_at hl 0 rfl) ?_
    refine lv_iconst (v := 4) hx hb dX12_daysIn_6 (by decide) ?_
    refine lv_irem hx hb dX12_daysIn_7 (by decide) ?_
    refine lv_if_ne (tgt := 31) hx hb dX12_daysIn_8 (by decide) (fun c_6 => ?_) (fun c_6 => ?_)
    · refine lv_bipush (v := 28) hx hb dX12_daysIn_31 (by decide) ?_
      have hpost : 28 = f_X12_daysIn p0 p1 := by refine Eq.symm ?_; refine (if_pos c_1).trans ?_; refine (if_neg c_6).trans ?_; rfl
      have hP9 := hP.sub (ws' := []) [] rfl
      have hD9 := hD.sub (ws' := []) [] (by decide) rfl
      have hK9 := hK.sub (tys' := []) [] rfl
      exact W.iret (v := 28) hx hb hr (fun t ht hW => ⟨⟨28, (), rfl, hpost, by rw [ht]; exact hP9, va_K.moved hW.alike hK9, hD9⟩, hS.F ht⟩) hS.2.2 dX12_daysIn_33
    · refine lv_iload_n hx hb dX12_daysIn_11 rfl (lv_at hl 0 rfl) ?_
      refine lv_bipush (v := 100) hx hb dX12_daysIn_12 (by decide) ?_
      refine lv_irem hx hb dX12_daysIn_14 (by decide) ?_
      refine lv_if_ne (tgt := 26) hx hb dX12_daysIn_15 (by decide) (fun c_7 => ?_) (fun c_7 => ?_)
      · refine lv_bipush (v := 29) hx hb dX12_daysIn_26 (by decide) ?_
        refine lv_goto (tgt := 33) hx hb dX12_daysIn_28 (by decide) ?_
        have hpost : 29 = f_X12_daysIn p0 p1 := by refine Eq.symm ?_; refine (if_pos c_1).trans ?_; refine (if_pos c_6).trans ?_; refine (if_neg c_7).trans ?_; rfl
        have hP9 := hP.sub (ws' := []) [] rfl
        have hD9 := hD.sub (ws' := []) [] (by decide) rfl
        have hK9 := hK.sub (tys' := []) [] rfl
        exact W.iret (v := 29) hx hb hr (fun t ht hW => ⟨⟨29, (), rfl, hpost, by rw [ht]; exact hP9, va_K.moved hW.alike hK9, hD9⟩, hS.F ht⟩) hS.2.2 dX12_daysIn_33
      · refine lv_iload_n hx hb dX12_daysIn_18 rfl (lv_at hl 0 rfl) ?_
        refine lv_sipush (v := 400) hx hb dX12_daysIn_19 (by decide) ?_
        refine lv_irem hx hb dX12_daysIn_22 (by decide) ?_
        refine lv_if_ne (tgt := 31) hx hb dX12_daysIn_23 (by decide) (fun c_8 => ?_) (fun c_8 => ?_)
        · refine lv_bipush (v := 28) hx hb dX12_daysIn_31 (by decide) ?_
          have hpost : 28 = f_X12_daysIn p0 p1 := by refine Eq.symm ?_; refine (if_pos c_1).trans ?_; refine (if_pos c_6).trans ?_; refine (if_pos c_7).trans ?_; refine (if_neg c_8).trans ?_; rfl
          have hP9 := hP.sub (ws' := []) [] rfl
          have hD9 := hD.sub (ws' := []) [] (by decide) rfl
          have hK9 := hK.sub (tys' := []) [] rfl
          exact W.iret (v := 28) hx hb hr (fun t ht hW => ⟨⟨28, (), rfl, hpost, by rw [ht]; exact hP9, va_K.moved hW.alike hK9, hD9⟩, hS.F ht⟩) hS.2.2 dX12_daysIn_33
        · refine lv_bipush (v := 29) hx hb dX12_daysIn_26 (by decide) ?_
          refine lv_goto (tgt := 33) hx hb dX12_daysIn_28 (by decide) ?_
          have hpost : 29 = f_X12_daysIn p0 p1 := by refine Eq.symm ?_; refine (if_pos c_1).trans ?_; refine (if_pos c_6).trans ?_; refine (if_pos c_7).trans ?_; refine (if_pos c_8).trans ?_; rfl
          have hP9 := hP.sub (ws' := []) [] rfl
          have hD9 := hD.sub (ws' := []) [] (by decide) rfl
          have hK9 := hK.sub (tys' := []) [] rfl
          exact W.iret (v := 29) hx hb hr (fun t ht hW => ⟨⟨29, (), rfl, hpost, by rw [ht]; exact hP9, va_K.moved hW.alike hK9, hD9⟩, hS.F ht⟩) hS.2.2 dX12_daysIn_33
def f_X12_isDate (p0 : Int32) : Int32 :=
  let x_1 : Int32 := (p0 / 10000)
  let x_2 : Int32 := ((p0 / 100) - (p0 / 100) / 100 * 100)
  let r_3 : Int32 := f_X12_in p0 19800101 20791231
  if r_3 = 0 then
    0
  else
    let r_5 : Int32 := f_X12_in x_2 1 12
    if r_5 = 0 then
      0
    else
      let r_7 : Int32 := f_X12_daysIn x_1 x_2
      let r_8 : Int32 := f_X12_in (p0 - p0 / 100 * 100) 1 r_7
      if r_8 = 0 then
        0
      else
        1
set_option maxHeartbeats 4000000 in
set_option maxRecDepth 100000 in
theorem k_X12_isDate (l : Launch) (dC : Nat → ClassId) (dI : Nat → Nat → Nat) (sz : Nat) (p0 : Int32) : Met l yX12_isDate wsX12_isDate ({ frames := 1, cells := 0, slots := 0, locals := 22 }) (va_Pc [.int p0] (fun U => U.heap.size = sz ∧ va_P (dC, dI) vwCl [] U.heap ∧ va_K (dC, dI) vwCl [] U ∧ va_D (fun _ => True) [])) (va_Qi (fun (r : Int32) (_ : Unit) => r = f_X12_isDate p0) (fun _ t => va_P (dC, dI) vwCl [] t.heap ∧ va_K (dC, dI) vwCl [] t ∧ va_D (va_A [] sz) []) (va_A [] sz)) 0 0 (va_A [] sz) := by
  refine Met.ofW (cc := cX12_isDate) (maxL := 3) (ret := (some .boolean)) (by decide) rfl ?_
  intro p e s m args below meth c s₁ B hml hv
  obtain ⟨rfl, hsz, hP, hK, hD0⟩ := hv
  have hx := B.exec
  have hb := B.bytes
  have hr := B.returns
  have hts := atoms_spec (ws := wsX12_isDate) B.pre
  have hown : s.vm.findClass RX12 = some m.cls := findClass_of_methodNamed B.named
  have hlocks := B.notSynchronized
  subst hsz
  have hD := hD0.self (sz := s.heap.size)
  generalize hAe : va_A [] s.heap.size = A at hD ⊢
  have hA : ∀ q : Nat, s.heap.size ≤ q → A q := fun q h => by rw [← hAe]; exact Or.inr h
  have hS : va_S A s.heap s.heap [] := va_S.rf
  have hP : va_P (dC, dI) vwCl [] s.heap := hP
  have hl := lv_entry ([.int p0]) (n := 3) (Nat.le_of_ble_eq_true rfl)
  rw [lg_entry_eq]
  generalize (lg_sl ([.int p0]) ++ List.replicate (3 - (lg_sl ([.int p0])).length) Slot.unset).toArray = ls at hl ⊢
  have hl : lv_has ls 3 [(0, .int p0)] := hl
  refine lv_iload_n hx hb dX12_isDate_0 rfl (lv_at hl 0 rfl) ?_
  refine lv_sipush (v := 10000) hx hb dX12_isDate_1 (by decide) ?_
  refine lv_idiv hx hb dX12_isDate_4 (by decide) ?_
  refine lv_topi (fun x_1 ex_1 => ?_)
  refine lv_istore_n (lv' := [(1, .int x_1), (0, .int p0)]) hx hb dX12_isDate_5 rfl hl (by decide) rfl (fun ls hl => ?_)
  refine lv_iload_n hx hb dX12_isDate_6 rfl (lv_at hl 1 rfl) ?_
  refine lv_bipush (v := 100) hx hb dX12_isDate_7 (by decide) ?_
  refine lv_idiv hx hb dX12_isDate_9 (by decide) ?_
  refine lv_bipush (v := 100) hx hb dX12_isDate_10 (by decide) ?_
  refine lv_irem hx hb dX12_isDate_12 (by decide) ?_
  refine lv_topi (fun x_2 ex_2 => ?_)
  refine lv_istore_n (lv' := [(2, .int x_2), (1, .int x_1), (0, .int p0)]) hx hb dX12_isDate_13 rfl hl (by decide) rfl (fun ls hl => ?_)
  refine lv_iload_n hx hb dX12_isDate_14 rfl (lv_at hl 2 rfl) ?_
  refine lv_ldc (v := 19800101) hx hb hown (hts (.constant RX12 130 (19800101)) (by decide +kernel)) dX12_isDate_15 ?_
  refine lv_ldc (v := 20791231) hx hb hown (hts (.constant RX12 131 (20791231)) (by decide +kernel)) dX12_isDate_17 ?_
  have hPc := hP.sub (ws' := []) [] rfl
  have hDc := hD.sub (ws' := []) [] (by decide) rfl
  have hKc := hK.sub (tys' := []) [] rfl
  have hFc := va_free (wc := []) hD hS hA [] rfl
  refine va_calli (va_runS (As := [.int p0, .int 19800101, .int 20791231]) (rest := []) ⟨hx, hb, hml, hown, hts⟩ (k_X12_in l dC dI s.heap.size p0 19800101 20791231) (va_cwS 3 hts gX12_isDate_X12_in rfl rfl rfl (by decide +kernel) ⟨Nat.le_of_ble_eq_true rfl, Nat.le_of_ble_eq_true rfl⟩) ⟨fun a U g mk q => by obtain ⟨q0, q1, qP, qK, qD⟩ := q; exact ⟨q0, q1, qP, va_K.moved (u := U) (U := U.calling g mk a) (Vm.Alike.refl U.vm) qK, qD⟩, fun U hU hW => ⟨rfl, by rw [hU], by rw [hU]; exact hPc, va_K.moved hW.alike hKc, hDc.weaken (fun _ _ _ _ => trivial)⟩⟩ rfl rfl hl.1 rfl (lv_room (Nat.le_of_ble_eq_true rfl)) dX12_isDate_19 ⟨Nat.le_of_ble_eq_true rfl, Nat.le_of_ble_eq_true rfl⟩) hS (fun q _ h => hFc q h) hFc (fun r_3 u t H1 locs ht hvm hw hB hz1 hk1 hS => ?_)
  obtain ⟨hP1, hK1, hD1⟩ := hB
  rw [ht] at hP1
  have hK1 := va_K.moved hvm.symm hK1
  obtain ⟨hP, hD⟩ := va_join (wr := []) (w1 := []) hP hD [] [] rfl rfl (by decide) (by decide) hk1 hFc hP1 hD1
  generalize H1 = H at hP hS ⊢
  have hP : va_P (dC, dI) vwCl [] H := hP
  have hD : va_D A [] := hD
  have er_3 : r_3 = f_X12_in p0 19800101 20791231 := hw
  refine lv_if_eq (tgt := 55) hx hb dX12_isDate_22 (by decide) (fun c_4 => ?_) (fun c_4 => ?_)
  · refine lv_iconst (v := 0) hx hb dX12_isDate_55 (by decide) ?_
    have hpost : 0 = f_X12_isDate p0 := by subst ex_1 ex_2 er_3; refine Eq.symm ?_; refine (if_pos c_4).trans ?_; rfl
    have hP9 := hP.sub (ws' := []) [] rfl
    have hD9 := hD.sub (ws' := []) [] (by decide) rfl
    have hK9 := hK.sub (tys' := []) [] rfl
    exact W.zret (v := 0) hx hb hr (by decide) (fun t ht hW => ⟨⟨0, (), rfl, hpost, by rw [ht]; exact hP9, va_K.moved hW.alike hK9, hD9⟩, hS.F ht⟩) hS.2.2 dX12_isDate_56
  · refine lv_iload_n hx hb dX12_isDate_25 rfl (lv_at hl 0 rfl) ?_
    refine lv_iconst (v := 1) hx hb dX12_isDate_26 (by decide) ?_
    refine lv_bipush (v := 12) hx hb dX12_isDate_27 (by decide) ?_
    have hPc := hP.sub (ws' := []) [] rfl
    have hDc := hD.sub (ws' := []) [] (by decide) rfl
    have hKc := hK.sub (tys' := []) [] rfl
    have hFc := va_free (wc := []) hD hS hA [] rfl
    refine va_calli (va_runS (As := [.int x_2, .int 1, .int 12]) (rest := []) ⟨hx, hb, hml, hown, hts⟩ (k_X12_in l dC dI H.size x_2 1 12) (va_cwS 3 hts gX12_isDate_X12_in rfl rfl rfl (by decide +kernel) ⟨Nat.le_of_ble_eq_true rfl, Nat.le_of_ble_eq_true rfl⟩) ⟨fun a U g mk q => by obtain ⟨q0, q1, qP, qK, qD⟩ := q; exact ⟨q0, q1, qP, va_K.moved (u := U) (U := U.calling g mk a) (Vm.Alike.refl U.vm) qK, qD⟩, fun U hU hW => ⟨rfl, by rw [hU], by rw [hU]; exact hPc, va_K.moved hW.alike hKc, hDc.weaken (fun _ _ _ _ => trivial)⟩⟩ rfl rfl hl.1 rfl (lv_room (Nat.le_of_ble_eq_true rfl)) dX12_isDate_29 ⟨Nat.le_of_ble_eq_true rfl, Nat.le_of_ble_eq_true rfl⟩) hS (fun q _ h => hFc q h) hFc (fun r_5 u t H1 locs ht hvm hw hB hz1 hk1 hS => ?_)
    obtain ⟨hP1, hK1, hD1⟩ := hB
    rw [ht] at hP1
    have hK1 := va_K.moved hvm.symm hK1
    obtain ⟨hP, hD⟩ := va_join (wr := []) (w1 := []) hP hD [] [] rfl rfl (by decide) (by decide) hk1 hFc hP1 hD1
    generalize H1 = H at hP hS ⊢
    have hP : va_P (dC, dI) vwCl [] H := hP
    have hD : va_D A [] := hD
    have er_5 : r_5 = f_X12_in x_2 1 12 := hw
    refine lv_if_eq (tgt := 55) hx hb dX12_isDate_32 (by decide) (fun c_6 => ?_) (fun c_6 => ?_)
    · refine lv_iconst (v := 0) hx hb dX12_isDate_55 (by decide) ?_
      have hpost : 0 = f_X12_isDate p0 := by subst ex_1 ex_2 er_3 er_5; refine Eq.symm ?_; refine (if_neg c_4).trans ?_; refine (if_pos c_6).trans ?_; rfl
      have hP9 := hP.sub (ws' := []) [] rfl
      have hD9 := hD.sub (ws' := []) [] (by decide) rfl
      have hK9 := hK.sub (tys' := []) [] rfl
      exact W.zret (v := 0) hx hb hr (by decide) (fun t ht hW => ⟨⟨0, (), rfl, hpost, by rw [ht]; exact hP9, va_K.moved hW.alike hK9, hD9⟩, hS.F ht⟩) hS.2.2 dX12_isDate_56
    · refine lv_iload_n hx hb dX12_isDate_35 rfl (lv_at hl 2 rfl) ?_
      refine lv_bipush (v := 100) hx hb dX12_isDate_36 (by decide) ?_
      refine lv_irem hx hb dX12_isDate_38 (by decide) ?_
      refine lv_iconst (v := 1) hx hb dX12_isDate_39 (by decide) ?_
      refine lv_iload_n hx hb dX12_isDate_40 rfl (lv_at hl 1 rfl) ?_
      refine lv_iload_n hx hb dX12_isDate_41 rfl (lv_at hl 0 rfl) ?_
      have hPc := hP.sub (ws' := []) [] rfl
      have hDc := hD.sub (ws' := []) [] (by decide) rfl
      have hKc := hK.sub (tys' := []) [] rfl
      have hFc := va_free (wc := []) hD hS hA [] rfl
      refine va_calli (va_runS (As := [.int x_1, .int x_2]) (rest := [.int 1, .int (p0 - p0 / 100 * 100)]) ⟨hx, hb, hml, hown, hts⟩ (k_X12_daysIn l dC dI H.size x_1 x_2) (va_cwS 2 hts gX12_isDate_X12_daysIn rfl rfl rfl (by decide +kernel) ⟨Nat.le_of_ble_eq_true rfl, Nat.le_of_ble_eq_true rfl⟩) ⟨fun a U g mk q => by obtain ⟨q0, q1, qP, qK, qD⟩ := q; exact ⟨q0, q1, qP, va_K.moved (u := U) (U := U.calling g mk a) (Vm.Alike.refl U.vm) qK, qD⟩, fun U hU hW => ⟨rfl, by rw [hU], by rw [hU]; exact hPc, va_K.moved hW.alike hKc, hDc.weaken (fun _ _ _ _ => trivial)⟩⟩ rfl rfl hl.1 rfl (lv_room (Nat.le_of_ble_eq_true rfl)) dX12_isDate_42 ⟨Nat.le_of_ble_eq_true rfl, Nat.le_of_ble_eq_true rfl⟩) hS (fun q _ h => hFc q h) hFc (fun r_7 u t H1 locs ht hvm hw hB hz1 hk1 hS => ?_)
      obtain ⟨hP1, hK1, hD1⟩ := hB
      rw [ht] at hP1
      have hK1 := va_K.moved hvm.symm hK1
      obtain ⟨hP, hD⟩ := va_join (wr := []) (w1 := []) hP hD [] [] rfl rfl (by decide) (by decide) hk1 hFc hP1 hD1
      generalize H1 = H at hP hS ⊢
      have hP : va_P (dC, dI) vwCl [] H := hP
      have hD : va_D A [] := hD
      have er_7 : r_7 = f_X12_daysIn x_1 x_2 := hw
      have hPc := hP.sub (ws' := []) [] rfl
      have hDc := hD.sub (ws' := []) [] (by decide) rfl
      have hKc := hK.sub (tys' := []) [] rfl
      have hFc := va_free (wc := []) hD hS hA [] rfl
      refine va_calli (va_runS (As := [.int (p0 - p0 / 100 * 100), .int 1, .int r_7]) (rest := []) ⟨hx, hb, hml, hown, hts⟩ (k_X12_in l dC dI H.size (p0 - p0 / 100 * 100) 1 r_7) (va_cwS 3 hts gX12_isDate_X12_in rfl rfl rfl (by decide +kernel) ⟨Nat.le_of_ble_eq_true rfl, Nat.le_of_ble_eq_true rfl⟩) ⟨fun a U g mk q => by obtain ⟨q0, q1, qP, qK, qD⟩ := q; exact ⟨q0, q1, qP, va_K.moved (u := U) (U := U.calling g mk a) (Vm.Alike.refl U.vm) qK, qD⟩, fun U hU hW => ⟨rfl, by rw [hU], by rw [hU]; exact hPc, va_K.moved hW.alike hKc, hDc.weaken (fun _ _ _ _ => trivial)⟩⟩ rfl rfl hl.1 rfl (lv_room (Nat.le_of_ble_eq_true rfl)) dX12_isDate_45 ⟨Nat.le_of_ble_eq_true rfl, Nat.le_of_ble_eq_true rfl⟩) hS (fun q _ h => hFc q h) hFc (fun r_8 u t H1 locs ht hvm hw hB hz1 hk1 hS => ?_)
      obtain ⟨hP1, hK1, hD1⟩ := hB
      rw [ht] at hP1
      have hK1 := va_K.moved hvm.symm hK1
      obtain ⟨hP, hD⟩ := va_join (wr := []) (w1 := []) hP hD [] [] rfl rfl (by decide) (by decide) hk1 hFc hP1 hD1
      generalize H1 = H at hP hS ⊢
      have hP : va_P (dC, dI) vwCl [] H := hP
      have hD : va_D A [] := hD
      have er_8 : r_8 = f_X12_in (p0 - p0 / 100 * 100) 1 r_7 := hw
      refine lv_if_eq (tgt := 55) hx hb dX12_isDate_48 (by decide) (fun c_9 => ?_) (fun c_9 => ?_)
      · refine lv_iconst (v := 0) hx hb dX12_isDate_55 (by decide) ?_
        have hpost : 0 = f_X12_isDate p0 := by subst ex_1 ex_2 er_3 er_5 er_7 er_8; refine Eq.symm ?_; refine (if_neg c_4).trans ?_; refine (if_neg c_6).trans ?_; refine (if_pos c_9).trans ?_; rfl
        have hP9 := hP.sub (ws' := []) [] rfl
        have hD9 := hD.sub (ws' := []) [] (by decide) rfl
        have hK9 := hK.sub (tys' := []) [] rfl
        exact W.zret (v := 0) hx hb hr (by decide) (fun t ht hW => ⟨⟨0, (), rfl, hpost, by rw [ht]; exact hP9, va_K.moved hW.alike hK9, hD9⟩, hS.F ht⟩) hS.2.2 dX12_isDate_56
      · refine lv_iconst (v := 1) hx hb dX12_isDate_51 (by decide) ?_
        refine lv_goto (tgt := 56) hx hb dX12_isDate_52 (by decide) ?_
        have hpost : 1 = f_X12_isDate p0 := by subst ex_1 ex_2 er_3 er_5 er_7 er_8; refine Eq.symm ?_; refine (if_neg c_4).trans ?_; refine (if_neg c_6).trans ?_; refine (if_neg c_9).trans ?_; rfl
        have hP9 := hP.sub (ws' := []) [] rfl
        have hD9 := hD.sub (ws' := []) [] (by decide) rfl
        have hK9 := hK.sub (tys' := []) [] rfl
        exact W.zret (v := 1) hx hb hr (by decide) (fun t ht hW => ⟨⟨1, (), rfl, hpost, by rw [ht]; exact hP9, va_K.moved hW.alike hK9, hD9⟩, hS.F ht⟩) hS.2.2 dX12_isDate_56
def f_X12_march (p0 : Int32) : Int32 :=
  ((((365 * p0) + (p0 / 4)) - (p0 / 100)) + (p0 / 400))
set_option maxHeartbeats 4000000 in
set_option maxRecDepth 100000 in
theorem k_X12_march (l : Launch) (dC : Nat → ClassId) (dI : Nat → Nat → Nat) (sz : Nat) (p0 : Int32) : Met l yX12_march wsX12_march ({ frames := 0, cells := 0, slots := 0, locals := 0 }) (va_Pc [.int p0] (fun U => U.heap.size = sz ∧ va_P (dC, dI) vwCl [] U.heap ∧ va_K (dC, dI) vwCl [] U ∧ va_D (fun _ => True) [])) (va_Qi (fun (r : Int32) (_ : Unit) => r = f_X12_march p0) (fun _ t => va_P (dC, dI) vwCl [] t.heap ∧ va_K (dC, dI) vwCl [] t ∧ va_D (va_A [] sz) []) (va_A [] sz)) 0 0 (va_A [] sz) := by
  refine Met.ofW (cc := cX12_march) (maxL := 1) (ret := (some .int)) (by decide) rfl ?_
  intro p e s m args below meth c s₁ B hml hv
  obtain ⟨rfl, hsz, hP, hK, hD0⟩ := hv
  have hx := B.exec
  have hb := B.bytes
  have hr := B.returns
  have hts := atoms_spec (ws := wsX12_march) B.pre
  have hown : s.vm.findClass RX12 = some m.cls := findClass_of_methodNamed B.named
  have hlocks := B.notSynchronized
  subst hsz
  have hD := hD0.self (sz := s.heap.size)
  generalize hAe : va_A [] s.heap.size = A at hD ⊢
  have hA : ∀ q : Nat, s.heap.size ≤ q → A q := fun q h => by rw [← hAe]; exact Or.inr h
  have hS : va_S A s.heap s.heap [] := va_S.rf
  have hP : va_P (dC, dI) vwCl [] s.heap := hP
  have hl := lv_entry ([.int p0]) (n := 1) (Nat.le_of_ble_eq_true rfl)
  rw [lg_entry_eq]
  generalize (lg_sl ([.int p0]) ++ List.replicate (1 - (lg_sl ([.int p0])).length) Slot.unset).toArray = ls at hl ⊢
  have hl : lv_has ls 1 [(0, .int p0)] := hl
  refine lv_sipush (v := 365) hx hb dX12_march_0 (by decide) ?_
  refine lv_iload_n hx hb dX12_march_3 rfl (lv_at hl 0 rfl) ?_
  refine lv_imul hx hb dX12_march_4 ?_
  refine lv_iload_n hx hb dX12_march_5 rfl (lv_at hl 0 rfl) ?_
  refine lv_iconst (v := 4) hx hb dX12_march_6 (by decide) ?_
  refine lv_idiv hx hb dX12_march_7 (by decide) ?_
  refine lv_iadd hx hb dX12_march_8 ?_
  refine lv_iload_n hx hb dX12_march_9 rfl (lv_at hl 0 rfl) ?_
  refine lv_bipush (v := 100) hx hb dX12_march_10 (by decide) ?_
  refine lv_idiv hx hb dX12_march_12 (by decide) ?_
  refine lv_isub hx hb dX12_march_13 ?_
  refine lv_iload_n hx hb dX12_march_14 rfl (lv_at hl 0 rfl) ?_
  refine lv_sipush (v := 400) hx hb dX12_march_15 (by decide) ?_
  refine lv_idiv hx hb dX12_march_18 (by decide) ?_
  refine lv_iadd hx hb dX12_march_19 ?_
  have hpost : ((((365 * p0) + (p0 / 4)) - (p0 / 100)) + (p0 / 400)) = f_X12_march p0 := by refine Eq.symm ?_; rfl
  have hP9 := hP.sub (ws' := []) [] rfl
  have hD9 := hD.sub (ws' := []) [] (by decide) rfl
  have hK9 := hK.sub (tys' := []) [] rfl
  exact W.iret (v := ((((365 * p0) + (p0 / 4)) - (p0 / 100)) + (p0 / 400))) hx hb hr (fun t ht hW => ⟨⟨((((365 * p0) + (p0 / 4)) - (p0 / 100)) + (p0 / 400)), (), rfl, hpost, by rw [ht]; exact hP9, va_K.moved hW.alike hK9, hD9⟩, hS.F ht⟩) hS.2.2 dX12_march_20
def f_X12_dayOf (p0 : Int32) : Int32 :=
  let x_1 : Int32 := ((p0 / 100) - (p0 / 100) / 100 * 100)
  if 3 ≤ x_1 then
    let x_3 : Int32 := (p0 / 10000)
    let x_5 : Int32 := (x_1 - 3)
    let r_6 : Int32 := f_X12_march x_3
    (((r_6 + (((153 * x_5) + 2) / 5)) + (p0 - p0 / 100 * 100)) - 1)
  else
    let x_7 : Int32 := ((p0 / 10000) - 1)
    let x_9 : Int32 := (x_1 + 9)
    let r_10 : Int32 := f_X12_march x_7
    (((r_10 + (((153 * x_9) + 2) / 5)) + (p0 - p0 / 100 * 100)) - 1)
set_option maxHeartbeats 4000000 in
set_option maxRecDepth 100000 in
theorem k_X12_dayOf (l : Launch) (dC : Nat → ClassId) (dI : Nat → Nat → Nat) (sz : Nat) (p0 : Int32) : Met l yX12_dayOf wsX12_dayOf ({ frames := 1, cells := 0, slots := 0, locals := 20 }) (va_Pc [.int p0] (fun U => U.heap.size = sz ∧ va_P (dC, dI) vwCl [] U.heap ∧ va_K (dC, dI) vwCl [] U ∧ va_D (fun _ => True) [])) (va_Qi (fun (r : Int32) (_ : Unit) => r = f_X12_dayOf p0) (fun _ t => va_P (dC, dI) vwCl [] t.heap ∧ va_K (dC, dI) vwCl [] t ∧ va_D (va_A [] sz) []) (va_A [] sz)) 0 0 (va_A [] sz) := by
  refine Met.ofW (cc := cX12_dayOf) (maxL := 4) (ret := (some .int)) (by decide) rfl ?_
  intro p e s m args below meth c s₁ B hml hv
  obtain ⟨rfl, hsz, hP, hK, hD0⟩ := hv
  have hx := B.exec
  have hb := B.bytes
  have hr := B.returns
  have hts := atoms_spec (ws := wsX12_dayOf) B.pre
  have hown : s.vm.findClass RX12 = some m.cls := findClass_of_methodNamed B.named
  have hlocks := B.notSynchronized
  subst hsz
  have hD := hD0.self (sz := s.heap.size)
  generalize hAe : va_A [] s.heap.size = A at hD ⊢
  have hA : ∀ q : Nat, s.heap.size ≤ q → A q := fun q h => by rw [← hAe]; exact Or.inr h
  have hS : va_S A s.heap s.heap [] := va_S.rf
  have hP : va_P (dC, dI) vwCl [] s.heap := hP
  have hl := lv_entry ([.int p0]) (n := 4) (Nat.le_of_ble_eq_true rfl)
  rw [lg_entry_eq]
  generalize (lg_sl ([.int p0]) ++ List.replicate (4 - (lg_sl ([.int p0])).length) Slot.unset).toArray = ls at hl ⊢
  have hl : lv_has ls 4 [(0, .int p0)] := hl
  refine lv_iload_n hx hb dX12_dayOf_0 rfl (lv_at hl 0 rfl) ?_
  refine lv_bipush (v := 100) hx hb dX12_dayOf_1 (by decide) ?_
  refine lv_idiv hx hb dX12_dayOf_3 (by decide) ?_
  refine lv_bipush (v := 100) hx hb dX12_dayOf_4 (by decide) ?_
  refine lv_irem hx hb dX12_dayOf_6 (by decide) ?_
  refine lv_topi (fun x_1 ex_1 => ?_)
  refine lv_istore_n (lv' := [(1, .int x_1), (0, .int p0)]) hx hb dX12_dayOf_7 rfl hl (by decide) rfl (fun ls hl => ?_)
  refine lv_iload_n hx hb dX12_dayOf_8 rfl (lv_at hl 0 rfl) ?_
  refine lv_iconst (v := 3) hx hb dX12_dayOf_9 (by decide) ?_
  refine lv_icmp_ge (tgt := 23) hx hb dX12_dayOf_10 (by decide) (fun c_2 => ?_) (fun c_2 => ?_)
  · refine lv_iload_n hx hb dX12_dayOf_23 rfl (lv_at hl 1 rfl) ?_
    refine lv_sipush (v := 10000) hx hb dX12_dayOf_24 (by decide) ?_
    refine lv_idiv hx hb dX12_dayOf_27 (by decide) ?_
    refine lv_topi (fun x_3 ex_3 => ?_)
    refine lv_istore_n (lv' := [(2, .int x_3), (1, .int x_1), (0, .int p0)]) hx hb dX12_dayOf_28 rfl hl (by decide) rfl (fun ls hl => ?_)
    refine lv_iload_n hx hb dX12_dayOf_29 rfl (lv_at hl 1 rfl) ?_
    refine lv_iconst (v := 3) hx hb dX12_dayOf_30 (by decide) ?_
    refine lv_icmp_ge (tgt := 41) hx hb dX12_dayOf_31 (by decide) (fun c_4 => ?_) (fun c_4 => ?_)
    · refine lv_iload_n hx hb dX12_dayOf_41 rfl (lv_at hl 1 rfl) ?_
      refine lv_iconst (v := 3) hx hb dX12_dayOf_42 (by decide) ?_
      refine lv_isub hx hb dX12_dayOf_43 ?_
      refine lv_topi (fun x_5 ex_5 => ?_)
      refine lv_istore_n (lv' := [(3, .int x_5), (2, .int x_3), (1, .int x_1), (0, .int p0)]) hx hb dX12_dayOf_44 rfl hl (by decide) rfl (fun ls hl => ?_)
      refine lv_iload_n hx hb dX12_dayOf_45 rfl (lv_at hl 1 rfl) ?_
      have hPc := hP.sub (ws' := []) [] rfl
      have hDc := hD.sub (ws' := []) [] (by decide) rfl
      have hKc := hK.sub (tys' := []) [] rfl
      have hFc := va_free (wc := []) hD hS hA [] rfl
      refine va_calli (va_runS (As := [.int x_3]) (rest := []) ⟨hx, hb, hml, hown, hts⟩ (k_X12_march l dC dI s.heap.size x_3) (va_cwS 1 hts gX12_dayOf_X12_march rfl rfl rfl (by decide +kernel) ⟨Nat.le_of_ble_eq_true rfl, Nat.le_of_ble_eq_true rfl⟩) ⟨fun a U g mk q => by obtain ⟨q0, q1, qP, qK, qD⟩ := q; exact ⟨q0, q1, qP, va_K.moved (u := U) (U := U.calling g mk a) (Vm.Alike.refl U.vm) qK, qD⟩, fun U hU hW => ⟨rfl, by rw [hU], by rw [hU]; exact hPc, va_K.moved hW.alike hKc, hDc.weaken (fun _ _ _ _ => trivial)⟩⟩ rfl rfl hl.1 rfl (lv_room (Nat.le_of_ble_eq_true rfl)) dX12_dayOf_46 ⟨Nat.le_of_ble_eq_true rfl, Nat.le_of_ble_eq_true rfl⟩) hS (fun q _ h => hFc q h) hFc (fun r_6 u t H1 locs ht hvm hw hB hz1 hk1 hS => ?_)
      obtain ⟨hP1, hK1, hD1⟩ := hB
      rw [ht] at hP1
      have hK1 := va_K.moved hvm.symm hK1
      obtain ⟨hP, hD⟩ := va_join (wr := []) (w1 := []) hP hD [] [] rfl rfl (by decide) (by decide) hk1 hFc hP1 hD1
      generalize H1 = H at hP hS ⊢
      have hP : va_P (dC, dI) vwCl [] H := hP
      have hD : va_D A [] := hD
      have er_6 : r_6 = f_X12_march x_3 := hw
      refine lv_sipush (v := 153) hx hb dX12_dayOf_49 (by decide) ?_
      refine lv_iload_n hx hb dX12_dayOf_52 rfl (lv_at hl 0 rfl) ?_
      refine lv_imul hx hb dX12_dayOf_53 ?_
      refine lv_iconst (v := 2) hx hb dX12_dayOf_54 (by decide) ?_
      refine lv_iadd hx hb dX12_dayOf_55 ?_
      refine lv_iconst (v := 5) hx hb dX12_dayOf_56 (by decide) ?_
      refine lv_idiv hx hb dX12_dayOf_57 (by decide) ?_
      refine lv_iadd hx hb dX12_dayOf_58 ?_
      refine lv_iload_n hx hb dX12_dayOf_59 rfl (lv_at hl 3 rfl) ?_
      refine lv_bipush (v := 100) hx hb dX12_dayOf_60 (by decide) ?_
      refine lv_irem hx hb dX12_dayOf_62 (by decide) ?_
      refine lv_iadd hx hb dX12_dayOf_63 ?_
      refine lv_iconst (v := 1) hx hb dX12_dayOf_64 (by decide) ?_
      refine lv_isub hx hb dX12_dayOf_65 ?_
      have hpost : (((r_6 + (((153 * x_5) + 2) / 5)) + (p0 - p0 / 100 * 100)) - 1) = f_X12_dayOf p0 := by subst ex_1 ex_3 ex_5 er_6; refine Eq.symm ?_; refine (if_pos c_2).trans ?_; rfl
      have hP9 := hP.sub (ws' := []) [] rfl
      have hD9 := hD.sub (ws' := []) [] (by decide) rfl
      have hK9 := hK.sub (tys' := []) [] rfl
      exact W.iret (v := (((r_6 + (((153 * x_5) + 2) / 5)) + (p0 - p0 / 100 * 100)) - 1)) hx hb hr (fun t ht hW => ⟨⟨(((r_6 + (((153 * x_5) + 2) / 5)) + (p0 - p0 / 100 * 100)) - 1), (), rfl, hpost, by rw [ht]; exact hP9, va_K.moved hW.alike hK9, hD9⟩, hS.F ht⟩) hS.2.2 dX12_dayOf_66
    · exact absurd c_2 c_4
  · refine lv_iload_n hx hb dX12_dayOf_13 rfl (lv_at hl 1 rfl) ?_
    refine lv_sipush (v := 10000) hx hb dX12_dayOf_14 (by decide) ?_
    refine lv_idiv hx hb dX12_dayOf_17 (by decide) ?_
    refine lv_iconst (v := 1) hx hb dX12_dayOf_18 (by decide) ?_
    refine lv_isub hx hb dX12_dayOf_19 ?_
    refine lv_goto (tgt := 28) hx hb dX12_dayOf_20 (by decide) ?_
    refine lv_topi (fun x_7 ex_7 => ?_)
    refine lv_istore_n (lv' := [(2, .int x_7), (1, .int x_1), (0, .int p0)]) hx hb dX12_dayOf_28 rfl hl (by decide) rfl (fun ls hl => ?_)
    refine lv_iload_n hx hb dX12_dayOf_29 rfl (lv_at hl 1 rfl) ?_
    refine lv_iconst (v := 3) hx hb dX12_dayOf_30 (by decide) ?_
    refine lv_icmp_ge (tgt := 41) hx hb dX12_dayOf_31 (by decide) (fun c_8 => ?_) (fun c_8 => ?_)
    · exact absurd c_8 c_2
    · refine lv_iload_n hx hb dX12_dayOf_34 rfl (lv_at hl 1 rfl) ?_
      refine lv_bipush (v := 9) hx hb dX12_dayOf_35 (by decide) ?_
      refine lv_iadd hx hb dX12_dayOf_37 ?_
      refine lv_goto (tgt := 44) hx hb dX12_dayOf_38 (by decide) ?_
      refine lv_topi (fun x_9 ex_9 => ?_)
      refine lv_istore_n (lv' := [(3, .int x_9), (2, .int x_7), (1, .int x_1), (0, .int p0)]) hx hb dX12_dayOf_44 rfl hl (by decide) rfl (fun ls hl => ?_)
      refine lv_iload_n hx hb dX12_dayOf_45 rfl (lv_at hl 1 rfl) ?_
      have hPc := hP.sub (ws' := []) [] rfl
      have hDc := hD.sub (ws' := []) [] (by decide) rfl
      have hKc := hK.sub (tys' := []) [] rfl
      have hFc := va_free (wc := []) hD hS hA [] rfl
      refine va_calli (va_runS (As := [.int x_7]) (rest := []) ⟨hx, hb, hml, hown, hts⟩ (k_X12_march l dC dI s.heap.size x_7) (va_cwS 1 hts gX12_dayOf_X12_march rfl rfl rfl (by decide +kernel) ⟨Nat.le_of_ble_eq_true rfl, Nat.le_of_ble_eq_true rfl⟩) ⟨fun a U g mk q => by obtain ⟨q0, q1, qP, qK, qD⟩ := q; exact ⟨q0, q1, qP, va_K.moved (u := U) (U := U.calling g mk a) (Vm.Alike.refl U.vm) qK, qD⟩, fun U hU hW => ⟨rfl, by rw [hU], by rw [hU]; exact hPc, va_K.moved hW.alike hKc, hDc.weaken (fun _ _ _ _ => trivial)⟩⟩ rfl rfl hl.1 rfl (lv_room (Nat.le_of_ble_eq_true rfl)) dX12_dayOf_46 ⟨Nat.le_of_ble_eq_true rfl, Nat.le_of_ble_eq_true rfl⟩) hS (fun q _ h => hFc q h) hFc (fun r_10 u t H1 locs ht hvm hw hB hz1 hk1 hS => ?_)
      obtain ⟨hP1, hK1, hD1⟩ := hB
      rw [ht] at hP1
      have hK1 := va_K.moved hvm.symm hK1
      obtain ⟨hP, hD⟩ := va_join (wr := []) (w1 := []) hP hD [] [] rfl rfl (by decide) (by decide) hk1 hFc hP1 hD1
      generalize H1 = H at hP hS ⊢
      have hP : va_P (dC, dI) vwCl [] H := hP
      have hD : va_D A [] := hD
      have er_10 : r_10 = f_X12_march x_7 := hw
      refine lv_sipush (v := 153) hx hb dX12_dayOf_49 (by decide) ?_
      refine lv_iload_n hx hb dX12_dayOf_52 rfl (lv_at hl 0 rfl) ?_
      refine lv_imul hx hb dX12_dayOf_53 ?_
      refine lv_iconst (v := 2) hx hb dX12_dayOf_54 (by decide) ?_
      refine lv_iadd hx hb dX12_dayOf_55 ?_
      refine lv_iconst (v := 5) hx hb dX12_dayOf_56 (by decide) ?_
      refine lv_idiv hx hb dX12_dayOf_57 (by decide) ?_
      refine lv_iadd hx hb dX12_dayOf_58 ?_
      refine lv_iload_n hx hb dX12_dayOf_59 rfl (lv_at hl 3 rfl) ?_
      refine lv_bipush (v := 100) hx hb dX12_dayOf_60 (by decide) ?_
      refine lv_irem hx hb dX12_dayOf_62 (by decide) ?_
      refine lv_iadd hx hb dX12_dayOf_63 ?_
      refine lv_iconst (v := 1) hx hb dX12_dayOf_64 (by decide) ?_
      refine lv_isub hx hb dX12_dayOf_65 ?_
      have hpost : (((r_10 + (((153 * x_9) + 2) / 5)) + (p0 - p0 / 100 * 100)) - 1) = f_X12_dayOf p0 := by subst ex_1 ex_7 ex_9 er_10; refine Eq.symm ?_; refine (if_neg c_2).trans ?_; rfl
      have hP9 := hP.sub (ws' := []) [] rfl
      have hD9 := hD.sub (ws' := []) [] (by decide) rfl
      have hK9 := hK.sub (tys' := []) [] rfl
      exact W.iret (v := (((r_10 + (((153 * x_9) + 2) / 5)) + (p0 - p0 / 100 * 100)) - 1)) hx hb hr (fun t ht hW => ⟨⟨(((r_10 + (((153 * x_9) + 2) / 5)) + (p0 - p0 / 100 * 100)) - 1), (), rfl, hpost, by rw [ht]; exact hP9, va_K.moved hW.alike hK9, hD9⟩, hS.F ht⟩) hS.2.2 dX12_dayOf_66
def f_X12_isMonthEnd (p0 : Int32) : Int32 :=
  let r_1 : Int32 := f_X12_daysIn (p0 / 10000) ((p0 / 100) - (p0 / 100) / 100 * 100)
  if (p0 - p0 / 100 * 100) = r_1 then
    1
  else
    0
set_option maxHeartbeats 4000000 in
set_option maxRecDepth 100000 in
theorem k_X12_isMonthEnd (l : Launch) (dC : Nat → ClassId) (dI : Nat → Nat → Nat) (sz : Nat) (p0 : Int32) : Met l yX12_isMonthEnd wsX12_isMonthEnd ({ frames := 1, cells := 0, slots := 0, locals := 21 }) (va_Pc [.int p0] (fun U => U.heap.size = sz ∧ va_P (dC, dI) vwCl [] U.heap ∧ va_K (dC, dI) vwCl [] U ∧ va_D (fun _ => True) [])) (va_Qi (fun (r : Int32) (_ : Unit) => r = f_X12_isMonthEnd p0) (fun _ t => va_P (dC, dI) vwCl [] t.heap ∧ va_K (dC, dI) vwCl [] t ∧ va_D (va_A [] sz) []) (va_A [] sz)) 0 0 (va_A [] sz) := by
  refine Met.ofW (cc := cX12_isMonthEnd) (maxL := 1) (ret := (some .boolean)) (by decide) rfl ?_
  intro p e s m args below meth c s₁ B hml hv
  obtain ⟨rfl, hsz, hP, hK, hD0⟩ := hv
  have hx := B.exec
  have hb := B.bytes
  have hr := B.returns
  have hts := atoms_spec (ws := wsX12_isMonthEnd) B.pre
  have hown : s.vm.findClass RX12 = some m.cls := findClass_of_methodNamed B.named
  have hlocks := B.notSynchronized
  subst hsz
  have hD := hD0.self (sz := s.heap.size)
  generalize hAe : va_A [] s.heap.size = A at hD ⊢
  have hA : ∀ q : Nat, s.heap.size ≤ q → A q := fun q h => by rw [← hAe]; exact Or.inr h
  have hS : va_S A s.heap s.heap [] := va_S.rf
  have hP : va_P (dC, dI) vwCl [] s.heap := hP
  have hl := lv_entry ([.int p0]) (n := 1) (Nat.le_of_ble_eq_true rfl)
  rw [lg_entry_eq]
  generalize (lg_sl ([.int p0]) ++ List.replicate (1 - (lg_sl ([.int p0])).length) Slot.unset).toArray = ls at hl ⊢
  have hl : lv_has ls 1 [(0, .int p0)] := hl
  refine lv_iload_n hx hb dX12_isMonthEnd_0 rfl (lv_at hl 0 rfl) ?_
  refine lv_bipush (v := 100) hx hb dX12_isMonthEnd_1 (by decide) ?_
  refine lv_irem hx hb dX12_isMonthEnd_3 (by decide) ?_
  refine lv_iload_n hx hb dX12_isMonthEnd_4 rfl (lv_at hl 0 rfl) ?_
  refine lv_sipush (v := 10000) hx hb dX12_isMonthEnd_5 (by decide) ?_
  refine lv_idiv hx hb dX12_isMonthEnd_8 (by decide) ?_
  refine lv_iload_n hx hb dX12_isMonthEnd_9 rfl (lv_at hl 0 rfl) ?_
  refine lv_bipush (v := 100) hx hb dX12_isMonthEnd_10 (by decide) ?_
  refine lv_idiv hx hb dX12_isMonthEnd_12 (by decide) ?_
  refine lv_bipush (v := 100) hx hb dX12_isMonthEnd_13 (by decide) ?_
  refine lv_irem hx hb dX12_isMonthEnd_15 (by decide) ?_
  have hPc := hP.sub (ws' := []) [] rfl
  have hDc := hD.sub (ws' := []) [] (by decide) rfl
  have hKc := hK.sub (tys' := []) [] rfl
  have hFc := va_free (wc := []) hD hS hA [] rfl
  refine va_calli (va_runS (As := [.int (p0 / 10000), .int ((p0 / 100) - (p0 / 100) / 100 * 100)]) (rest := [.int (p0 - p0 / 100 * 100)]) ⟨hx, hb, hml, hown, hts⟩ (k_X12_daysIn l dC dI s.heap.size (p0 / 10000) ((p0 / 100) - (p0 / 100) / 100 * 100)) (va_cwS 2 hts gX12_isMonthEnd_X12_daysIn rfl rfl rfl (by decide +kernel) ⟨Nat.le_of_ble_eq_true rfl, Nat.le_of_ble_eq_true rfl⟩) ⟨fun a U g mk q => by obtain ⟨q0, q1, qP, qK, qD⟩ := q; exact ⟨q0, q1, qP, va_K.moved (u := U) (U := U.calling g mk a) (Vm.Alike.refl U.vm) qK, qD⟩, fun U hU hW => ⟨rfl, by rw [hU], by rw [hU]; exact hPc, va_K.moved hW.alike hKc, hDc.weaken (fun _ _ _ _ => trivial)⟩⟩ rfl rfl hl.1 rfl (lv_room (Nat.le_of_ble_eq_true rfl)) dX12_isMonthEnd_16 ⟨Nat.le_of_ble_eq_true rfl, Nat.le_of_ble_eq_true rfl⟩) hS (fun q _ h => hFc q h) hFc (fun r_1 u t H1 locs ht hvm hw hB hz1 hk1 hS => ?_)
  obtain ⟨hP1, hK1, hD1⟩ := hB
  rw [ht] at hP1
  have hK1 := va_K.moved hvm.symm hK1
  obtain ⟨hP, hD⟩ := va_join (wr := []) (w1 := []) hP hD [] [] rfl rfl (by decide) (by decide) hk1 hFc hP1 hD1
  generalize H1 = H at hP hS ⊢
  have hP : va_P (dC, dI) vwCl [] H := hP
  have hD : va_D A [] := hD
  have er_1 : r_1 = f_X12_daysIn (p0 / 10000) ((p0 / 100) - (p0 / 100) / 100 * 100) := hw
  refine lv_icmp_ne (tgt := 26) hx hb dX12_isMonthEnd_19 (by decide) (fun c_2 => ?_) (fun c_2 => ?_)
  · refine lv_iconst (v := 0) hx hb dX12_isMonthEnd_26 (by decide) ?_
    have hpost : 0 = f_X12_isMonthEnd p0 := by subst er_1; refine Eq.symm ?_; refine (if_neg c_2).trans ?_; rfl
    have hP9 := hP.sub (ws' := []) [] rfl
    have hD9 := hD.sub (ws' := []) [] (by decide) rfl
    have hK9 := hK.sub (tys' := []) [] rfl
    exact W.zret (v := 0) hx hb hr (by decide) (fun t ht hW => ⟨⟨0, (), rfl, hpost, by rw [ht]; exact hP9, va_K.moved hW.alike hK9, hD9⟩, hS.F ht⟩) hS.2.2 dX12_isMonthEnd_27
  · refine lv_iconst (v := 1) hx hb dX12_isMonthEnd_22 (by decide) ?_
    refine lv_goto (tgt := 27) hx hb dX12_isMonthEnd_23 (by decide) ?_
    have hpost : 1 = f_X12_isMonthEnd p0 := by subst er_1; refine Eq.symm ?_; refine (if_pos c_2).trans ?_; rfl
    have hP9 := hP.sub (ws' := []) [] rfl
    have hD9 := hD.sub (ws' := []) [] (by decide) rfl
    have hK9 := hK.sub (tys' := []) [] rfl
    exact W.zret (v := 1) hx hb hr (by decide) (fun t ht hW => ⟨⟨1, (), rfl, hpost, by rw [ht]; exact hP9, va_K.moved hW.alike hK9, hD9⟩, hS.F ht⟩) hS.2.2 dX12_isMonthEnd_27
def f_X12_monthsFrom (p0 : Int32) (p1 : Int32) (p2 : Int32) : Int32 :=
  let x_1 : Int32 := (((((p0 / 10000) * 12) + ((p0 / 100) - (p0 / 100) / 100 * 100)) - 1) + p1)
  let r_2 : Int32 := f_X12_daysIn (x_1 / 12) ((x_1 - x_1 / 12 * 12) + 1)
  if p2 = 0 then
    if (p0 - p0 / 100 * 100) ≤ r_2 then
      let x_5 : Int32 := (p0 - p0 / 100 * 100)
      ((((x_1 / 12) * 10000) + (((x_1 - x_1 / 12 * 12) + 1) * 100)) + x_5)
    else
      ((((x_1 / 12) * 10000) + (((x_1 - x_1 / 12 * 12) + 1) * 100)) + r_2)
  else
    ((((x_1 / 12) * 10000) + (((x_1 - x_1 / 12 * 12) + 1) * 100)) + r_2)
set_option maxHeartbeats 4000000 in
set_option maxRecDepth 100000 in
theorem k_X12_monthsFrom (l : Launch) (dC : Nat → ClassId) (dI : Nat → Nat → Nat) (sz : Nat) (p0 : Int32) (p1 : Int32) (p2 : Int32) : Met l yX12_monthsFrom wsX12_monthsFrom ({ frames := 1, cells := 0, slots := 0, locals := 21 }) (va_Pc [.int p0, .int p1, .int p2] (fun U => U.heap.size = sz ∧ va_P (dC, dI) vwCl [] U.heap ∧ va_K (dC, dI) vwCl [] U ∧ va_D (fun _ => True) [])) (va_Qi (fun (r : Int32) (_ : Unit) => r = f_X12_monthsFrom p0 p1 p2) (fun _ t => va_P (dC, dI) vwCl [] t.heap ∧ va_K (dC, dI) vwCl [] t ∧ va_D (va_A [] sz) []) (va_A [] sz)) 0 0 (va_A [] sz) := by
  refine Met.ofW (cc := cX12_monthsFrom) (maxL := 6) (ret := (some .int)) (by decide) rfl ?_
  intro p e s m args below meth c s₁ B hml hv
  obtain ⟨rfl, hsz, hP, hK, hD0⟩ := hv
  have hx := B.exec
  have hb := B.bytes
  have hr := B.returns
  have hts := atoms_spec (ws := wsX12_monthsFrom) B.pre
  have hown : s.vm.findClass RX12 = some m.cls := findClass_of_methodNamed B.named
  have hlocks := B.notSynchronized
  subst hsz
  have hD := hD0.self (sz := s.heap.size)
  generalize hAe : va_A [] s.heap.size = A at hD ⊢
  have hA : ∀ q : Nat, s.heap.size ≤ q → A q := fun q h => by rw [← hAe]; exact Or.inr h
  have hS : va_S A s.heap s.heap [] := va_S.rf
  have hP : va_P (dC, dI) vwCl [] s.heap := hP
  have hl := lv_entry ([.int p0, .int p1, .int p2]) (n := 6) (Nat.le_of_ble_eq_true rfl)
  rw [lg_entry_eq]
  generalize (lg_sl ([.int p0, .int p1, .int p2]) ++ List.replicate (6 - (lg_sl ([.int p0, .int p1, .int p2])).length) Slot.unset).toArray = ls at hl ⊢
  have hl : lv_has ls 6 [(0, .int p0), (1, .int p1), (2, .int p2)] := hl
  refine lv_iload_n hx hb dX12_monthsFrom_0 rfl (lv_at hl 0 rfl) ?_
  refine lv_sipush (v := 10000) hx hb dX12_monthsFrom_1 (by decide) ?_
  refine lv_idiv hx hb dX12_monthsFrom_4 (by decide) ?_
  refine lv_bipush (v := 12) hx hb dX12_monthsFrom_5 (by decide) ?_
  refine lv_imul hx hb dX12_monthsFrom_7 ?_
  refine lv_iload_n hx hb dX12_monthsFrom_8 rfl (lv_at hl 0 rfl) ?_
  refine lv_bipush (v := 100) hx hb dX12_monthsFrom_9 (by decide) ?_
  refine lv_idiv hx hb dX12_monthsFrom_11 (by decide) ?_
  refine lv_bipush (v := 100) hx hb dX12_monthsFrom_12 (by decide) ?_
  refine lv_irem hx hb dX12_monthsFrom_14 (by decide) ?_
  refine lv_iadd hx hb dX12_monthsFrom_15 ?_
  refine lv_iconst (v := 1) hx hb dX12_monthsFrom_16 (by decide) ?_
  refine lv_isub hx hb dX12_monthsFrom_17 ?_
  refine lv_iload_n hx hb dX12_monthsFrom_18 rfl (lv_at hl 1 rfl) ?_
  refine lv_iadd hx hb dX12_monthsFrom_19 ?_
  refine lv_topi (fun x_1 ex_1 => ?_)
  refine lv_istore_n (lv' := [(3, .int x_1), (0, .int p0), (1, .int p1), (2, .int p2)]) hx hb dX12_monthsFrom_20 rfl hl (by decide) rfl (fun ls hl => ?_)
  refine lv_iload_n hx hb dX12_monthsFrom_21 rfl (lv_at hl 0 rfl) ?_
  refine lv_bipush (v := 12) hx hb dX12_monthsFrom_22 (by decide) ?_
  refine lv_idiv hx hb dX12_monthsFrom_24 (by decide) ?_
  refine lv_iload_n hx hb dX12_monthsFrom_25 rfl (lv_at hl 0 rfl) ?_
  refine lv_bipush (v := 12) hx hb dX12_monthsFrom_26 (by decide) ?_
  refine lv_irem hx hb dX12_monthsFrom_28 (by decide) ?_
  refine lv_iconst (v := 1) hx hb dX12_monthsFrom_29 (by decide) ?_
  refine lv_iadd hx hb dX12_monthsFrom_30 ?_
  have hPc := hP.sub (ws' := []) [] rfl
  have hDc := hD.sub (ws' := []) [] (by decide) rfl
  have hKc := hK.sub (tys' := []) [] rfl
  have hFc := va_free (wc := []) hD hS hA [] rfl
  refine va_calli (va_runS (As := [.int (x_1 / 12), .int ((x_1 - x_1 / 12 * 12) + 1)]) (rest := []) ⟨hx, hb, hml, hown, hts⟩ (k_X12_daysIn l dC dI s.heap.size (x_1 / 12) ((x_1 - x_1 / 12 * 12) + 1)) (va_cwS 2 hts gX12_monthsFrom_X12_daysIn rfl rfl rfl (by decide +kernel) ⟨Nat.le_of_ble_eq_true rfl, Nat.le_of_ble_eq_true rfl⟩) ⟨fun a U g mk q => by obtain ⟨q0, q1, qP, qK, qD⟩ := q; exact ⟨q0, q1, qP, va_K.moved (u := U) (U := U.calling g mk a) (Vm.Alike.refl U.vm) qK, qD⟩, fun U hU hW => ⟨rfl, by rw [hU], by rw [hU]; exact hPc, va_K.moved hW.alike hKc, hDc.weaken (fun _ _ _ _ => trivial)⟩⟩ rfl rfl hl.1 rfl (lv_room (Nat.le_of_ble_eq_true rfl)) dX12_monthsFrom_31 ⟨Nat.le_of_ble_eq_true rfl, Nat.le_of_ble_eq_true rfl⟩) hS (fun q _ h => hFc q h) hFc (fun r_2 u t H1 locs ht hvm hw hB hz1 hk1 hS => ?_)
  obtain ⟨hP1, hK1, hD1⟩ := hB
  rw [ht] at hP1
  have hK1 := va_K.moved hvm.symm hK1
  obtain ⟨hP, hD⟩ := va_join (wr := []) (w1 := []) hP hD [] [] rfl rfl (by decide) (by decide) hk1 hFc hP1 hD1
  generalize H1 = H at hP hS ⊢
  have hP : va_P (dC, dI) vwCl [] H := hP
  have hD : va_D A [] := hD
  have er_2 : r_2 = f_X12_daysIn (x_1 / 12) ((x_1 - x_1 / 12 * 12) + 1) := hw
  refine lv_istore (lv' := [(4, .int r_2), (3, .int x_1), (0, .int p0), (1, .int p1), (2, .int p2)]) hx hb dX12_monthsFrom_34 hl (by decide) rfl (fun ls hl => ?_)
  refine lv_iload_n hx hb dX12_monthsFrom_36 rfl (lv_at hl 4 rfl) ?_
  refine lv_if_ne (tgt := 49) hx hb dX12_monthsFrom_37 (by decide) (fun c_3 => ?_) (fun c_3 => ?_)
  · refine lv_iload hx hb dX12_monthsFrom_49 (lv_at hl 0 rfl) ?_
    refine lv_goto (tgt := 58) hx hb dX12_monthsFrom_51 (by decide) ?_
    refine lv_istore (lv' := [(5, .int r_2), (4, .int r_2), (3, .int x_1), (0, .int p0), (1, .int p1), (2, .int p2)]) hx hb dX12_monthsFrom_58 hl (by decide) rfl (fun ls hl => ?_)
    refine lv_iload_n hx hb dX12_monthsFrom_60 rfl (lv_at hl 2 rfl) ?_
    refine lv_bipush (v := 12) hx hb dX12_monthsFrom_61 (by decide) ?_
    refine lv_idiv hx hb dX12_monthsFrom_63 (by decide) ?_
    refine lv_sipush (v := 10000) hx hb dX12_monthsFrom_64 (by decide) ?_
    refine lv_imul hx hb dX12_monthsFrom_67 ?_
    refine lv_iload_n hx hb dX12_monthsFrom_68 rfl (lv_at hl 2 rfl) ?_
    refine lv_bipush (v := 12) hx hb dX12_monthsFrom_69 (by decide) ?_
    refine lv_irem hx hb dX12_monthsFrom_71 (by decide) ?_
    refine lv_iconst (v := 1) hx hb dX12_monthsFrom_72 (by decide) ?_
    refine lv_iadd hx hb dX12_monthsFrom_73 ?_
    refine lv_bipush (v := 100) hx hb dX12_monthsFrom_74 (by decide) ?_
    refine lv_imul hx hb dX12_monthsFrom_76 ?_
    refine lv_iadd hx hb dX12_monthsFrom_77 ?_
    refine lv_iload hx hb dX12_monthsFrom_78 (lv_at hl 0 rfl) ?_
    refine lv_iadd hx hb dX12_monthsFrom_80 ?_
    have hpost : ((((x_1 / 12) * 10000) + (((x_1 - x_1 / 12 * 12) + 1) * 100)) + r_2) = f_X12_monthsFrom p0 p1 p2 := by subst ex_1 er_2; refine Eq.symm ?_; refine (if_neg c_3).trans ?_; rfl
    have hP9 := hP.sub (ws' := []) [] rfl
    have hD9 := hD.sub (ws' := []) [] (by decide) rfl
    have hK9 := hK.sub (tys' := []) [] rfl
    exact W.iret (v := ((((x_1 / 12) * 10000) + (((x_1 - x_1 / 12 * 12) + 1) * 100)) + r_2)) hx hb hr (fun t ht hW => ⟨⟨((((x_1 / 12) * 10000) + (((x_1 - x_1 / 12 * 12) + 1) * 100)) + r_2), (), rfl, hpost, by rw [ht]; exact hP9, va_K.moved hW.alike hK9, hD9⟩, hS.F ht⟩) hS.2.2 dX12_monthsFrom_81
  · refine lv_iload_n hx hb dX12_monthsFrom_40 rfl (lv_at hl 2 rfl) ?_
    refine lv_bipush (v := 100) hx hb dX12_monthsFrom_41 (by decide) ?_
    refine lv_irem hx hb dX12_monthsFrom_43 (by decide) ?_
    refine lv_iload hx hb dX12_monthsFrom_44 (lv_at hl 0 rfl) ?_
    refine lv_icmp_le (tgt := 54) hx hb dX12_monthsFrom_46 (by decide) (fun c_4 => ?_) (fun c_4 => ?_)
    · refine lv_iload_n hx hb dX12_monthsFrom_54 rfl (lv_at hl 2 rfl) ?_
      refine lv_bipush (v := 100) hx hb dX12_monthsFrom_55 (by decide) ?_
      refine lv_irem hx hb dX12_monthsFrom_57 (by decide) ?_
      refine lv_topi (fun x_5 ex_5 => ?_)
      refine lv_istore (lv' := [(5, .int x_5), (4, .int r_2), (3, .int x_1), (0, .int p0), (1, .int p1), (2, .int p2)]) hx hb dX12_monthsFrom_58 hl (by decide) rfl (fun ls hl => ?_)
      refine lv_iload_n hx hb dX12_monthsFrom_60 rfl (lv_at hl 2 rfl) ?_
      refine lv_bipush (v := 12) hx hb dX12_monthsFrom_61 (by decide) ?_
      refine lv_idiv hx hb dX12_monthsFrom_63 (by decide) ?_
      refine lv_sipush (v := 10000) hx hb dX12_monthsFrom_64 (by decide) ?_
      refine lv_imul hx hb dX12_monthsFrom_67 ?_
      refine lv_iload_n hx hb dX12_monthsFrom_68 rfl (lv_at hl 2 rfl) ?_
      refine lv_bipush (v := 12) hx hb dX12_monthsFrom_69 (by decide) ?_
      refine lv_irem hx hb dX12_monthsFrom_71 (by decide) ?_
      refine lv_iconst (v := 1) hx hb dX12_monthsFrom_72 (by decide) ?_
      refine lv_iadd hx hb dX12_monthsFrom_73 ?_
      refine lv_bipush (v := 100) hx hb dX12_monthsFrom_74 (by decide) ?_
      refine lv_imul hx hb dX12_monthsFrom_76 ?_
      refine lv_iadd hx hb dX12_monthsFrom_77 ?_
      refine lv_iload hx hb dX12_monthsFrom_78 (lv_at hl 0 rfl) ?_
      refine lv_iadd hx hb dX12_monthsFrom_80 ?_
      have hpost : ((((x_1 / 12) * 10000) + (((x_1 - x_1 / 12 * 12) + 1) * 100)) + x_5) = f_X12_monthsFrom p0 p1 p2 := by subst ex_1 er_2 ex_5; refine Eq.symm ?_; refine (if_pos c_3).trans ?_; refine (if_pos c_4).trans ?_; rfl
      have hP9 := hP.sub (ws' := []) [] rfl
      have hD9 := hD.sub (ws' := []) [] (by decide) rfl
      have hK9 := hK.sub (tys' := []) [] rfl
      exact W.iret (v := ((((x_1 / 12) * 10000) + (((x_1 - x_1 / 12 * 12) + 1) * 100)) + x_5)) hx hb hr (fun t ht hW => ⟨⟨((((x_1 / 12) * 10000) + (((x_1 - x_1 / 12 * 12) + 1) * 100)) + x_5), (), rfl, hpost, by rw [ht]; exact hP9, va_K.moved hW.alike hK9, hD9⟩, hS.F ht⟩) hS.2.2 dX12_monthsFrom_81
    · refine lv_iload hx hb dX12_monthsFrom_49 (lv_at hl 0 rfl) ?_
      refine lv_goto (tgt := 58) hx hb dX12_monthsFrom_51 (by decide) ?_
      refine lv_istore (lv' := [(5, .int r_2), (4, .int r_2), (3, .int x_1), (0, .int p0), (1, .int p1), (2, .int p2)]) hx hb dX12_monthsFrom_58 hl (by decide) rfl (fun ls hl => ?_)
      refine lv_iload_n hx hb dX12_monthsFrom_60 rfl (lv_at hl 2 rfl) ?_
      refine lv_bipush (v := 12) hx hb dX12_monthsFrom_61 (by decide) ?_
      refine lv_idiv hx hb dX12_monthsFrom_63 (by decide) ?_
      refine lv_sipush (v := 10000) hx hb dX12_monthsFrom_64 (by decide) ?_
      refine lv_imul hx hb dX12_monthsFrom_67 ?_
      refine lv_iload_n hx hb dX12_monthsFrom_68 rfl (lv_at hl 2 rfl) ?_
      refine lv_bipush (v := 12) hx hb dX12_monthsFrom_69 (by decide) ?_
      refine lv_irem hx hb dX12_monthsFrom_71 (by decide) ?_
      refine lv_iconst (v := 1) hx hb dX12_monthsFrom_72 (by decide) ?_
      refine lv_iadd hx hb dX12_monthsFrom_73 ?_
      refine lv_bipush (v := 100) hx hb dX12_monthsFrom_74 (by decide) ?_
      refine lv_imul hx hb dX12_monthsFrom_76 ?_
      refine lv_iadd hx hb dX12_monthsFrom_77 ?_
      refine lv_iload hx hb dX12_monthsFrom_78 (lv_at hl 0 rfl) ?_
      refine lv_iadd hx hb dX12_monthsFrom_80 ?_
      have hpost : ((((x_1 / 12) * 10000) + (((x_1 - x_1 / 12 * 12) + 1) * 100)) + r_2) = f_X12_monthsFrom p0 p1 p2 := by subst ex_1 er_2; refine Eq.symm ?_; refine (if_pos c_3).trans ?_; refine (if_neg c_4).trans ?_; rfl
      have hP9 := hP.sub (ws' := []) [] rfl
      have hD9 := hD.sub (ws' := []) [] (by decide) rfl
      have hK9 := hK.sub (tys' := []) [] rfl
      exact W.iret (v := ((((x_1 / 12) * 10000) + (((x_1 - x_1 / 12 * 12) + 1) * 100)) + r_2)) hx hb hr (fun t ht hW => ⟨⟨((((x_1 / 12) * 10000) + (((x_1 - x_1 / 12 * 12) + 1) * 100)) + r_2), (), rfl, hpost, by rw [ht]; exact hP9, va_K.moved hW.alike hK9, hD9⟩, hS.F ht⟩) hS.2.2 dX12_monthsFrom_81
def f_X12_weekdayOf (p0 : Int32) : Int32 :=
  (((p0 - 723120) + 7000001) - ((p0 - 723120) + 7000001) / 7 * 7)
set_option maxHeartbeats 4000000 in
set_option maxRecDepth 100000 in
theorem k_X12_weekdayOf (l : Launch) (dC : Nat → ClassId) (dI : Nat → Nat → Nat) (sz : Nat) (p0 : Int32) : Met l yX12_weekdayOf wsX12_weekdayOf ({ frames := 2, cells := 0, slots := 0, locals := 43 }) (va_Pc [.int p0] (fun U => U.heap.size = sz ∧ va_P (dC, dI) vwCl [] U.heap ∧ va_K (dC, dI) vwCl [] U ∧ va_D (fun _ => True) [])) (va_Qi (fun (r : Int32) (_ : Unit) => r = f_X12_weekdayOf p0) (fun _ t => va_P (dC, dI) vwCl [] t.heap ∧ va_K (dC, dI) vwCl [] t ∧ va_D (va_A [] sz) []) (va_A [] sz)) 0 0 (va_A [] sz) := by
  refine Met.ofW (cc := cX12_weekdayOf) (maxL := 1) (ret := (some .int)) (by decide) rfl ?_
  intro p e s m args below meth c s₁ B hml hv
  obtain ⟨rfl, hsz, hP, hK, hD0⟩ := hv
  have hx := B.exec
  have hb := B.bytes
  have hr := B.returns
  have hts := atoms_spec (ws := wsX12_weekdayOf) B.pre
  have hown : s.vm.findClass RX12 = some m.cls := findClass_of_methodNamed B.named
  have hlocks := B.notSynchronized
  subst hsz
  have hD := hD0.self (sz := s.heap.size)
  generalize hAe : va_A [] s.heap.size = A at hD ⊢
  have hA : ∀ q : Nat, s.heap.size ≤ q → A q := fun q h => by rw [← hAe]; exact Or.inr h
  have hS : va_S A s.heap s.heap [] := va_S.rf
  have hP : va_P (dC, dI) vwCl [] s.heap := hP
  have hl := lv_entry ([.int p0]) (n := 1) (Nat.le_of_ble_eq_true rfl)
  rw [lg_entry_eq]
  generalize (lg_sl ([.int p0]) ++ List.replicate (1 - (lg_sl ([.int p0])).length) Slot.unset).toArray = ls at hl ⊢
  have hl : lv_has ls 1 [(0, .int p0)] := hl
  refine lv_iload_n hx hb dX12_weekdayOf_0 rfl (lv_at hl 0 rfl) ?_
  refine lv_ldc (v := 19800101) hx hb hown (hts (.constant RX12 130 (19800101)) (by decide +kernel)) dX12_weekdayOf_1 ?_
  have hPc := hP.sub (ws' := []) [] rfl
  have hDc := hD.sub (ws' := []) [] (by decide) rfl
  have hKc := hK.sub (tys' := []) [] rfl
  have hFc := va_free (wc := []) hD hS hA [] rfl
  refine va_calli (va_runS (As := [.int 19800101]) (rest := [.int p0]) ⟨hx, hb, hml, hown, hts⟩ (k_X12_dayOf l dC dI s.heap.size 19800101) (va_cwS 1 hts gX12_weekdayOf_X12_dayOf rfl rfl rfl (by decide +kernel) ⟨Nat.le_of_ble_eq_true rfl, Nat.le_of_ble_eq_true rfl⟩) ⟨fun a U g mk q => by obtain ⟨q0, q1, qP, qK, qD⟩ := q; exact ⟨q0, q1, qP, va_K.moved (u := U) (U := U.calling g mk a) (Vm.Alike.refl U.vm) qK, qD⟩, fun U hU hW => ⟨rfl, by rw [hU], by rw [hU]; exact hPc, va_K.moved hW.alike hKc, hDc.weaken (fun _ _ _ _ => trivial)⟩⟩ rfl rfl hl.1 rfl (lv_room (Nat.le_of_ble_eq_true rfl)) dX12_weekdayOf_3 ⟨Nat.le_of_ble_eq_true rfl, Nat.le_of_ble_eq_true rfl⟩) hS (fun q _ h => hFc q h) hFc (fun r_1 u t H1 locs ht hvm hw hB hz1 hk1 hS => ?_)
  obtain ⟨hP1, hK1, hD1⟩ := hB
  rw [ht] at hP1
  have hK1 := va_K.moved hvm.symm hK1
  obtain ⟨hP, hD⟩ := va_join (wr := []) (w1 := []) hP hD [] [] rfl rfl (by decide) (by decide) hk1 hFc hP1 hD1
  generalize H1 = H at hP hS ⊢
  have hP : va_P (dC, dI) vwCl [] H := hP
  have hD : va_D A [] := hD
  have er_1 : r_1 = f_X12_dayOf 19800101 := hw
  obtain rfl : r_1 = 723120 := er_1.trans (by decide +kernel)
  refine lv_isub hx hb dX12_weekdayOf_6 ?_
  refine lv_ldc (v := 7000001) hx hb hown (hts (.constant RX12 146 (7000001)) (by decide +kernel)) dX12_weekdayOf_7 ?_
  refine lv_iadd hx hb dX12_weekdayOf_9 ?_
  refine lv_bipush (v := 7) hx hb dX12_weekdayOf_10 (by decide) ?_
  refine lv_irem hx hb dX12_weekdayOf_12 (by decide) ?_
  have hpost : (((p0 - 723120) + 7000001) - ((p0 - 723120) + 7000001) / 7 * 7) = f_X12_weekdayOf p0 := by refine Eq.symm ?_; rfl
  have hP9 := hP.sub (ws' := []) [] rfl
  have hD9 := hD.sub (ws' := []) [] (by decide) rfl
  have hK9 := hK.sub (tys' := []) [] rfl
  exact W.iret (v := (((p0 - 723120) + 7000001) - ((p0 - 723120) + 7000001) / 7 * 7)) hx hb hr (fun t ht hW => ⟨⟨(((p0 - 723120) + 7000001) - ((p0 - 723120) + 7000001) / 7 * 7), (), rfl, hpost, by rw [ht]; exact hP9, va_K.moved hW.alike hK9, hD9⟩, hS.F ht⟩) hS.2.2 dX12_weekdayOf_13
def f_X12_thirties (p0 : Int32) (p1 : Int32) (p2 : Int32) : Int32 :=
  if (p0 - p0 / 100 * 100) = 31 then
    if (p1 - p1 / 100 * 100) = 31 then
      if p2 = 0 then
        ((((360 * ((p1 / 10000) - (p0 / 10000))) + (30 * (((p1 / 100) - (p1 / 100) / 100 * 100) - ((p0 / 100) - (p0 / 100) / 100 * 100)))) + 30) - 30)
      else
        ((((360 * ((p1 / 10000) - (p0 / 10000))) + (30 * (((p1 / 100) - (p1 / 100) / 100 * 100) - ((p0 / 100) - (p0 / 100) / 100 * 100)))) + 30) - 30)
    else
      let x_9 : Int32 := (p1 - p1 / 100 * 100)
      ((((360 * ((p1 / 10000) - (p0 / 10000))) + (30 * (((p1 / 100) - (p1 / 100) / 100 * 100) - ((p0 / 100) - (p0 / 100) / 100 * 100)))) + x_9) - 30)
  else
    let x_2 : Int32 := (p0 - p0 / 100 * 100)
    if (p1 - p1 / 100 * 100) = 31 then
      if p2 = 0 then
        if x_2 = 30 then
          ((((360 * ((p1 / 10000) - (p0 / 10000))) + (30 * (((p1 / 100) - (p1 / 100) / 100 * 100) - ((p0 / 100) - (p0 / 100) / 100 * 100)))) + 30) - x_2)
        else
          let x_7 : Int32 := (p1 - p1 / 100 * 100)
          ((((360 * ((p1 / 10000) - (p0 / 10000))) + (30 * (((p1 / 100) - (p1 / 100) / 100 * 100) - ((p0 / 100) - (p0 / 100) / 100 * 100)))) + x_7) - x_2)
      else
        ((((360 * ((p1 / 10000) - (p0 / 10000))) + (30 * (((p1 / 100) - (p1 / 100) / 100 * 100) - ((p0 / 100) - (p0 / 100) / 100 * 100)))) + 30) - x_2)
    else
      let x_4 : Int32 := (p1 - p1 / 100 * 100)
      ((((360 * ((p1 / 10000) - (p0 / 10000))) + (30 * (((p1 / 100) - (p1 / 100) / 100 * 100) - ((p0 / 100) - (p0 / 100) / 100 * 100)))) + x_4) - x_2)
set_option maxHeartbeats 4000000 in
set_option maxRecDepth 100000 in
theorem k_X12_thirties (l : Launch) (dC : Nat → ClassId) (dI : Nat → Nat → Nat) (sz : Nat) (p0 : Int32) (p1 : Int32) (p2 : Int32) : Met l yX12_thirties wsX12_thirties ({ frames := 0, cells := 0, slots := 0, locals := 0 }) (va_Pc [.int p0, .int p1, .int p2] (fun U => U.heap.size = sz ∧ va_P (dC, dI) vwCl [] U.heap ∧ va_K (dC, dI) vwCl [] U ∧ va_D (fun _ => True) [])) (va_Qi (fun (r : Int32) (_ : Unit) => r = f_X12_thirties p0 p1 p2) (fun _ t => va_P (dC, dI) vwCl [] t.heap ∧ va_K (dC, dI) vwCl [] t ∧ va_D (va_A [] sz) []) (va_A [] sz)) 0 0 (va_A [] sz) := by
  refine Met.ofW (cc := cX12_thirties) (maxL := 5) (ret := (some .int)) (by decide) rfl ?_
  intro p e s m args below meth c s₁ B hml hv
  obtain ⟨rfl, hsz, hP, hK, hD0⟩ := hv
  have hx := B.exec
  have hb := B.bytes
  have hr := B.returns
  have hts := atoms_spec (ws := wsX12_thirties) B.pre
  have hown : s.vm.findClass RX12 = some m.cls := findClass_of_methodNamed B.named
  have hlocks := B.notSynchronized
  subst hsz
  have hD := hD0.self (sz := s.heap.size)
  generalize hAe : va_A [] s.heap.size = A at hD ⊢
  have hA : ∀ q : Nat, s.heap.size ≤ q → A q := fun q h => by rw [← hAe]; exact Or.inr h
  have hS : va_S A s.heap s.heap [] := va_S.rf
  have hP : va_P (dC, dI) vwCl [] s.heap := hP
  have hl := lv_entry ([.int p0, .int p1, .int p2]) (n := 5) (Nat.le_of_ble_eq_true rfl)
  rw [lg_entry_eq]
  generalize (lg_sl ([.int p0, .int p1, .int p2]) ++ List.replicate (5 - (lg_sl ([.int p0, .int p1, .int p2])).length) Slot.unset).toArray = ls at hl ⊢
  have hl : lv_has ls 5 [(0, .int p0), (1, .int p1), (2, .int p2)] := hl
  refine lv_iload_n hx hb dX12_thirties_0 rfl (lv_at hl 0 rfl) ?_
  refine lv_bipush (v := 100) hx hb dX12_thirties_1 (by decide) ?_
  refine lv_irem hx hb dX12_thirties_3 (by decide) ?_
  refine lv_bipush (v := 31) hx hb dX12_thirties_4 (by decide) ?_
  refine lv_icmp_ne (tgt := 14) hx hb dX12_thirties_6 (by decide) (fun c_1 => ?_) (fun c_1 => ?_)
  · refine lv_iload_n hx hb dX12_thirties_14 rfl (lv_at hl 0 rfl) ?_
    refine lv_bipush (v := 100) hx hb dX12_thirties_15 (by decide) ?_
    refine lv_irem hx hb dX12_thirties_17 (by decide) ?_
    refine lv_topi (fun x_2 ex_2 => ?_)
    refine lv_istore_n (lv' := [(3, .int x_2), (0, .int p0), (1, .int p1), (2, .int p2)]) hx hb dX12_thirties_18 rfl hl (by decide) rfl (fun ls hl => ?_)
    refine lv_iload_n hx hb dX12_thirties_19 rfl (lv_at hl 2 rfl) ?_
    refine lv_bipush (v := 100) hx hb dX12_thirties_20 (by decide) ?_
    refine lv_irem hx hb dX12_thirties_22 (by decide) ?_
    refine lv_bipush (v := 31) hx hb dX12_thirties_23 (by decide) ?_
    refine lv_icmp_ne (tgt := 43) hx hb dX12_thirties_25 (by decide) (fun c_3 => ?_) (fun c_3 => ?_)
    · refine lv_iload_n hx hb dX12_thirties_43 rfl (lv_at hl 2 rfl) ?_
      refine lv_bipush (v := 100) hx hb dX12_thirties_44 (by decide) ?_
      refine lv_irem hx hb dX12_thirties_46 (by decide) ?_
      refine lv_topi (fun x_4 ex_4 => ?_)
      refine lv_istore (lv' := [(4, .int x_4), (3, .int x_2), (0, .int p0), (1, .int p1), (2, .int p2)]) hx hb dX12_thirties_47 hl (by decide) rfl (fun ls hl => ?_)
      refine lv_sipush (v := 360) hx hb dX12_thirties_49 (by decide) ?_
      refine lv_iload_n hx hb dX12_thirties_52 rfl (lv_at hl 3 rfl) ?_
      refine lv_sipush (v := 10000) hx hb dX12_thirties_53 (by decide) ?_
      refine lv_idiv hx hb dX12_thirties_56 (by decide) ?_
      refine lv_iload_n hx hb dX12_thirties_57 rfl (lv_at hl 2 rfl) ?_
      refine lv_sipush (v := 10000) hx hb dX12_thirties_58 (by decide) ?_
      refine lv_idiv hx hb dX12_thirties_61 (by decide) ?_
      refine lv_isub hx hb dX12_thirties_62 ?_
      refine lv_imul hx hb dX12_thirties_63 ?_
      refine lv_bipush (v := 30) hx hb dX12_thirties_64 (by decide) ?_
      refine lv_iload_n hx hb dX12_thirties_66 rfl (lv_at hl 3 rfl) ?_
      refine lv_bipush (v := 100) hx hb dX12_thirties_67 (by decide) ?_
      refine lv_idiv hx hb dX12_thirties_69 (by decide) ?_
      refine lv_bipush (v := 100) hx hb dX12_thirties_70 (by decide) ?_
      refine lv_irem hx hb dX12_thirties_72 (by decide) ?_
      refine lv_iload_n hx hb dX12_thirties_73 rfl (lv_at hl 2 rfl) ?_
      refine lv_bipush (v := 100) hx hb dX12_thirties_74 (by decide) ?_
      refine lv_idiv hx hb dX12_thirties_76 (by decide) ?_
      refine lv_bipush (v := 100) hx hb dX12_thirties_77 (by decide) ?_
      refine lv_irem hx hb dX12_thirties_79 (by decide) ?_
      refine lv_isub hx hb dX12_thirties_80 ?_
      refine lv_imul hx hb dX12_thirties_81 ?_
      refine lv_iadd hx hb dX12_thirties_82 ?_
      refine lv_iload hx hb dX12_thirties_83 (lv_at hl 0 rfl) ?_
      refine lv_iadd hx hb dX12_thirties_85 ?_
      refine lv_iload_n hx hb dX12_thirties_86 rfl (lv_at hl 1 rfl) ?_
      refine lv_isub hx hb dX12_thirties_87 ?_
      have hpost : ((((360 * ((p1 / 10000) - (p0 / 10000))) + (30 * (((p1 / 100) - (p1 / 100) / 100 * 100) - ((p0 / 100) - (p0 / 100) / 100 * 100)))) + x_4) - x_2) = f_X12_thirties p0 p1 p2 := by subst ex_2 ex_4; refine Eq.symm ?_; refine (if_neg c_1).trans ?_; refine (if_neg c_3).trans ?_; rfl
      have hP9 := hP.sub (ws' := []) [] rfl
      have hD9 := hD.sub (ws' := []) [] (by decide) rfl
      have hK9 := hK.sub (tys' := []) [] rfl
      exact W.iret (v := ((((360 * ((p1 / 10000) - (p0 / 10000))) + (30 * (((p1 / 100) - (p1 / 100) / 100 * 100) - ((p0 / 100) - (p0 / 100) / 100 * 100)))) + x_4) - x_2)) hx hb hr (fun t ht hW => ⟨⟨((((360 * ((p1 / 10000) - (p0 / 10000))) + (30 * (((p1 / 100) - (p1 / 100) / 100 * 100) - ((p0 / 100) - (p0 / 100) / 100 * 100)))) + x_4) - x_2), (), rfl, hpost, by rw [ht]; exact hP9, va_K.moved hW.alike hK9, hD9⟩, hS.F ht⟩) hS.2.2 dX12_thirties_88
    · refine lv_iload_n hx hb dX12_thirties_28 rfl (lv_at hl 3 rfl) ?_
      refine lv_if_ne (tgt := 38) hx hb dX12_thirties_29 (by decide) (fun c_5 => ?_) (fun c_5 => ?_)
      · refine lv_bipush (v := 30) hx hb dX12_thirties_38 (by decide) ?_
        refine lv_goto (tgt := 47) hx hb dX12_thirties_40 (by decide) ?_
        refine lv_istore (lv' := [(4, .int 30), (3, .int x_2), (0, .int p0), (1, .int p1), (2, .int p2)]) hx hb dX12_thirties_47 hl (by decide) rfl (fun ls hl => ?_)
        refine lv_sipush (v := 360) hx hb dX12_thirties_49 (by decide) ?_
        refine lv_iload_n hx hb dX12_thirties_52 rfl (lv_at hl 3 rfl) ?_
        refine lv_sipush (v := 10000) hx hb dX12_thirties_53 (by decide) ?_
        refine lv_idiv hx hb dX12_thirties_56 (by decide) ?_
        refine lv_iload_n hx hb dX12_thirties_57 rfl (lv_at hl 2 rfl) ?_
        refine lv_sipush (v := 10000) hx hb dX12_thirties_58 (by decide) ?_
        refine lv_idiv hx hb dX12_thirties_61 (by decide) ?_
        refine lv_isub hx hb dX12_thirties_62 ?_
        refine lv_imul hx hb dX12_thirties_63 ?_
        refine lv_bipush (v := 30) hx hb dX12_thirties_64 (by decide) ?_
        refine lv_iload_n hx hb dX12_thirties_66 rfl (lv_at hl 3 rfl) ?_
        refine lv_bipush (v := 100) hx hb dX12_thirties_67 (by decide) ?_
        refine lv_idiv hx hb dX12_thirties_69 (by decide) ?_
        refine lv_bipush (v := 100) hx hb dX12_thirties_70 (by decide) ?_
        refine lv_irem hx hb dX12_thirties_72 (by decide) ?_
        refine lv_iload_n hx hb dX12_thirties_73 rfl (lv_at hl 2 rfl) ?_
        refine lv_bipush (v := 100) hx hb dX12_thirties_74 (by decide) ?_
        refine lv_idiv hx hb dX12_thirties_76 (by decide) ?_
        refine lv_bipush (v := 100) hx hb dX12_thirties_77 (by decide) ?_
        refine lv_irem hx hb dX12_thirties_79 (by decide) ?_
        refine lv_isub hx hb dX12_thirties_80 ?_
        refine lv_imul hx hb dX12_thirties_81 ?_
        refine lv_iadd hx hb dX12_thirties_82 ?_
        refine lv_iload hx hb dX12_thirties_83 (lv_at hl 0 rfl) ?_
        refine lv_iadd hx hb dX12_thirties_85 ?_
        refine lv_iload_n hx hb dX12_thirties_86 rfl (lv_at hl 1 rfl) ?_
        refine lv_isub hx hb dX12_thirties_87 ?_
        have hpost : ((((360 * ((p1 / 10000) - (p0 / 10000))) + (30 * (((p1 / 100) - (p1 / 100) / 100 * 100) - ((p0 / 100) - (p0 / 100) / 100 * 100)))) + 30) - x_2) = f_X12_thirties p0 p1 p2 := by subst ex_2; refine Eq.symm ?_; refine (if_neg c_1).trans ?_; refine (if_pos c_3).trans ?_; refine (if_neg c_5).trans ?_; rfl
        have hP9 := hP.sub (ws' := []) [] rfl
        have hD9 := hD.sub (ws' := []) [] (by decide) rfl
        have hK9 := hK.sub (tys' := []) [] rfl
        exact W.iret (v := ((((360 * ((p1 / 10000) - (p0 / 10000))) + (30 * (((p1 / 100) - (p1 / 100) / 100 * 100) - ((p0 / 100) - (p0 / 100) / 100 * 100)))) + 30) - x_2)) hx hb hr (fun t ht hW => ⟨⟨((((360 * ((p1 / 10000) - (p0 / 10000))) + (30 * (((p1 / 100) - (p1 / 100) / 100 * 100) - ((p0 / 100) - (p0 / 100) / 100 * 100)))) + 30) - x_2), (), rfl, hpost, by rw [ht]; exact hP9, va_K.moved hW.alike hK9, hD9⟩, hS.F ht⟩) hS.2.2 dX12_thirties_88
      · refine lv_iload_n hx hb dX12_thirties_32 rfl (lv_at hl 0 rfl) ?_
        refine lv_bipush (v := 30) hx hb dX12_thirties_33 (by decide) ?_
        refine lv_icmp_ne (tgt := 43) hx hb dX12_thirties_35 (by decide) (fun c_6 => ?_) (fun c_6 => ?_)
        · refine lv_iload_n hx hb dX12_thirties_43 rfl (lv_at hl 2 rfl) ?_
          refine lv_bipush (v := 100) hx hb dX12_thirties_44 (by decide) ?_
          refine lv_irem hx hb dX12_thirties_46 (by decide) ?_
          refine lv_topi (fun x_7 ex_7 => ?_)
          refine lv_istore (lv' := [(4, .int x_7), (3, .int x_2), (0, .int p0), (1, .int p1), (2, .int p2)]) hx hb dX12_thirties_47 hl (by decide) rfl (fun ls hl => ?_)
          refine lv_sipush (v := 360) hx hb dX12_thirties_49 (by decide) ?_
          refine lv_iload_n hx hb dX12_thirties_52 rfl (lv_at hl 3 rfl) ?_
          refine lv_sipush (v := 10000) hx hb dX12_thirties_53 (by decide) ?_
          refine lv_idiv hx hb dX12_thirties_56 (by decide) ?_
          refine lv_iload_n hx hb dX12_thirties_57 rfl (lv_at hl 2 rfl) ?_
          refine lv_sipush (v := 10000) hx hb dX12_thirties_58 (by decide) ?_
          refine lv_idiv hx hb dX12_thirties_61 (by decide) ?_
          refine lv_isub hx hb dX12_thirties_62 ?_
          refine lv_imul hx hb dX12_thirties_63 ?_
          refine lv_bipush (v := 30) hx hb dX12_thirties_64 (by decide) ?_
          refine lv_iload_n hx hb dX12_thirties_66 rfl (lv_at hl 3 rfl) ?_
          refine lv_bipush (v := 100) hx hb dX12_thirties_67 (by decide) ?_
          refine lv_idiv hx hb dX12_thirties_69 (by decide) ?_
          refine lv_bipush (v := 100) hx hb dX12_thirties_70 (by decide) ?_
          refine lv_irem hx hb dX12_thirties_72 (by decide) ?_
          refine lv_iload_n hx hb dX12_thirties_73 rfl (lv_at hl 2 rfl) ?_
          refine lv_bipush (v := 100) hx hb dX12_thirties_74 (by decide) ?_
          refine lv_idiv hx hb dX12_thirties_76 (by decide) ?_
          refine lv_bipush (v := 100) hx hb dX12_thirties_77 (by decide) ?_
          refine lv_irem hx hb dX12_thirties_79 (by decide) ?_
          refine lv_isub hx hb dX12_thirties_80 ?_
          refine lv_imul hx hb dX12_thirties_81 ?_
          refine lv_iadd hx hb dX12_thirties_82 ?_
          refine lv_iload hx hb dX12_thirties_83 (lv_at hl 0 rfl) ?_
          refine lv_iadd hx hb dX12_thirties_85 ?_
          refine lv_iload_n hx hb dX12_thirties_86 rfl (lv_at hl 1 rfl) ?_
          refine lv_isub hx hb dX12_thirties_87 ?_
          have hpost : ((((360 * ((p1 / 10000) - (p0 / 10000))) + (30 * (((p1 / 100) - (p1 / 100) / 100 * 100) - ((p0 / 100) - (p0 / 100) / 100 * 100)))) + x_7) - x_2) = f_X12_thirties p0 p1 p2 := by subst ex_2 ex_7; refine Eq.symm ?_; refine (if_neg c_1).trans ?_; refine (if_pos c_3).trans ?_; refine (if_pos c_5).trans ?_; refine (if_neg c_6).trans ?_; rfl
          have hP9 := hP.sub (ws' := []) [] rfl
          have hD9 := hD.sub (ws' := []) [] (by decide) rfl
          have hK9 := hK.sub (tys' := []) [] rfl
          exact W.iret (v := ((((360 * ((p1 / 10000) - (p0 / 10000))) + (30 * (((p1 / 100) - (p1 / 100) / 100 * 100) - ((p0 / 100) - (p0 / 100) / 100 * 100)))) + x_7) - x_2)) hx hb hr (fun t ht hW => ⟨⟨((((360 * ((p1 / 10000) - (p0 / 10000))) + (30 * (((p1 / 100) - (p1 / 100) / 100 * 100) - ((p0 / 100) - (p0 / 100) / 100 * 100)))) + x_7) - x_2), (), rfl, hpost, by rw [ht]; exact hP9, va_K.moved hW.alike hK9, hD9⟩, hS.F ht⟩) hS.2.2 dX12_thirties_88
        · refine lv_bipush (v := 30) hx hb dX12_thirties_38 (by decide) ?_
          refine lv_goto (tgt := 47) hx hb dX12_thirties_40 (by decide) ?_
          refine lv_istore (lv' := [(4, .int 30), (3, .int x_2), (0, .int p0), (1, .int p1), (2, .int p2)]) hx hb dX12_thirties_47 hl (by decide) rfl (fun ls hl => ?_)
          refine lv_sipush (v := 360) hx hb dX12_thirties_49 (by decide) ?_
          refine lv_iload_n hx hb dX12_thirties_52 rfl (lv_at hl 3 rfl) ?_
          refine lv_sipush (v := 10000) hx hb dX12_thirties_53 (by decide) ?_
          refine lv_idiv hx hb dX12_thirties_56 (by decide) ?_
          refine lv_iload_n hx hb dX12_thirties_57 rfl (lv_at hl 2 rfl) ?_
          refine lv_sipush (v := 10000) hx hb dX12_thirties_58 (by decide) ?_
          refine lv_idiv hx hb dX12_thirties_61 (by decide) ?_
          refine lv_isub hx hb dX12_thirties_62 ?_
          refine lv_imul hx hb dX12_thirties_63 ?_
          refine lv_bipush (v := 30) hx hb dX12_thirties_64 (by decide) ?_
          refine lv_iload_n hx hb dX12_thirties_66 rfl (lv_at hl 3 rfl) ?_
          refine lv_bipush (v := 100) hx hb dX12_thirties_67 (by decide) ?_
          refine lv_idiv hx hb dX12_thirties_69 (by decide) ?_
          refine lv_bipush (v := 100) hx hb dX12_thirties_70 (by decide) ?_
          refine lv_irem hx hb dX12_thirties_72 (by decide) ?_
          refine lv_iload_n hx hb dX12_thirties_73 rfl (lv_at hl 2 rfl) ?_
          refine lv_bipush (v := 100) hx hb dX12_thirties_74 (by decide) ?_
          refine lv_idiv hx hb dX12_thirties_76 (by decide) ?_
          refine lv_bipush (v := 100) hx hb dX12_thirties_77 (by decide) ?_
          refine lv_irem hx hb dX12_thirties_79 (by decide) ?_
          refine lv_isub hx hb dX12_thirties_80 ?_
          refine lv_imul hx hb dX12_thirties_81 ?_
          refine lv_iadd hx hb dX12_thirties_82 ?_
          refine lv_iload hx hb dX12_thirties_83 (lv_at hl 0 rfl) ?_
          refine lv_iadd hx hb dX12_thirties_85 ?_
          refine lv_iload_n hx hb dX12_thirties_86 rfl (lv_at hl 1 rfl) ?_
          refine lv_isub hx hb dX12_thirties_87 ?_
          have hpost : ((((360 * ((p1 / 10000) - (p0 / 10000))) + (30 * (((p1 / 100) - (p1 / 100) / 100 * 100) - ((p0 / 100) - (p0 / 100) / 100 * 100)))) + 30) - x_2) = f_X12_thirties p0 p1 p2 := by subst ex_2; refine Eq.symm ?_; refine (if_neg c_1).trans ?_; refine (if_pos c_3).trans ?_; refine (if_pos c_5).trans ?_; refine (if_pos c_6).trans ?_; rfl
          have hP9 := hP.sub (ws' := []) [] rfl
          have hD9 := hD.sub (ws' := []) [] (by decide) rfl
          have hK9 := hK.sub (tys' := []) [] rfl
          exact W.iret (v := ((((360 * ((p1 / 10000) - (p0 / 10000))) + (30 * (((p1 / 100) - (p1 / 100) / 100 * 100) - ((p0 / 100) - (p0 / 100) / 100 * 100)))) + 30) - x_2)) hx hb hr (fun t ht hW => ⟨⟨((((360 * ((p1 / 10000) - (p0 / 10000))) + (30 * (((p1 / 100) - (p1 / 100) / 100 * 100) - ((p0 / 100) - (p0 / 100) / 100 * 100)))) + 30) - x_2), (), rfl, hpost, by rw [ht]; exact hP9, va_K.moved hW.alike hK9, hD9⟩, hS.F ht⟩) hS.2.2 dX12_thirties_88
  · refine lv_bipush (v := 30) hx hb dX12_thirties_9 (by decide) ?_
    refine lv_goto (tgt := 18) hx hb dX12_thirties_11 (by decide) ?_
    refine lv_istore_n (lv' := [(3, .int 30), (0, .int p0), (1, .int p1), (2, .int p2)]) hx hb dX12_thirties_18 rfl hl (by decide) rfl (fun ls hl => ?_)
    refine lv_iload_n hx hb dX12_thirties_19 rfl (lv_at hl 2 rfl) ?_
    refine lv_bipush (v := 100) hx hb dX12_thirties_20 (by decide) ?_
    refine lv_irem hx hb dX12_thirties_22 (by decide) ?_
    refine lv_bipush (v := 31) hx hb dX12_thirties_23 (by decide) ?_
    refine lv_icmp_ne (tgt := 43) hx hb dX12_thirties_25 (by decide) (fun c_8 => ?_) (fun c_8 => ?_)
    · refine lv_iload_n hx hb dX12_thirties_43 rfl (lv_at hl 2 rfl) ?_
      refine lv_bipush (v := 100) hx hb dX12_thirties_44 (by decide) ?_
      refine lv_irem hx hb dX12_thirties_46 (by decide) ?_
      refine lv_topi (fun x_9 ex_9 => ?_)
      refine lv_istore (lv' := [(4, .int x_9), (3, .int 30), (0, .int p0), (1, .int p1), (2, .int p2)]) hx hb dX12_thirties_47 hl (by decide) rfl (fun ls hl => ?_)
      refine lv_sipush (v := 360) hx hb dX12_thirties_49 (by decide) ?_
      refine lv_iload_n hx hb dX12_thirties_52 rfl (lv_at hl 3 rfl) ?_
      refine lv_sipush (v := 10000) hx hb dX12_thirties_53 (by decide) ?_
      refine lv_idiv hx hb dX12_thirties_56 (by decide) ?_
      refine lv_iload_n hx hb dX12_thirties_57 rfl (lv_at hl 2 rfl) ?_
      refine lv_sipush (v := 10000) hx hb dX12_thirties_58 (by decide) ?_
      refine lv_idiv hx hb dX12_thirties_61 (by decide) ?_
      refine lv_isub hx hb dX12_thirties_62 ?_
      refine lv_imul hx hb dX12_thirties_63 ?_
      refine lv_bipush (v := 30) hx hb dX12_thirties_64 (by decide) ?_
      refine lv_iload_n hx hb dX12_thirties_66 rfl (lv_at hl 3 rfl) ?_
      refine lv_bipush (v := 100) hx hb dX12_thirties_67 (by decide) ?_
      refine lv_idiv hx hb dX12_thirties_69 (by decide) ?_
      refine lv_bipush (v := 100) hx hb dX12_thirties_70 (by decide) ?_
      refine lv_irem hx hb dX12_thirties_72 (by decide) ?_
      refine lv_iload_n hx hb dX12_thirties_73 rfl (lv_at hl 2 rfl) ?_
      refine lv_bipush (v := 100) hx hb dX12_thirties_74 (by decide) ?_
      refine lv_idiv hx hb dX12_thirties_76 (by decide) ?_
      refine lv_bipush (v := 100) hx hb dX12_thirties_77 (by decide) ?_
      refine lv_irem hx hb dX12_thirties_79 (by decide) ?_
      refine lv_isub hx hb dX12_thirties_80 ?_
      refine lv_imul hx hb dX12_thirties_81 ?_
      refine lv_iadd hx hb dX12_thirties_82 ?_
      refine lv_iload hx hb dX12_thirties_83 (lv_at hl 0 rfl) ?_
      refine lv_iadd hx hb dX12_thirties_85 ?_
      refine lv_iload_n hx hb dX12_thirties_86 rfl (lv_at hl 1 rfl) ?_
      refine lv_isub hx hb dX12_thirties_87 ?_
      have hpost : ((((360 * ((p1 / 10000) - (p0 / 10000))) + (30 * (((p1 / 100) - (p1 / 100) / 100 * 100) - ((p0 / 100) - (p0 / 100) / 100 * 100)))) + x_9) - 30) = f_X12_thirties p0 p1 p2 := by subst ex_9; refine Eq.symm ?_; refine (if_pos c_1).trans ?_; refine (if_neg c_8).trans ?_; rfl
      have hP9 := hP.sub (ws' := []) [] rfl
      have hD9 := hD.sub (ws' := []) [] (by decide) rfl
      have hK9 := hK.sub (tys' := []) [] rfl
      exact W.iret (v := ((((360 * ((p1 / 10000) - (p0 / 10000))) + (30 * (((p1 / 100) - (p1 / 100) / 100 * 100) - ((p0 / 100) - (p0 / 100) / 100 * 100)))) + x_9) - 30)) hx hb hr (fun t ht hW => ⟨⟨((((360 * ((p1 / 10000) - (p0 / 10000))) + (30 * (((p1 / 100) - (p1 / 100) / 100 * 100) - ((p0 / 100) - (p0 / 100) / 100 * 100)))) + x_9) - 30), (), rfl, hpost, by rw [ht]; exact hP9, va_K.moved hW.alike hK9, hD9⟩, hS.F ht⟩) hS.2.2 dX12_thirties_88
    · refine lv_iload_n hx hb dX12_thirties_28 rfl (lv_at hl 3 rfl) ?_
      refine lv_if_ne (tgt := 38) hx hb dX12_thirties_29 (by decide) (fun c_10 => ?_) (fun c_10 => ?_)
      · refine lv_bipush (v := 30) hx hb dX12_thirties_38 (by decide) ?_
        refine lv_goto (tgt := 47) hx hb dX12_thirties_40 (by decide) ?_
        refine lv_istore (lv' := [(4, .int 30), (3, .int 30), (0, .int p0), (1, .int p1), (2, .int p2)]) hx hb dX12_thirties_47 hl (by decide) rfl (fun ls hl => ?_)
        refine lv_sipush (v := 360) hx hb dX12_thirties_49 (by decide) ?_
        refine lv_iload_n hx hb dX12_thirties_52 rfl (lv_at hl 3 rfl) ?_
        refine lv_sipush (v := 10000) hx hb dX12_thirties_53 (by decide) ?_
        refine lv_idiv hx hb dX12_thirties_56 (by decide) ?_
        refine lv_iload_n hx hb dX12_thirties_57 rfl (lv_at hl 2 rfl) ?_
        refine lv_sipush (v := 10000) hx hb dX12_thirties_58 (by decide) ?_
        refine lv_idiv hx hb dX12_thirties_61 (by decide) ?_
        refine lv_isub hx hb dX12_thirties_62 ?_
        refine lv_imul hx hb dX12_thirties_63 ?_
        refine lv_bipush (v := 30) hx hb dX12_thirties_64 (by decide) ?_
        refine lv_iload_n hx hb dX12_thirties_66 rfl (lv_at hl 3 rfl) ?_
        refine lv_bipush (v := 100) hx hb dX12_thirties_67 (by decide) ?_
        refine lv_idiv hx hb dX12_thirties_69 (by decide) ?_
        refine lv_bipush (v := 100) hx hb dX12_thirties_70 (by decide) ?_
        refine lv_irem hx hb dX12_thirties_72 (by decide) ?_
        refine lv_iload_n hx hb dX12_thirties_73 rfl (lv_at hl 2 rfl) ?_
        refine lv_bipush (v := 100) hx hb dX12_thirties_74 (by decide) ?_
        refine lv_idiv hx hb dX12_thirties_76 (by decide) ?_
        refine lv_bipush (v := 100) hx hb dX12_thirties_77 (by decide) ?_
        refine lv_irem hx hb dX12_thirties_79 (by decide) ?_
        refine lv_isub hx hb dX12_thirties_80 ?_
        refine lv_imul hx hb dX12_thirties_81 ?_
        refine lv_iadd hx hb dX12_thirties_82 ?_
        refine lv_iload hx hb dX12_thirties_83 (lv_at hl 0 rfl) ?_
        refine lv_iadd hx hb dX12_thirties_85 ?_
        refine lv_iload_n hx hb dX12_thirties_86 rfl (lv_at hl 1 rfl) ?_
        refine lv_isub hx hb dX12_thirties_87 ?_
        have hpost : ((((360 * ((p1 / 10000) - (p0 / 10000))) + (30 * (((p1 / 100) - (p1 / 100) / 100 * 100) - ((p0 / 100) - (p0 / 100) / 100 * 100)))) + 30) - 30) = f_X12_thirties p0 p1 p2 := by refine Eq.symm ?_; refine (if_pos c_1).trans ?_; refine (if_pos c_8).trans ?_; refine (if_neg c_10).trans ?_; rfl
        have hP9 := hP.sub (ws' := []) [] rfl
        have hD9 := hD.sub (ws' := []) [] (by decide) rfl
        have hK9 := hK.sub (tys' := []) [] rfl
        exact W.iret (v := ((((360 * ((p1 / 10000) - (p0 / 10000))) + (30 * (((p1 / 100) - (p1 / 100) / 100 * 100) - ((p0 / 100) - (p0 / 100) / 100 * 100)))) + 30) - 30)) hx hb hr (fun t ht hW => ⟨⟨((((360 * ((p1 / 10000) - (p0 / 10000))) + (30 * (((p1 / 100) - (p1 / 100) / 100 * 100) - ((p0 / 100) - (p0 / 100) / 100 * 100)))) + 30) - 30), (), rfl, hpost, by rw [ht]; exact hP9, va_K.moved hW.alike hK9, hD9⟩, hS.F ht⟩) hS.2.2 dX12_thirties_88
      · refine lv_iload_n hx hb dX12_thirties_32 rfl (lv_at hl 0 rfl) ?_
        refine lv_bipush (v := 30) hx hb dX12_thirties_33 (by decide) ?_
        refine lv_icmp_ne (tgt := 43) hx hb dX12_thirties_35 (by decide) (fun c_11 => ?_) (fun c_11 => ?_)
        · exact absurd (by decide) c_11
        · refine lv_bipush (v := 30) hx hb dX12_thirties_38 (by decide) ?_
          refine lv_goto (tgt := 47) hx hb dX12_thirties_40 (by decide) ?_
          refine lv_istore (lv' := [(4, .int 30), (3, .int 30), (0, .int p0), (1, .int p1), (2, .int p2)]) hx hb dX12_thirties_47 hl (by decide) rfl (fun ls hl => ?_)
          refine lv_sipush (v := 360) hx hb dX12_thirties_49 (by decide) ?_
          refine lv_iload_n hx hb dX12_thirties_52 rfl (lv_at hl 3 rfl) ?_
          refine lv_sipush (v := 10000) hx hb dX12_thirties_53 (by decide) ?_
          refine lv_idiv hx hb dX12_thirties_56 (by decide) ?_
          refine lv_iload_n hx hb dX12_thirties_57 rfl (lv_at hl 2 rfl) ?_
          refine lv_sipush (v := 10000) hx hb dX12_thirties_58 (by decide) ?_
          refine lv_idiv hx hb dX12_thirties_61 (by decide) ?_
          refine lv_isub hx hb dX12_thirties_62 ?_
          refine lv_imul hx hb dX12_thirties_63 ?_
          refine lv_bipush (v := 30) hx hb dX12_thirties_64 (by decide) ?_
          refine lv_iload_n hx hb dX12_thirties_66 rfl (lv_at hl 3 rfl) ?_
          refine lv_bipush (v := 100) hx hb dX12_thirties_67 (by decide) ?_
          refine lv_idiv hx hb dX12_thirties_69 (by decide) ?_
          refine lv_bipush (v := 100) hx hb dX12_thirties_70 (by decide) ?_
          refine lv_irem hx hb dX12_thirties_72 (by decide) ?_
          refine lv_iload_n hx hb dX12_thirties_73 rfl (lv_at hl 2 rfl) ?_
          refine lv_bipush (v := 100) hx hb dX12_thirties_74 (by decide) ?_
          refine lv_idiv hx hb dX12_thirties_76 (by decide) ?_
          refine lv_bipush (v := 100) hx hb dX12_thirties_77 (by decide) ?_
          refine lv_irem hx hb dX12_thirties_79 (by decide) ?_
          refine lv_isub hx hb dX12_thirties_80 ?_
          refine lv_imul hx hb dX12_thirties_81 ?_
          refine lv_iadd hx hb dX12_thirties_82 ?_
          refine lv_iload hx hb dX12_thirties_83 (lv_at hl 0 rfl) ?_
          refine lv_iadd hx hb dX12_thirties_85 ?_
          refine lv_iload_n hx hb dX12_thirties_86 rfl (lv_at hl 1 rfl) ?_
          refine lv_isub hx hb dX12_thirties_87 ?_
          have hpost : ((((360 * ((p1 / 10000) - (p0 / 10000))) + (30 * (((p1 / 100) - (p1 / 100) / 100 * 100) - ((p0 / 100) - (p0 / 100) / 100 * 100)))) + 30) - 30) = f_X12_thirties p0 p1 p2 := by refine Eq.symm ?_; refine (if_pos c_1).trans ?_; refine (if_pos c_8).trans ?_; refine (if_pos c_10).trans ?_; rfl
          have hP9 := hP.sub (ws' := []) [] rfl
          have hD9 := hD.sub (ws' := []) [] (by decide) rfl
          have hK9 := hK.sub (tys' := []) [] rfl
          exact W.iret (v := ((((360 * ((p1 / 10000) - (p0 / 10000))) + (30 * (((p1 / 100) - (p1 / 100) / 100 * 100) - ((p0 / 100) - (p0 / 100) / 100 * 100)))) + 30) - 30)) hx hb hr (fun t ht hW => ⟨⟨((((360 * ((p1 / 10000) - (p0 / 10000))) + (30 * (((p1 / 100) - (p1 / 100) / 100 * 100) - ((p0 / 100) - (p0 / 100) / 100 * 100)))) + 30) - 30), (), rfl, hpost, by rw [ht]; exact hP9, va_K.moved hW.alike hK9, hD9⟩, hS.F ht⟩) hS.2.2 dX12_thirties_88
